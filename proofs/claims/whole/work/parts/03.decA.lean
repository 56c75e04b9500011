/-! decode rows, laid by a program -/
theorem d_Tr_init_0 : decode c_Tr_init 0 = .ok (.aload_n 0, 1) := by decide +kernel
theorem d_Tr_init_1 : decode c_Tr_init 1 = .ok (.invokespecial 3, 3) := by decide +kernel
theorem d_Tr_init_4 : decode c_Tr_init 4 = .ok (.aload_n 0, 1) := by decide +kernel
theorem d_Tr_init_5 : decode c_Tr_init 5 = .ok (.sipush 300, 3) := by decide +kernel
theorem d_Tr_init_8 : decode c_Tr_init 8 = .ok (.newarray .int, 2) := by decide +kernel
theorem d_Tr_init_10 : decode c_Tr_init 10 = .ok (.putfield 9, 3) := by decide +kernel
theorem d_Tr_init_13 : decode c_Tr_init 13 = .ok (.aload_n 0, 1) := by decide +kernel
theorem d_Tr_init_14 : decode c_Tr_init 14 = .ok (.sipush 300, 3) := by decide +kernel
theorem d_Tr_init_17 : decode c_Tr_init 17 = .ok (.newarray .int, 2) := by decide +kernel
theorem d_Tr_init_19 : decode c_Tr_init 19 = .ok (.putfield 15, 3) := by decide +kernel
theorem d_Tr_init_22 : decode c_Tr_init 22 = .ok (.aload_n 0, 1) := by decide +kernel
theorem d_Tr_init_23 : decode c_Tr_init 23 = .ok (.sipush 300, 3) := by decide +kernel
theorem d_Tr_init_26 : decode c_Tr_init 26 = .ok (.newarray .int, 2) := by decide +kernel
theorem d_Tr_init_28 : decode c_Tr_init 28 = .ok (.putfield 18, 3) := by decide +kernel
theorem d_Tr_init_31 : decode c_Tr_init 31 = .ok (.aload_n 0, 1) := by decide +kernel
theorem d_Tr_init_32 : decode c_Tr_init 32 = .ok (.sipush 300, 3) := by decide +kernel
theorem d_Tr_init_35 : decode c_Tr_init 35 = .ok (.newarray .int, 2) := by decide +kernel
theorem d_Tr_init_37 : decode c_Tr_init 37 = .ok (.putfield 21, 3) := by decide +kernel
theorem d_Tr_init_40 : decode c_Tr_init 40 = .ok (.aload_n 0, 1) := by decide +kernel
theorem d_Tr_init_41 : decode c_Tr_init 41 = .ok (.sipush 300, 3) := by decide +kernel
theorem d_Tr_init_44 : decode c_Tr_init 44 = .ok (.newarray .int, 2) := by decide +kernel
theorem d_Tr_init_46 : decode c_Tr_init 46 = .ok (.putfield 24, 3) := by decide +kernel
theorem d_Tr_init_49 : decode c_Tr_init 49 = .ok (.aload_n 0, 1) := by decide +kernel
theorem d_Tr_init_50 : decode c_Tr_init 50 = .ok (.sipush 300, 3) := by decide +kernel
theorem d_Tr_init_53 : decode c_Tr_init 53 = .ok (.newarray .int, 2) := by decide +kernel
theorem d_Tr_init_55 : decode c_Tr_init 55 = .ok (.putfield 27, 3) := by decide +kernel
theorem d_Tr_init_58 : decode c_Tr_init 58 = .ok (.aload_n 0, 1) := by decide +kernel
theorem d_Tr_init_59 : decode c_Tr_init 59 = .ok (.sipush 300, 3) := by decide +kernel
theorem d_Tr_init_62 : decode c_Tr_init 62 = .ok (.newarray .int, 2) := by decide +kernel
theorem d_Tr_init_64 : decode c_Tr_init 64 = .ok (.putfield 30, 3) := by decide +kernel
theorem d_Tr_init_67 : decode c_Tr_init 67 = .ok (.aload_n 0, 1) := by decide +kernel
theorem d_Tr_init_68 : decode c_Tr_init 68 = .ok (.sipush 1800, 3) := by decide +kernel
theorem d_Tr_init_71 : decode c_Tr_init 71 = .ok (.newarray .int, 2) := by decide +kernel
theorem d_Tr_init_73 : decode c_Tr_init 73 = .ok (.putfield 33, 3) := by decide +kernel
theorem d_Tr_init_76 : decode c_Tr_init 76 = .ok (.aload_n 0, 1) := by decide +kernel
theorem d_Tr_init_77 : decode c_Tr_init 77 = .ok (.sipush 512, 3) := by decide +kernel
theorem d_Tr_init_80 : decode c_Tr_init 80 = .ok (.newarray .int, 2) := by decide +kernel
theorem d_Tr_init_82 : decode c_Tr_init 82 = .ok (.putfield 36, 3) := by decide +kernel
theorem d_Tr_init_85 : decode c_Tr_init 85 = .ok (.aload_n 0, 1) := by decide +kernel
theorem d_Tr_init_86 : decode c_Tr_init 86 = .ok (.sipush 300, 3) := by decide +kernel
theorem d_Tr_init_89 : decode c_Tr_init 89 = .ok (.newarray .int, 2) := by decide +kernel
theorem d_Tr_init_91 : decode c_Tr_init 91 = .ok (.putfield 39, 3) := by decide +kernel
theorem d_Tr_init_94 : decode c_Tr_init 94 = .ok (.aload_n 0, 1) := by decide +kernel
theorem d_Tr_init_95 : decode c_Tr_init 95 = .ok (.iconst 0, 1) := by decide +kernel
theorem d_Tr_init_96 : decode c_Tr_init 96 = .ok (.putfield 42, 3) := by decide +kernel
theorem d_Tr_init_99 : decode c_Tr_init 99 = .ok (.aload_n 0, 1) := by decide +kernel
theorem d_Tr_init_100 : decode c_Tr_init 100 = .ok (.getfield 36, 3) := by decide +kernel
theorem d_Tr_init_103 : decode c_Tr_init 103 = .ok (.iconst (-1), 1) := by decide +kernel
theorem d_Tr_init_104 : decode c_Tr_init 104 = .ok (.invokestatic 46, 3) := by decide +kernel
theorem d_Tr_init_107 : decode c_Tr_init 107 = .ok (.return_, 1) := by decide +kernel
theorem d_Ar_fill_0 : decode c_Ar_fill 0 = .ok (.iconst 0, 1) := by decide +kernel
theorem d_Ar_fill_1 : decode c_Ar_fill 1 = .ok (.istore_n 2, 1) := by decide +kernel
theorem d_Ar_fill_2 : decode c_Ar_fill 2 = .ok (.aload_n 0, 1) := by decide +kernel
theorem d_Ar_fill_3 : decode c_Ar_fill 3 = .ok (.arraylength, 1) := by decide +kernel
theorem d_Ar_fill_4 : decode c_Ar_fill 4 = .ok (.istore_n 3, 1) := by decide +kernel
theorem d_Ar_fill_5 : decode c_Ar_fill 5 = .ok (.iload_n 2, 1) := by decide +kernel
theorem d_Ar_fill_6 : decode c_Ar_fill 6 = .ok (.iload_n 3, 1) := by decide +kernel
theorem d_Ar_fill_7 : decode c_Ar_fill 7 = .ok (.if_icmp .ge 13, 3) := by decide +kernel
theorem d_Ar_fill_10 : decode c_Ar_fill 10 = .ok (.aload_n 0, 1) := by decide +kernel
theorem d_Ar_fill_11 : decode c_Ar_fill 11 = .ok (.iload_n 2, 1) := by decide +kernel
theorem d_Ar_fill_12 : decode c_Ar_fill 12 = .ok (.iload_n 1, 1) := by decide +kernel
theorem d_Ar_fill_13 : decode c_Ar_fill 13 = .ok (.iastore, 1) := by decide +kernel
theorem d_Ar_fill_14 : decode c_Ar_fill 14 = .ok (.iinc 2 1, 3) := by decide +kernel
theorem d_Ar_fill_17 : decode c_Ar_fill 17 = .ok (.goto (-12), 3) := by decide +kernel
theorem d_Ar_fill_20 : decode c_Ar_fill 20 = .ok (.return_, 1) := by decide +kernel
theorem d_Ru_init_0 : decode c_Ru_init 0 = .ok (.aload_n 0, 1) := by decide +kernel
theorem d_Ru_init_1 : decode c_Ru_init 1 = .ok (.invokespecial 3, 3) := by decide +kernel
theorem d_Ru_init_4 : decode c_Ru_init 4 = .ok (.aload_n 0, 1) := by decide +kernel
theorem d_Ru_init_5 : decode c_Ru_init 5 = .ok (.bipush 16, 2) := by decide +kernel
theorem d_Ru_init_7 : decode c_Ru_init 7 = .ok (.newarray .int, 2) := by decide +kernel
theorem d_Ru_init_9 : decode c_Ru_init 9 = .ok (.putfield 9, 3) := by decide +kernel
theorem d_Ru_init_12 : decode c_Ru_init 12 = .ok (.aload_n 0, 1) := by decide +kernel
theorem d_Ru_init_13 : decode c_Ru_init 13 = .ok (.bipush 16, 2) := by decide +kernel
theorem d_Ru_init_15 : decode c_Ru_init 15 = .ok (.newarray .int, 2) := by decide +kernel
theorem d_Ru_init_17 : decode c_Ru_init 17 = .ok (.putfield 15, 3) := by decide +kernel
theorem d_Ru_init_20 : decode c_Ru_init 20 = .ok (.aload_n 0, 1) := by decide +kernel
theorem d_Ru_init_21 : decode c_Ru_init 21 = .ok (.bipush 16, 2) := by decide +kernel
theorem d_Ru_init_23 : decode c_Ru_init 23 = .ok (.newarray .int, 2) := by decide +kernel
theorem d_Ru_init_25 : decode c_Ru_init 25 = .ok (.putfield 18, 3) := by decide +kernel
theorem d_Ru_init_28 : decode c_Ru_init 28 = .ok (.aload_n 0, 1) := by decide +kernel
theorem d_Ru_init_29 : decode c_Ru_init 29 = .ok (.bipush 16, 2) := by decide +kernel
theorem d_Ru_init_31 : decode c_Ru_init 31 = .ok (.newarray .boolean, 2) := by decide +kernel
theorem d_Ru_init_33 : decode c_Ru_init 33 = .ok (.putfield 21, 3) := by decide +kernel
theorem d_Ru_init_36 : decode c_Ru_init 36 = .ok (.aload_n 0, 1) := by decide +kernel
theorem d_Ru_init_37 : decode c_Ru_init 37 = .ok (.bipush 16, 2) := by decide +kernel
theorem d_Ru_init_39 : decode c_Ru_init 39 = .ok (.newarray .boolean, 2) := by decide +kernel
theorem d_Ru_init_41 : decode c_Ru_init 41 = .ok (.putfield 25, 3) := by decide +kernel
theorem d_Ru_init_44 : decode c_Ru_init 44 = .ok (.aload_n 0, 1) := by decide +kernel
theorem d_Ru_init_45 : decode c_Ru_init 45 = .ok (.bipush 10, 2) := by decide +kernel
theorem d_Ru_init_47 : decode c_Ru_init 47 = .ok (.newarray .int, 2) := by decide +kernel
theorem d_Ru_init_49 : decode c_Ru_init 49 = .ok (.putfield 28, 3) := by decide +kernel
theorem d_Ru_init_52 : decode c_Ru_init 52 = .ok (.aload_n 0, 1) := by decide +kernel
theorem d_Ru_init_53 : decode c_Ru_init 53 = .ok (.iconst 0, 1) := by decide +kernel
theorem d_Ru_init_54 : decode c_Ru_init 54 = .ok (.putfield 31, 3) := by decide +kernel
theorem d_Ru_init_57 : decode c_Ru_init 57 = .ok (.aload_n 0, 1) := by decide +kernel
theorem d_Ru_init_58 : decode c_Ru_init 58 = .ok (.getfield 28, 3) := by decide +kernel
theorem d_Ru_init_61 : decode c_Ru_init 61 = .ok (.iconst 2, 1) := by decide +kernel
theorem d_Ru_init_62 : decode c_Ru_init 62 = .ok (.invokestatic 35, 3) := by decide +kernel
theorem d_Ru_init_65 : decode c_Ru_init 65 = .ok (.return_, 1) := by decide +kernel
theorem d_Rn_init_0 : decode c_Rn_init 0 = .ok (.aload_n 0, 1) := by decide +kernel
theorem d_Rn_init_1 : decode c_Rn_init 1 = .ok (.invokespecial 3, 3) := by decide +kernel
theorem d_Rn_init_4 : decode c_Rn_init 4 = .ok (.aload_n 0, 1) := by decide +kernel
theorem d_Rn_init_5 : decode c_Rn_init 5 = .ok (.bipush 16, 2) := by decide +kernel
theorem d_Rn_init_7 : decode c_Rn_init 7 = .ok (.newarray .boolean, 2) := by decide +kernel
theorem d_Rn_init_9 : decode c_Rn_init 9 = .ok (.putfield 9, 3) := by decide +kernel
theorem d_Rn_init_12 : decode c_Rn_init 12 = .ok (.aload_n 0, 1) := by decide +kernel
theorem d_Rn_init_13 : decode c_Rn_init 13 = .ok (.sipush 300, 3) := by decide +kernel
theorem d_Rn_init_16 : decode c_Rn_init 16 = .ok (.newarray .int, 2) := by decide +kernel
theorem d_Rn_init_18 : decode c_Rn_init 18 = .ok (.putfield 15, 3) := by decide +kernel
theorem d_Rn_init_21 : decode c_Rn_init 21 = .ok (.aload_n 0, 1) := by decide +kernel
theorem d_Rn_init_22 : decode c_Rn_init 22 = .ok (.bipush 6, 2) := by decide +kernel
theorem d_Rn_init_24 : decode c_Rn_init 24 = .ok (.newarray .int, 2) := by decide +kernel
theorem d_Rn_init_26 : decode c_Rn_init 26 = .ok (.putfield 19, 3) := by decide +kernel
theorem d_Rn_init_29 : decode c_Rn_init 29 = .ok (.aload_n 0, 1) := by decide +kernel
theorem d_Rn_init_30 : decode c_Rn_init 30 = .ok (.iconst 0, 1) := by decide +kernel
theorem d_Rn_init_31 : decode c_Rn_init 31 = .ok (.putfield 22, 3) := by decide +kernel
theorem d_Rn_init_34 : decode c_Rn_init 34 = .ok (.aload_n 0, 1) := by decide +kernel
theorem d_Rn_init_35 : decode c_Rn_init 35 = .ok (.iconst 0, 1) := by decide +kernel
theorem d_Rn_init_36 : decode c_Rn_init 36 = .ok (.putfield 26, 3) := by decide +kernel
theorem d_Rn_init_39 : decode c_Rn_init 39 = .ok (.aload_n 0, 1) := by decide +kernel
theorem d_Rn_init_40 : decode c_Rn_init 40 = .ok (.iconst 0, 1) := by decide +kernel
theorem d_Rn_init_41 : decode c_Rn_init 41 = .ok (.putfield 29, 3) := by decide +kernel
theorem d_Rn_init_44 : decode c_Rn_init 44 = .ok (.aload_n 0, 1) := by decide +kernel
theorem d_Rn_init_45 : decode c_Rn_init 45 = .ok (.bipush 30, 2) := by decide +kernel
theorem d_Rn_init_47 : decode c_Rn_init 47 = .ok (.newarray .int, 2) := by decide +kernel
theorem d_Rn_init_49 : decode c_Rn_init 49 = .ok (.putfield 32, 3) := by decide +kernel
theorem d_Rn_init_52 : decode c_Rn_init 52 = .ok (.aload_n 0, 1) := by decide +kernel
theorem d_Rn_init_53 : decode c_Rn_init 53 = .ok (.bipush 30, 2) := by decide +kernel
theorem d_Rn_init_55 : decode c_Rn_init 55 = .ok (.newarray .boolean, 2) := by decide +kernel
theorem d_Rn_init_57 : decode c_Rn_init 57 = .ok (.putfield 35, 3) := by decide +kernel
theorem d_Rn_init_60 : decode c_Rn_init 60 = .ok (.aload_n 0, 1) := by decide +kernel
theorem d_Rn_init_61 : decode c_Rn_init 61 = .ok (.iconst 0, 1) := by decide +kernel
theorem d_Rn_init_62 : decode c_Rn_init 62 = .ok (.putfield 38, 3) := by decide +kernel
theorem d_Rn_init_65 : decode c_Rn_init 65 = .ok (.aload_n 0, 1) := by decide +kernel
theorem d_Rn_init_66 : decode c_Rn_init 66 = .ok (.iconst 0, 1) := by decide +kernel
theorem d_Rn_init_67 : decode c_Rn_init 67 = .ok (.putfield 41, 3) := by decide +kernel
theorem d_Rn_init_70 : decode c_Rn_init 70 = .ok (.aload_n 0, 1) := by decide +kernel
theorem d_Rn_init_71 : decode c_Rn_init 71 = .ok (.aload_n 1, 1) := by decide +kernel
theorem d_Rn_init_72 : decode c_Rn_init 72 = .ok (.putfield 45, 3) := by decide +kernel
theorem d_Rn_init_75 : decode c_Rn_init 75 = .ok (.aload_n 0, 1) := by decide +kernel
theorem d_Rn_init_76 : decode c_Rn_init 76 = .ok (.aload_n 2, 1) := by decide +kernel
theorem d_Rn_init_77 : decode c_Rn_init 77 = .ok (.putfield 49, 3) := by decide +kernel
theorem d_Rn_init_80 : decode c_Rn_init 80 = .ok (.return_, 1) := by decide +kernel
theorem d_Ro_init_0 : decode c_Ro_init 0 = .ok (.aload_n 0, 1) := by decide +kernel
theorem d_Ro_init_1 : decode c_Ro_init 1 = .ok (.invokespecial 3, 3) := by decide +kernel
theorem d_Ro_init_4 : decode c_Ro_init 4 = .ok (.aload_n 0, 1) := by decide +kernel
theorem d_Ro_init_5 : decode c_Ro_init 5 = .ok (.sipush 800, 3) := by decide +kernel
theorem d_Ro_init_8 : decode c_Ro_init 8 = .ok (.newarray .int, 2) := by decide +kernel
theorem d_Ro_init_10 : decode c_Ro_init 10 = .ok (.putfield 9, 3) := by decide +kernel
theorem d_Ro_init_13 : decode c_Ro_init 13 = .ok (.aload_n 0, 1) := by decide +kernel
theorem d_Ro_init_14 : decode c_Ro_init 14 = .ok (.iconst 0, 1) := by decide +kernel
theorem d_Ro_init_15 : decode c_Ro_init 15 = .ok (.putfield 15, 3) := by decide +kernel
theorem d_Ro_init_18 : decode c_Ro_init 18 = .ok (.return_, 1) := by decide +kernel
theorem d_Ro_cell_0 : decode c_Ro_cell 0 = .ok (.aload_n 0, 1) := by decide +kernel
theorem d_Ro_cell_1 : decode c_Ro_cell 1 = .ok (.getfield 9, 3) := by decide +kernel
theorem d_Ro_cell_4 : decode c_Ro_cell 4 = .ok (.iload_n 1, 1) := by decide +kernel
theorem d_Ro_cell_5 : decode c_Ro_cell 5 = .ok (.iconst 4, 1) := by decide +kernel
theorem d_Ro_cell_6 : decode c_Ro_cell 6 = .ok (.imul, 1) := by decide +kernel
theorem d_Ro_cell_7 : decode c_Ro_cell 7 = .ok (.iload_n 2, 1) := by decide +kernel
theorem d_Ro_cell_8 : decode c_Ro_cell 8 = .ok (.iadd, 1) := by decide +kernel
theorem d_Ro_cell_9 : decode c_Ro_cell 9 = .ok (.iaload, 1) := by decide +kernel
theorem d_Ro_cell_10 : decode c_Ro_cell 10 = .ok (.ireturn, 1) := by decide +kernel
theorem d_Tr_numberOf_0 : decode c_Tr_numberOf 0 = .ok (.aload_n 0, 1) := by decide +kernel
theorem d_Tr_numberOf_1 : decode c_Tr_numberOf 1 = .ok (.iload_n 1, 1) := by decide +kernel
theorem d_Tr_numberOf_2 : decode c_Tr_numberOf 2 = .ok (.iload_n 2, 1) := by decide +kernel
theorem d_Tr_numberOf_3 : decode c_Tr_numberOf 3 = .ok (.iload_n 3, 1) := by decide +kernel
theorem d_Tr_numberOf_4 : decode c_Tr_numberOf 4 = .ok (.invokevirtual 52, 3) := by decide +kernel
theorem d_Tr_numberOf_7 : decode c_Tr_numberOf 7 = .ok (.istore 4, 2) := by decide +kernel
theorem d_Tr_numberOf_9 : decode c_Tr_numberOf 9 = .ok (.aload_n 0, 1) := by decide +kernel
theorem d_Tr_numberOf_10 : decode c_Tr_numberOf 10 = .ok (.getfield 36, 3) := by decide +kernel
theorem d_Tr_numberOf_13 : decode c_Tr_numberOf 13 = .ok (.iload 4, 2) := by decide +kernel
theorem d_Tr_numberOf_15 : decode c_Tr_numberOf 15 = .ok (.iaload, 1) := by decide +kernel
theorem d_Tr_numberOf_16 : decode c_Tr_numberOf 16 = .ok (.istore 5, 2) := by decide +kernel
theorem d_Tr_numberOf_18 : decode c_Tr_numberOf 18 = .ok (.iconst 0, 1) := by decide +kernel
theorem d_Tr_numberOf_19 : decode c_Tr_numberOf 19 = .ok (.istore 6, 2) := by decide +kernel
theorem d_Tr_numberOf_21 : decode c_Tr_numberOf 21 = .ok (.iload 6, 2) := by decide +kernel
theorem d_Tr_numberOf_23 : decode c_Tr_numberOf 23 = .ok (.sipush 300, 3) := by decide +kernel
theorem d_Tr_numberOf_26 : decode c_Tr_numberOf 26 = .ok (.if_icmp .ge 59, 3) := by decide +kernel
theorem d_Tr_numberOf_29 : decode c_Tr_numberOf 29 = .ok (.iload 5, 2) := by decide +kernel
theorem d_Tr_numberOf_31 : decode c_Tr_numberOf 31 = .ok (.ifCond .lt 54, 3) := by decide +kernel
theorem d_Tr_numberOf_34 : decode c_Tr_numberOf 34 = .ok (.aload_n 0, 1) := by decide +kernel
theorem d_Tr_numberOf_35 : decode c_Tr_numberOf 35 = .ok (.getfield 9, 3) := by decide +kernel
theorem d_Tr_numberOf_38 : decode c_Tr_numberOf 38 = .ok (.iload 5, 2) := by decide +kernel
theorem d_Tr_numberOf_40 : decode c_Tr_numberOf 40 = .ok (.iaload, 1) := by decide +kernel
theorem d_Tr_numberOf_41 : decode c_Tr_numberOf 41 = .ok (.iload_n 1, 1) := by decide +kernel
theorem d_Tr_numberOf_42 : decode c_Tr_numberOf 42 = .ok (.if_icmp .ne 28, 3) := by decide +kernel
theorem d_Tr_numberOf_45 : decode c_Tr_numberOf 45 = .ok (.aload_n 0, 1) := by decide +kernel
theorem d_Tr_numberOf_46 : decode c_Tr_numberOf 46 = .ok (.getfield 15, 3) := by decide +kernel
theorem d_Tr_numberOf_49 : decode c_Tr_numberOf 49 = .ok (.iload 5, 2) := by decide +kernel
theorem d_Tr_numberOf_51 : decode c_Tr_numberOf 51 = .ok (.iaload, 1) := by decide +kernel
theorem d_Tr_numberOf_52 : decode c_Tr_numberOf 52 = .ok (.iload_n 2, 1) := by decide +kernel
theorem d_Tr_numberOf_53 : decode c_Tr_numberOf 53 = .ok (.if_icmp .ne 17, 3) := by decide +kernel
theorem d_Tr_numberOf_56 : decode c_Tr_numberOf 56 = .ok (.aload_n 0, 1) := by decide +kernel
theorem d_Tr_numberOf_57 : decode c_Tr_numberOf 57 = .ok (.getfield 18, 3) := by decide +kernel
theorem d_Tr_numberOf_60 : decode c_Tr_numberOf 60 = .ok (.iload 5, 2) := by decide +kernel
theorem d_Tr_numberOf_62 : decode c_Tr_numberOf 62 = .ok (.iaload, 1) := by decide +kernel
theorem d_Tr_numberOf_63 : decode c_Tr_numberOf 63 = .ok (.iload_n 3, 1) := by decide +kernel
theorem d_Tr_numberOf_64 : decode c_Tr_numberOf 64 = .ok (.if_icmp .ne 6, 3) := by decide +kernel
theorem d_Tr_numberOf_67 : decode c_Tr_numberOf 67 = .ok (.iload 5, 2) := by decide +kernel
theorem d_Tr_numberOf_69 : decode c_Tr_numberOf 69 = .ok (.ireturn, 1) := by decide +kernel
theorem d_Tr_numberOf_70 : decode c_Tr_numberOf 70 = .ok (.aload_n 0, 1) := by decide +kernel
theorem d_Tr_numberOf_71 : decode c_Tr_numberOf 71 = .ok (.getfield 39, 3) := by decide +kernel
theorem d_Tr_numberOf_74 : decode c_Tr_numberOf 74 = .ok (.iload 5, 2) := by decide +kernel
theorem d_Tr_numberOf_76 : decode c_Tr_numberOf 76 = .ok (.iaload, 1) := by decide +kernel
theorem d_Tr_numberOf_77 : decode c_Tr_numberOf 77 = .ok (.istore 5, 2) := by decide +kernel
theorem d_Tr_numberOf_79 : decode c_Tr_numberOf 79 = .ok (.iinc 6 1, 3) := by decide +kernel
theorem d_Tr_numberOf_82 : decode c_Tr_numberOf 82 = .ok (.goto (-61), 3) := by decide +kernel
theorem d_Tr_numberOf_85 : decode c_Tr_numberOf 85 = .ok (.aload_n 0, 1) := by decide +kernel
theorem d_Tr_numberOf_86 : decode c_Tr_numberOf 86 = .ok (.iload_n 1, 1) := by decide +kernel
theorem d_Tr_numberOf_87 : decode c_Tr_numberOf 87 = .ok (.iload_n 2, 1) := by decide +kernel
theorem d_Tr_numberOf_88 : decode c_Tr_numberOf 88 = .ok (.iload_n 3, 1) := by decide +kernel
theorem d_Tr_numberOf_89 : decode c_Tr_numberOf 89 = .ok (.invokevirtual 56, 3) := by decide +kernel
theorem d_Tr_numberOf_92 : decode c_Tr_numberOf 92 = .ok (.ireturn, 1) := by decide +kernel
theorem d_Tr_slotOf_0 : decode c_Tr_slotOf 0 = .ok (.iload_n 1, 1) := by decide +kernel
theorem d_Tr_slotOf_1 : decode c_Tr_slotOf 1 = .ok (.bipush 31, 2) := by decide +kernel
theorem d_Tr_slotOf_3 : decode c_Tr_slotOf 3 = .ok (.imul, 1) := by decide +kernel
theorem d_Tr_slotOf_4 : decode c_Tr_slotOf 4 = .ok (.iload_n 2, 1) := by decide +kernel
theorem d_Tr_slotOf_5 : decode c_Tr_slotOf 5 = .ok (.iadd, 1) := by decide +kernel
theorem d_Tr_slotOf_6 : decode c_Tr_slotOf 6 = .ok (.bipush 31, 2) := by decide +kernel
theorem d_Tr_slotOf_8 : decode c_Tr_slotOf 8 = .ok (.imul, 1) := by decide +kernel
theorem d_Tr_slotOf_9 : decode c_Tr_slotOf 9 = .ok (.iload_n 3, 1) := by decide +kernel
theorem d_Tr_slotOf_10 : decode c_Tr_slotOf 10 = .ok (.iadd, 1) := by decide +kernel
theorem d_Tr_slotOf_11 : decode c_Tr_slotOf 11 = .ok (.sipush 511, 3) := by decide +kernel
theorem d_Tr_slotOf_14 : decode c_Tr_slotOf 14 = .ok (.iand, 1) := by decide +kernel
theorem d_Tr_slotOf_15 : decode c_Tr_slotOf 15 = .ok (.ireturn, 1) := by decide +kernel
theorem d_Tr_enter_0 : decode c_Tr_enter 0 = .ok (.aload_n 0, 1) := by decide +kernel
theorem d_Tr_enter_1 : decode c_Tr_enter 1 = .ok (.iload_n 1, 1) := by decide +kernel
theorem d_Tr_enter_2 : decode c_Tr_enter 2 = .ok (.invokevirtual 59, 3) := by decide +kernel
theorem d_Tr_enter_5 : decode c_Tr_enter 5 = .ok (.aload_n 0, 1) := by decide +kernel
theorem d_Tr_enter_6 : decode c_Tr_enter 6 = .ok (.aload_n 0, 1) := by decide +kernel
theorem d_Tr_enter_7 : decode c_Tr_enter 7 = .ok (.getfield 21, 3) := by decide +kernel
theorem d_Tr_enter_10 : decode c_Tr_enter 10 = .ok (.iload_n 2, 1) := by decide +kernel
theorem d_Tr_enter_11 : decode c_Tr_enter 11 = .ok (.iconst 0, 1) := by decide +kernel
theorem d_Tr_enter_12 : decode c_Tr_enter 12 = .ok (.invokevirtual 63, 3) := by decide +kernel
theorem d_Tr_enter_15 : decode c_Tr_enter 15 = .ok (.iadd, 1) := by decide +kernel
theorem d_Tr_enter_16 : decode c_Tr_enter 16 = .ok (.aload_n 0, 1) := by decide +kernel
theorem d_Tr_enter_17 : decode c_Tr_enter 17 = .ok (.aload_n 0, 1) := by decide +kernel
theorem d_Tr_enter_18 : decode c_Tr_enter 18 = .ok (.getfield 21, 3) := by decide +kernel
theorem d_Tr_enter_21 : decode c_Tr_enter 21 = .ok (.iload_n 3, 1) := by decide +kernel
theorem d_Tr_enter_22 : decode c_Tr_enter 22 = .ok (.iconst 0, 1) := by decide +kernel
theorem d_Tr_enter_23 : decode c_Tr_enter 23 = .ok (.invokevirtual 63, 3) := by decide +kernel
theorem d_Tr_enter_26 : decode c_Tr_enter 26 = .ok (.iadd, 1) := by decide +kernel
theorem d_Tr_enter_27 : decode c_Tr_enter 27 = .ok (.istore 4, 2) := by decide +kernel
theorem d_Tr_enter_29 : decode c_Tr_enter 29 = .ok (.iconst 1, 1) := by decide +kernel
theorem d_Tr_enter_30 : decode c_Tr_enter 30 = .ok (.aload_n 0, 1) := by decide +kernel
theorem d_Tr_enter_31 : decode c_Tr_enter 31 = .ok (.aload_n 0, 1) := by decide +kernel
theorem d_Tr_enter_32 : decode c_Tr_enter 32 = .ok (.getfield 27, 3) := by decide +kernel
theorem d_Tr_enter_35 : decode c_Tr_enter 35 = .ok (.iload_n 2, 1) := by decide +kernel
theorem d_Tr_enter_36 : decode c_Tr_enter 36 = .ok (.iconst (-1), 1) := by decide +kernel
theorem d_Tr_enter_37 : decode c_Tr_enter 37 = .ok (.invokevirtual 63, 3) := by decide +kernel
theorem d_Tr_enter_40 : decode c_Tr_enter 40 = .ok (.aload_n 0, 1) := by decide +kernel
theorem d_Tr_enter_41 : decode c_Tr_enter 41 = .ok (.aload_n 0, 1) := by decide +kernel
theorem d_Tr_enter_42 : decode c_Tr_enter 42 = .ok (.getfield 27, 3) := by decide +kernel
theorem d_Tr_enter_45 : decode c_Tr_enter 45 = .ok (.iload_n 3, 1) := by decide +kernel
theorem d_Tr_enter_46 : decode c_Tr_enter 46 = .ok (.iconst (-1), 1) := by decide +kernel
theorem d_Tr_enter_47 : decode c_Tr_enter 47 = .ok (.invokevirtual 63, 3) := by decide +kernel
theorem d_Tr_enter_50 : decode c_Tr_enter 50 = .ok (.invokestatic 67, 3) := by decide +kernel
theorem d_Tr_enter_53 : decode c_Tr_enter 53 = .ok (.iadd, 1) := by decide +kernel
theorem d_Tr_enter_54 : decode c_Tr_enter 54 = .ok (.istore 5, 2) := by decide +kernel
theorem d_Tr_enter_56 : decode c_Tr_enter 56 = .ok (.aload_n 0, 1) := by decide +kernel
theorem d_Tr_enter_57 : decode c_Tr_enter 57 = .ok (.getfield 42, 3) := by decide +kernel
theorem d_Tr_enter_60 : decode c_Tr_enter 60 = .ok (.sipush 300, 3) := by decide +kernel
theorem d_Tr_enter_63 : decode c_Tr_enter 63 = .ok (.if_icmp .ge 18, 3) := by decide +kernel
theorem d_Tr_enter_66 : decode c_Tr_enter 66 = .ok (.iload 4, 2) := by decide +kernel
theorem d_Tr_enter_68 : decode c_Tr_enter 68 = .ok (.sipush 1000, 3) := by decide +kernel
theorem d_Tr_enter_71 : decode c_Tr_enter 71 = .ok (.if_icmp .gt 10, 3) := by decide +kernel
theorem d_Tr_enter_74 : decode c_Tr_enter 74 = .ok (.iload 5, 2) := by decide +kernel
theorem d_Tr_enter_76 : decode c_Tr_enter 76 = .ok (.bipush 30, 2) := by decide +kernel
theorem d_Tr_enter_78 : decode c_Tr_enter 78 = .ok (.if_icmp .le 5, 3) := by decide +kernel
theorem d_Tr_enter_81 : decode c_Tr_enter 81 = .ok (.iconst (-1), 1) := by decide +kernel
theorem d_Tr_enter_82 : decode c_Tr_enter 82 = .ok (.ireturn, 1) := by decide +kernel
theorem d_Tr_enter_83 : decode c_Tr_enter 83 = .ok (.aload_n 0, 1) := by decide +kernel
theorem d_Tr_enter_84 : decode c_Tr_enter 84 = .ok (.getfield 42, 3) := by decide +kernel
theorem d_Tr_enter_87 : decode c_Tr_enter 87 = .ok (.istore 6, 2) := by decide +kernel
theorem d_Tr_enter_89 : decode c_Tr_enter 89 = .ok (.aload_n 0, 1) := by decide +kernel
theorem d_Tr_enter_90 : decode c_Tr_enter 90 = .ok (.dup, 1) := by decide +kernel
theorem d_Tr_enter_91 : decode c_Tr_enter 91 = .ok (.getfield 42, 3) := by decide +kernel
theorem d_Tr_enter_94 : decode c_Tr_enter 94 = .ok (.iconst 1, 1) := by decide +kernel
theorem d_Tr_enter_95 : decode c_Tr_enter 95 = .ok (.iadd, 1) := by decide +kernel
theorem d_Tr_enter_96 : decode c_Tr_enter 96 = .ok (.putfield 42, 3) := by decide +kernel
theorem d_Tr_enter_99 : decode c_Tr_enter 99 = .ok (.aload_n 0, 1) := by decide +kernel
theorem d_Tr_enter_100 : decode c_Tr_enter 100 = .ok (.getfield 9, 3) := by decide +kernel
theorem d_Tr_enter_103 : decode c_Tr_enter 103 = .ok (.iload 6, 2) := by decide +kernel
theorem d_Tr_enter_105 : decode c_Tr_enter 105 = .ok (.iload_n 1, 1) := by decide +kernel
theorem d_Tr_enter_106 : decode c_Tr_enter 106 = .ok (.iastore, 1) := by decide +kernel
theorem d_Tr_enter_107 : decode c_Tr_enter 107 = .ok (.aload_n 0, 1) := by decide +kernel
theorem d_Tr_enter_108 : decode c_Tr_enter 108 = .ok (.getfield 15, 3) := by decide +kernel
theorem d_Tr_enter_111 : decode c_Tr_enter 111 = .ok (.iload 6, 2) := by decide +kernel
theorem d_Tr_enter_113 : decode c_Tr_enter 113 = .ok (.iload_n 2, 1) := by decide +kernel
theorem d_Tr_enter_114 : decode c_Tr_enter 114 = .ok (.iastore, 1) := by decide +kernel
theorem d_Tr_enter_115 : decode c_Tr_enter 115 = .ok (.aload_n 0, 1) := by decide +kernel
theorem d_Tr_enter_116 : decode c_Tr_enter 116 = .ok (.getfield 18, 3) := by decide +kernel
theorem d_Tr_enter_119 : decode c_Tr_enter 119 = .ok (.iload 6, 2) := by decide +kernel
theorem d_Tr_enter_121 : decode c_Tr_enter 121 = .ok (.iload_n 3, 1) := by decide +kernel
theorem d_Tr_enter_122 : decode c_Tr_enter 122 = .ok (.iastore, 1) := by decide +kernel
theorem d_Tr_enter_123 : decode c_Tr_enter 123 = .ok (.aload_n 0, 1) := by decide +kernel
theorem d_Tr_enter_124 : decode c_Tr_enter 124 = .ok (.getfield 21, 3) := by decide +kernel
theorem d_Tr_enter_127 : decode c_Tr_enter 127 = .ok (.iload 6, 2) := by decide +kernel
theorem d_Tr_enter_129 : decode c_Tr_enter 129 = .ok (.iload 4, 2) := by decide +kernel
theorem d_Tr_enter_131 : decode c_Tr_enter 131 = .ok (.iastore, 1) := by decide +kernel
theorem d_Tr_enter_132 : decode c_Tr_enter 132 = .ok (.aload_n 0, 1) := by decide +kernel
theorem d_Tr_enter_133 : decode c_Tr_enter 133 = .ok (.getfield 27, 3) := by decide +kernel
theorem d_Tr_enter_136 : decode c_Tr_enter 136 = .ok (.iload 6, 2) := by decide +kernel
theorem d_Tr_enter_138 : decode c_Tr_enter 138 = .ok (.iload 5, 2) := by decide +kernel
theorem d_Tr_enter_140 : decode c_Tr_enter 140 = .ok (.iastore, 1) := by decide +kernel
theorem d_Tr_enter_141 : decode c_Tr_enter 141 = .ok (.aload_n 0, 1) := by decide +kernel
theorem d_Tr_enter_142 : decode c_Tr_enter 142 = .ok (.getfield 24, 3) := by decide +kernel
theorem d_Tr_enter_145 : decode c_Tr_enter 145 = .ok (.iload 6, 2) := by decide +kernel
theorem d_Tr_enter_147 : decode c_Tr_enter 147 = .ok (.iconst 1, 1) := by decide +kernel
theorem d_Tr_enter_148 : decode c_Tr_enter 148 = .ok (.aload_n 0, 1) := by decide +kernel
theorem d_Tr_enter_149 : decode c_Tr_enter 149 = .ok (.aload_n 0, 1) := by decide +kernel
theorem d_Tr_enter_150 : decode c_Tr_enter 150 = .ok (.getfield 24, 3) := by decide +kernel
theorem d_Tr_enter_153 : decode c_Tr_enter 153 = .ok (.iload_n 2, 1) := by decide +kernel
theorem d_Tr_enter_154 : decode c_Tr_enter 154 = .ok (.iconst 0, 1) := by decide +kernel
theorem d_Tr_enter_155 : decode c_Tr_enter 155 = .ok (.invokevirtual 63, 3) := by decide +kernel
theorem d_Tr_enter_158 : decode c_Tr_enter 158 = .ok (.iadd, 1) := by decide +kernel
theorem d_Tr_enter_159 : decode c_Tr_enter 159 = .ok (.aload_n 0, 1) := by decide +kernel
theorem d_Tr_enter_160 : decode c_Tr_enter 160 = .ok (.aload_n 0, 1) := by decide +kernel
theorem d_Tr_enter_161 : decode c_Tr_enter 161 = .ok (.getfield 24, 3) := by decide +kernel
theorem d_Tr_enter_164 : decode c_Tr_enter 164 = .ok (.iload_n 3, 1) := by decide +kernel
theorem d_Tr_enter_165 : decode c_Tr_enter 165 = .ok (.iconst 0, 1) := by decide +kernel
theorem d_Tr_enter_166 : decode c_Tr_enter 166 = .ok (.invokevirtual 63, 3) := by decide +kernel
theorem d_Tr_enter_169 : decode c_Tr_enter 169 = .ok (.iadd, 1) := by decide +kernel
theorem d_Tr_enter_170 : decode c_Tr_enter 170 = .ok (.iastore, 1) := by decide +kernel
theorem d_Tr_enter_171 : decode c_Tr_enter 171 = .ok (.aload_n 0, 1) := by decide +kernel
theorem d_Tr_enter_172 : decode c_Tr_enter 172 = .ok (.iload 6, 2) := by decide +kernel
theorem d_Tr_enter_174 : decode c_Tr_enter 174 = .ok (.invokevirtual 73, 3) := by decide +kernel
theorem d_Tr_enter_177 : decode c_Tr_enter 177 = .ok (.aload_n 0, 1) := by decide +kernel
theorem d_Tr_enter_178 : decode c_Tr_enter 178 = .ok (.iload_n 1, 1) := by decide +kernel
theorem d_Tr_enter_179 : decode c_Tr_enter 179 = .ok (.iload_n 2, 1) := by decide +kernel
theorem d_Tr_enter_180 : decode c_Tr_enter 180 = .ok (.iload_n 3, 1) := by decide +kernel
theorem d_Tr_enter_181 : decode c_Tr_enter 181 = .ok (.invokevirtual 52, 3) := by decide +kernel
theorem d_Tr_enter_184 : decode c_Tr_enter 184 = .ok (.istore 7, 2) := by decide +kernel
theorem d_Tr_enter_186 : decode c_Tr_enter 186 = .ok (.aload_n 0, 1) := by decide +kernel
theorem d_Tr_enter_187 : decode c_Tr_enter 187 = .ok (.getfield 39, 3) := by decide +kernel
theorem d_Tr_enter_190 : decode c_Tr_enter 190 = .ok (.iload 6, 2) := by decide +kernel
theorem d_Tr_enter_192 : decode c_Tr_enter 192 = .ok (.aload_n 0, 1) := by decide +kernel
theorem d_Tr_enter_193 : decode c_Tr_enter 193 = .ok (.getfield 36, 3) := by decide +kernel
theorem d_Tr_enter_196 : decode c_Tr_enter 196 = .ok (.iload 7, 2) := by decide +kernel
theorem d_Tr_enter_198 : decode c_Tr_enter 198 = .ok (.iaload, 1) := by decide +kernel
theorem d_Tr_enter_199 : decode c_Tr_enter 199 = .ok (.iastore, 1) := by decide +kernel
theorem d_Tr_enter_200 : decode c_Tr_enter 200 = .ok (.aload_n 0, 1) := by decide +kernel
theorem d_Tr_enter_201 : decode c_Tr_enter 201 = .ok (.getfield 36, 3) := by decide +kernel
theorem d_Tr_enter_204 : decode c_Tr_enter 204 = .ok (.iload 7, 2) := by decide +kernel
theorem d_Tr_enter_206 : decode c_Tr_enter 206 = .ok (.iload 6, 2) := by decide +kernel
theorem d_Tr_enter_208 : decode c_Tr_enter 208 = .ok (.iastore, 1) := by decide +kernel
theorem d_Tr_enter_209 : decode c_Tr_enter 209 = .ok (.iload 6, 2) := by decide +kernel
theorem d_Tr_enter_211 : decode c_Tr_enter 211 = .ok (.ireturn, 1) := by decide +kernel
theorem d_Tr_ownWeight_0 : decode c_Tr_ownWeight 0 = .ok (.iload_n 1, 1) := by decide +kernel
theorem d_Tr_ownWeight_1 : decode c_Tr_ownWeight 1 = .ok (.ifCond .lt 20, 3) := by decide +kernel
theorem d_Tr_ownWeight_4 : decode c_Tr_ownWeight 4 = .ok (.iload_n 1, 1) := by decide +kernel
theorem d_Tr_ownWeight_5 : decode c_Tr_ownWeight 5 = .ok (.bipush 12, 2) := by decide +kernel
theorem d_Tr_ownWeight_7 : decode c_Tr_ownWeight 7 = .ok (.if_icmp .ge 14, 3) := by decide +kernel
theorem d_Tr_ownWeight_10 : decode c_Tr_ownWeight 10 = .ok (.iload_n 1, 1) := by decide +kernel
theorem d_Tr_ownWeight_11 : decode c_Tr_ownWeight 11 = .ok (.iconst 3, 1) := by decide +kernel
theorem d_Tr_ownWeight_12 : decode c_Tr_ownWeight 12 = .ok (.irem, 1) := by decide +kernel
theorem d_Tr_ownWeight_13 : decode c_Tr_ownWeight 13 = .ok (.iconst 2, 1) := by decide +kernel
theorem d_Tr_ownWeight_14 : decode c_Tr_ownWeight 14 = .ok (.if_icmp .ne 7, 3) := by decide +kernel
theorem d_Tr_ownWeight_17 : decode c_Tr_ownWeight 17 = .ok (.iconst 2, 1) := by decide +kernel
theorem d_Tr_ownWeight_18 : decode c_Tr_ownWeight 18 = .ok (.goto 4, 3) := by decide +kernel
theorem d_Tr_ownWeight_21 : decode c_Tr_ownWeight 21 = .ok (.iconst 1, 1) := by decide +kernel
theorem d_Tr_ownWeight_22 : decode c_Tr_ownWeight 22 = .ok (.ireturn, 1) := by decide +kernel
theorem d_Tr_valueOf_0 : decode c_Tr_valueOf 0 = .ok (.iload_n 2, 1) := by decide +kernel
theorem d_Tr_valueOf_1 : decode c_Tr_valueOf 1 = .ok (.ifCond .ge 7, 3) := by decide +kernel
theorem d_Tr_valueOf_4 : decode c_Tr_valueOf 4 = .ok (.iload_n 3, 1) := by decide +kernel
theorem d_Tr_valueOf_5 : decode c_Tr_valueOf 5 = .ok (.goto 6, 3) := by decide +kernel
theorem d_Tr_valueOf_8 : decode c_Tr_valueOf 8 = .ok (.aload_n 1, 1) := by decide +kernel
theorem d_Tr_valueOf_9 : decode c_Tr_valueOf 9 = .ok (.iload_n 2, 1) := by decide +kernel
theorem d_Tr_valueOf_10 : decode c_Tr_valueOf 10 = .ok (.iaload, 1) := by decide +kernel
theorem d_Tr_valueOf_11 : decode c_Tr_valueOf 11 = .ok (.ireturn, 1) := by decide +kernel
theorem d_Tr_noteHoles_0 : decode c_Tr_noteHoles 0 = .ok (.iconst 0, 1) := by decide +kernel
theorem d_Tr_noteHoles_1 : decode c_Tr_noteHoles 1 = .ok (.istore_n 2, 1) := by decide +kernel
theorem d_Tr_noteHoles_2 : decode c_Tr_noteHoles 2 = .ok (.iconst 0, 1) := by decide +kernel
theorem d_Tr_noteHoles_3 : decode c_Tr_noteHoles 3 = .ok (.istore_n 3, 1) := by decide +kernel
theorem d_Tr_noteHoles_4 : decode c_Tr_noteHoles 4 = .ok (.iload_n 3, 1) := by decide +kernel
theorem d_Tr_noteHoles_5 : decode c_Tr_noteHoles 5 = .ok (.bipush 6, 2) := by decide +kernel
theorem d_Tr_noteHoles_7 : decode c_Tr_noteHoles 7 = .ok (.if_icmp .ge 85, 3) := by decide +kernel
theorem d_Tr_noteHoles_10 : decode c_Tr_noteHoles 10 = .ok (.aload_n 0, 1) := by decide +kernel
theorem d_Tr_noteHoles_11 : decode c_Tr_noteHoles 11 = .ok (.getfield 9, 3) := by decide +kernel
theorem d_Tr_noteHoles_14 : decode c_Tr_noteHoles 14 = .ok (.iload_n 1, 1) := by decide +kernel
theorem d_Tr_noteHoles_15 : decode c_Tr_noteHoles 15 = .ok (.iaload, 1) := by decide +kernel
theorem d_Tr_noteHoles_16 : decode c_Tr_noteHoles 16 = .ok (.bipush 100, 2) := by decide +kernel
theorem d_Tr_noteHoles_18 : decode c_Tr_noteHoles 18 = .ok (.iload_n 3, 1) := by decide +kernel
theorem d_Tr_noteHoles_19 : decode c_Tr_noteHoles 19 = .ok (.iadd, 1) := by decide +kernel
theorem d_Tr_noteHoles_20 : decode c_Tr_noteHoles 20 = .ok (.if_icmp .ne 7, 3) := by decide +kernel
theorem d_Tr_noteHoles_23 : decode c_Tr_noteHoles 23 = .ok (.iconst 1, 1) := by decide +kernel
theorem d_Tr_noteHoles_24 : decode c_Tr_noteHoles 24 = .ok (.goto 4, 3) := by decide +kernel
theorem d_Tr_noteHoles_27 : decode c_Tr_noteHoles 27 = .ok (.iconst 0, 1) := by decide +kernel
theorem d_Tr_noteHoles_28 : decode c_Tr_noteHoles 28 = .ok (.istore 4, 2) := by decide +kernel
theorem d_Tr_noteHoles_30 : decode c_Tr_noteHoles 30 = .ok (.iload 4, 2) := by decide +kernel
theorem d_Tr_noteHoles_32 : decode c_Tr_noteHoles 32 = .ok (.aload_n 0, 1) := by decide +kernel
theorem d_Tr_noteHoles_33 : decode c_Tr_noteHoles 33 = .ok (.aload_n 0, 1) := by decide +kernel
theorem d_Tr_noteHoles_34 : decode c_Tr_noteHoles 34 = .ok (.getfield 15, 3) := by decide +kernel
theorem d_Tr_noteHoles_37 : decode c_Tr_noteHoles 37 = .ok (.iload_n 1, 1) := by decide +kernel
theorem d_Tr_noteHoles_38 : decode c_Tr_noteHoles 38 = .ok (.iaload, 1) := by decide +kernel
theorem d_Tr_noteHoles_39 : decode c_Tr_noteHoles 39 = .ok (.iload_n 3, 1) := by decide +kernel
theorem d_Tr_noteHoles_40 : decode c_Tr_noteHoles 40 = .ok (.invokevirtual 77, 3) := by decide +kernel
theorem d_Tr_noteHoles_43 : decode c_Tr_noteHoles 43 = .ok (.aload_n 0, 1) := by decide +kernel
theorem d_Tr_noteHoles_44 : decode c_Tr_noteHoles 44 = .ok (.aload_n 0, 1) := by decide +kernel
theorem d_Tr_noteHoles_45 : decode c_Tr_noteHoles 45 = .ok (.getfield 18, 3) := by decide +kernel
theorem d_Tr_noteHoles_48 : decode c_Tr_noteHoles 48 = .ok (.iload_n 1, 1) := by decide +kernel
theorem d_Tr_noteHoles_49 : decode c_Tr_noteHoles 49 = .ok (.iaload, 1) := by decide +kernel
theorem d_Tr_noteHoles_50 : decode c_Tr_noteHoles 50 = .ok (.iload_n 3, 1) := by decide +kernel
theorem d_Tr_noteHoles_51 : decode c_Tr_noteHoles 51 = .ok (.invokevirtual 77, 3) := by decide +kernel
theorem d_Tr_noteHoles_54 : decode c_Tr_noteHoles 54 = .ok (.iadd, 1) := by decide +kernel
theorem d_Tr_noteHoles_55 : decode c_Tr_noteHoles 55 = .ok (.iadd, 1) := by decide +kernel
theorem d_Tr_noteHoles_56 : decode c_Tr_noteHoles 56 = .ok (.istore 4, 2) := by decide +kernel
theorem d_Tr_noteHoles_58 : decode c_Tr_noteHoles 58 = .ok (.aload_n 0, 1) := by decide +kernel
theorem d_Tr_noteHoles_59 : decode c_Tr_noteHoles 59 = .ok (.getfield 33, 3) := by decide +kernel
theorem d_Tr_noteHoles_62 : decode c_Tr_noteHoles 62 = .ok (.iload_n 1, 1) := by decide +kernel
theorem d_Tr_noteHoles_63 : decode c_Tr_noteHoles 63 = .ok (.bipush 6, 2) := by decide +kernel
theorem d_Tr_noteHoles_65 : decode c_Tr_noteHoles 65 = .ok (.imul, 1) := by decide +kernel
theorem d_Tr_noteHoles_66 : decode c_Tr_noteHoles 66 = .ok (.iload_n 3, 1) := by decide +kernel
theorem d_Tr_noteHoles_67 : decode c_Tr_noteHoles 67 = .ok (.iadd, 1) := by decide +kernel
theorem d_Tr_noteHoles_68 : decode c_Tr_noteHoles 68 = .ok (.iload 4, 2) := by decide +kernel
theorem d_Tr_noteHoles_70 : decode c_Tr_noteHoles 70 = .ok (.iastore, 1) := by decide +kernel
theorem d_Tr_noteHoles_71 : decode c_Tr_noteHoles 71 = .ok (.iload_n 2, 1) := by decide +kernel
theorem d_Tr_noteHoles_72 : decode c_Tr_noteHoles 72 = .ok (.iload 4, 2) := by decide +kernel
theorem d_Tr_noteHoles_74 : decode c_Tr_noteHoles 74 = .ok (.ifCond .le 9, 3) := by decide +kernel
theorem d_Tr_noteHoles_77 : decode c_Tr_noteHoles 77 = .ok (.iconst 1, 1) := by decide +kernel
theorem d_Tr_noteHoles_78 : decode c_Tr_noteHoles 78 = .ok (.iload_n 3, 1) := by decide +kernel
theorem d_Tr_noteHoles_79 : decode c_Tr_noteHoles 79 = .ok (.ishl, 1) := by decide +kernel
theorem d_Tr_noteHoles_80 : decode c_Tr_noteHoles 80 = .ok (.goto 4, 3) := by decide +kernel
theorem d_Tr_noteHoles_83 : decode c_Tr_noteHoles 83 = .ok (.iconst 0, 1) := by decide +kernel
theorem d_Tr_noteHoles_84 : decode c_Tr_noteHoles 84 = .ok (.ior, 1) := by decide +kernel
theorem d_Tr_noteHoles_85 : decode c_Tr_noteHoles 85 = .ok (.istore_n 2, 1) := by decide +kernel
theorem d_Tr_noteHoles_86 : decode c_Tr_noteHoles 86 = .ok (.iinc 3 1, 3) := by decide +kernel
theorem d_Tr_noteHoles_89 : decode c_Tr_noteHoles 89 = .ok (.goto (-85), 3) := by decide +kernel
theorem d_Tr_noteHoles_92 : decode c_Tr_noteHoles 92 = .ok (.aload_n 0, 1) := by decide +kernel
theorem d_Tr_noteHoles_93 : decode c_Tr_noteHoles 93 = .ok (.getfield 30, 3) := by decide +kernel
theorem d_Tr_noteHoles_96 : decode c_Tr_noteHoles 96 = .ok (.iload_n 1, 1) := by decide +kernel
theorem d_Tr_noteHoles_97 : decode c_Tr_noteHoles 97 = .ok (.iload_n 2, 1) := by decide +kernel
theorem d_Tr_noteHoles_98 : decode c_Tr_noteHoles 98 = .ok (.iastore, 1) := by decide +kernel
theorem d_Tr_noteHoles_99 : decode c_Tr_noteHoles 99 = .ok (.return_, 1) := by decide +kernel
theorem d_Tr_holeCount_0 : decode c_Tr_holeCount 0 = .ok (.iload_n 1, 1) := by decide +kernel
theorem d_Tr_holeCount_1 : decode c_Tr_holeCount 1 = .ok (.ifCond .ge 7, 3) := by decide +kernel
theorem d_Tr_holeCount_4 : decode c_Tr_holeCount 4 = .ok (.iconst 0, 1) := by decide +kernel
theorem d_Tr_holeCount_5 : decode c_Tr_holeCount 5 = .ok (.goto 14, 3) := by decide +kernel
theorem d_Tr_holeCount_8 : decode c_Tr_holeCount 8 = .ok (.aload_n 0, 1) := by decide +kernel
theorem d_Tr_holeCount_9 : decode c_Tr_holeCount 9 = .ok (.getfield 33, 3) := by decide +kernel
theorem d_Tr_holeCount_12 : decode c_Tr_holeCount 12 = .ok (.iload_n 1, 1) := by decide +kernel
theorem d_Tr_holeCount_13 : decode c_Tr_holeCount 13 = .ok (.bipush 6, 2) := by decide +kernel
theorem d_Tr_holeCount_15 : decode c_Tr_holeCount 15 = .ok (.imul, 1) := by decide +kernel
theorem d_Tr_holeCount_16 : decode c_Tr_holeCount 16 = .ok (.iload_n 2, 1) := by decide +kernel
theorem d_Tr_holeCount_17 : decode c_Tr_holeCount 17 = .ok (.iadd, 1) := by decide +kernel
theorem d_Tr_holeCount_18 : decode c_Tr_holeCount 18 = .ok (.iaload, 1) := by decide +kernel
theorem d_Tr_holeCount_19 : decode c_Tr_holeCount 19 = .ok (.ireturn, 1) := by decide +kernel
theorem d_Tr_isNode_0 : decode c_Tr_isNode 0 = .ok (.iload_n 1, 1) := by decide +kernel
theorem d_Tr_isNode_1 : decode c_Tr_isNode 1 = .ok (.ifCond .lt 27, 3) := by decide +kernel
theorem d_Tr_isNode_4 : decode c_Tr_isNode 4 = .ok (.aload_n 0, 1) := by decide +kernel
theorem d_Tr_isNode_5 : decode c_Tr_isNode 5 = .ok (.getfield 9, 3) := by decide +kernel
theorem d_Tr_isNode_8 : decode c_Tr_isNode 8 = .ok (.iload_n 1, 1) := by decide +kernel
theorem d_Tr_isNode_9 : decode c_Tr_isNode 9 = .ok (.iaload, 1) := by decide +kernel
theorem d_Tr_isNode_10 : decode c_Tr_isNode 10 = .ok (.ifCond .lt 18, 3) := by decide +kernel
theorem d_Tr_isNode_13 : decode c_Tr_isNode 13 = .ok (.aload_n 0, 1) := by decide +kernel
theorem d_Tr_isNode_14 : decode c_Tr_isNode 14 = .ok (.getfield 9, 3) := by decide +kernel
theorem d_Tr_isNode_17 : decode c_Tr_isNode 17 = .ok (.iload_n 1, 1) := by decide +kernel
theorem d_Tr_isNode_18 : decode c_Tr_isNode 18 = .ok (.iaload, 1) := by decide +kernel
theorem d_Tr_isNode_19 : decode c_Tr_isNode 19 = .ok (.bipush 12, 2) := by decide +kernel
theorem d_Tr_isNode_21 : decode c_Tr_isNode 21 = .ok (.if_icmp .ge 7, 3) := by decide +kernel
theorem d_Tr_isNode_24 : decode c_Tr_isNode 24 = .ok (.iconst 1, 1) := by decide +kernel
theorem d_Tr_isNode_25 : decode c_Tr_isNode 25 = .ok (.goto 4, 3) := by decide +kernel
theorem d_Tr_isNode_28 : decode c_Tr_isNode 28 = .ok (.iconst 0, 1) := by decide +kernel
theorem d_Tr_isNode_29 : decode c_Tr_isNode 29 = .ok (.ireturn, 1) := by decide +kernel
theorem d_Tr_isAbove_0 : decode c_Tr_isAbove 0 = .ok (.iload_n 1, 1) := by decide +kernel
theorem d_Tr_isAbove_1 : decode c_Tr_isAbove 1 = .ok (.istore_n 3, 1) := by decide +kernel
theorem d_Tr_isAbove_2 : decode c_Tr_isAbove 2 = .ok (.iload_n 2, 1) := by decide +kernel
theorem d_Tr_isAbove_3 : decode c_Tr_isAbove 3 = .ok (.istore 4, 2) := by decide +kernel
theorem d_Tr_isAbove_5 : decode c_Tr_isAbove 5 = .ok (.iconst 0, 1) := by decide +kernel
theorem d_Tr_isAbove_6 : decode c_Tr_isAbove 6 = .ok (.istore 5, 2) := by decide +kernel
theorem d_Tr_isAbove_8 : decode c_Tr_isAbove 8 = .ok (.iload 5, 2) := by decide +kernel
theorem d_Tr_isAbove_10 : decode c_Tr_isAbove 10 = .ok (.bipush 30, 2) := by decide +kernel
theorem d_Tr_isAbove_12 : decode c_Tr_isAbove 12 = .ok (.if_icmp .gt 235, 3) := by decide +kernel
theorem d_Tr_isAbove_15 : decode c_Tr_isAbove 15 = .ok (.iload_n 3, 1) := by decide +kernel
theorem d_Tr_isAbove_16 : decode c_Tr_isAbove 16 = .ok (.iload 4, 2) := by decide +kernel
theorem d_Tr_isAbove_18 : decode c_Tr_isAbove 18 = .ok (.if_icmp .eq 229, 3) := by decide +kernel
theorem d_Tr_isAbove_21 : decode c_Tr_isAbove 21 = .ok (.aload_n 0, 1) := by decide +kernel
theorem d_Tr_isAbove_22 : decode c_Tr_isAbove 22 = .ok (.iload_n 3, 1) := by decide +kernel
theorem d_Tr_isAbove_23 : decode c_Tr_isAbove 23 = .ok (.iload 4, 2) := by decide +kernel
theorem d_Tr_isAbove_25 : decode c_Tr_isAbove 25 = .ok (.invokevirtual 84, 3) := by decide +kernel
theorem d_Tr_isAbove_28 : decode c_Tr_isAbove 28 = .ok (.ifCond .ne 5, 3) := by decide +kernel
theorem d_Tr_isAbove_31 : decode c_Tr_isAbove 31 = .ok (.iconst 0, 1) := by decide +kernel
theorem d_Tr_isAbove_32 : decode c_Tr_isAbove 32 = .ok (.ireturn, 1) := by decide +kernel
theorem d_Tr_isAbove_33 : decode c_Tr_isAbove 33 = .ok (.aload_n 0, 1) := by decide +kernel
theorem d_Tr_isAbove_34 : decode c_Tr_isAbove 34 = .ok (.getfield 21, 3) := by decide +kernel
theorem d_Tr_isAbove_37 : decode c_Tr_isAbove 37 = .ok (.iload_n 3, 1) := by decide +kernel
theorem d_Tr_isAbove_38 : decode c_Tr_isAbove 38 = .ok (.iaload, 1) := by decide +kernel
theorem d_Tr_isAbove_39 : decode c_Tr_isAbove 39 = .ok (.aload_n 0, 1) := by decide +kernel
theorem d_Tr_isAbove_40 : decode c_Tr_isAbove 40 = .ok (.getfield 21, 3) := by decide +kernel
theorem d_Tr_isAbove_43 : decode c_Tr_isAbove 43 = .ok (.iload 4, 2) := by decide +kernel
theorem d_Tr_isAbove_45 : decode c_Tr_isAbove 45 = .ok (.iaload, 1) := by decide +kernel
theorem d_Tr_isAbove_46 : decode c_Tr_isAbove 46 = .ok (.if_icmp .eq 25, 3) := by decide +kernel
theorem d_Tr_isAbove_49 : decode c_Tr_isAbove 49 = .ok (.aload_n 0, 1) := by decide +kernel
theorem d_Tr_isAbove_50 : decode c_Tr_isAbove 50 = .ok (.getfield 21, 3) := by decide +kernel
theorem d_Tr_isAbove_53 : decode c_Tr_isAbove 53 = .ok (.iload_n 3, 1) := by decide +kernel
theorem d_Tr_isAbove_54 : decode c_Tr_isAbove 54 = .ok (.iaload, 1) := by decide +kernel
theorem d_Tr_isAbove_55 : decode c_Tr_isAbove 55 = .ok (.aload_n 0, 1) := by decide +kernel
theorem d_Tr_isAbove_56 : decode c_Tr_isAbove 56 = .ok (.getfield 21, 3) := by decide +kernel
theorem d_Tr_isAbove_59 : decode c_Tr_isAbove 59 = .ok (.iload 4, 2) := by decide +kernel
theorem d_Tr_isAbove_61 : decode c_Tr_isAbove 61 = .ok (.iaload, 1) := by decide +kernel
theorem d_Tr_isAbove_62 : decode c_Tr_isAbove 62 = .ok (.if_icmp .le 7, 3) := by decide +kernel
theorem d_Tr_isAbove_65 : decode c_Tr_isAbove 65 = .ok (.iconst 1, 1) := by decide +kernel
theorem d_Tr_isAbove_66 : decode c_Tr_isAbove 66 = .ok (.goto 4, 3) := by decide +kernel
theorem d_Tr_isAbove_69 : decode c_Tr_isAbove 69 = .ok (.iconst 0, 1) := by decide +kernel
theorem d_Tr_isAbove_70 : decode c_Tr_isAbove 70 = .ok (.ireturn, 1) := by decide +kernel
theorem d_Tr_isAbove_71 : decode c_Tr_isAbove 71 = .ok (.aload_n 0, 1) := by decide +kernel
theorem d_Tr_isAbove_72 : decode c_Tr_isAbove 72 = .ok (.iload_n 3, 1) := by decide +kernel
theorem d_Tr_isAbove_73 : decode c_Tr_isAbove 73 = .ok (.invokevirtual 80, 3) := by decide +kernel
theorem d_Tr_isAbove_76 : decode c_Tr_isAbove 76 = .ok (.ifCond .eq 12, 3) := by decide +kernel
theorem d_Tr_isAbove_79 : decode c_Tr_isAbove 79 = .ok (.aload_n 0, 1) := by decide +kernel
theorem d_Tr_isAbove_80 : decode c_Tr_isAbove 80 = .ok (.iload 4, 2) := by decide +kernel
theorem d_Tr_isAbove_82 : decode c_Tr_isAbove 82 = .ok (.invokevirtual 80, 3) := by decide +kernel
theorem d_Tr_isAbove_85 : decode c_Tr_isAbove 85 = .ok (.ifCond .ne 50, 3) := by decide +kernel
theorem d_Tr_isAbove_88 : decode c_Tr_isAbove 88 = .ok (.aload_n 0, 1) := by decide +kernel
theorem d_Tr_isAbove_89 : decode c_Tr_isAbove 89 = .ok (.iload 4, 2) := by decide +kernel
theorem d_Tr_isAbove_91 : decode c_Tr_isAbove 91 = .ok (.invokevirtual 88, 3) := by decide +kernel
theorem d_Tr_isAbove_94 : decode c_Tr_isAbove 94 = .ok (.ifCond .eq 39, 3) := by decide +kernel
theorem d_Tr_isAbove_97 : decode c_Tr_isAbove 97 = .ok (.aload_n 0, 1) := by decide +kernel
theorem d_Tr_isAbove_98 : decode c_Tr_isAbove 98 = .ok (.iload_n 3, 1) := by decide +kernel
theorem d_Tr_isAbove_99 : decode c_Tr_isAbove 99 = .ok (.invokevirtual 80, 3) := by decide +kernel
theorem d_Tr_isAbove_102 : decode c_Tr_isAbove 102 = .ok (.ifCond .ne 27, 3) := by decide +kernel
theorem d_Tr_isAbove_105 : decode c_Tr_isAbove 105 = .ok (.aload_n 0, 1) := by decide +kernel
theorem d_Tr_isAbove_106 : decode c_Tr_isAbove 106 = .ok (.iload_n 3, 1) := by decide +kernel
theorem d_Tr_isAbove_107 : decode c_Tr_isAbove 107 = .ok (.invokevirtual 88, 3) := by decide +kernel
theorem d_Tr_isAbove_110 : decode c_Tr_isAbove 110 = .ok (.ifCond .eq 23, 3) := by decide +kernel
theorem d_Tr_isAbove_113 : decode c_Tr_isAbove 113 = .ok (.aload_n 0, 1) := by decide +kernel
theorem d_Tr_isAbove_114 : decode c_Tr_isAbove 114 = .ok (.getfield 9, 3) := by decide +kernel
theorem d_Tr_isAbove_117 : decode c_Tr_isAbove 117 = .ok (.iload_n 3, 1) := by decide +kernel
theorem d_Tr_isAbove_118 : decode c_Tr_isAbove 118 = .ok (.iaload, 1) := by decide +kernel
theorem d_Tr_isAbove_119 : decode c_Tr_isAbove 119 = .ok (.aload_n 0, 1) := by decide +kernel
theorem d_Tr_isAbove_120 : decode c_Tr_isAbove 120 = .ok (.getfield 9, 3) := by decide +kernel
theorem d_Tr_isAbove_123 : decode c_Tr_isAbove 123 = .ok (.iload 4, 2) := by decide +kernel
theorem d_Tr_isAbove_125 : decode c_Tr_isAbove 125 = .ok (.iaload, 1) := by decide +kernel
theorem d_Tr_isAbove_126 : decode c_Tr_isAbove 126 = .ok (.if_icmp .ge 7, 3) := by decide +kernel
theorem d_Tr_isAbove_129 : decode c_Tr_isAbove 129 = .ok (.iconst 1, 1) := by decide +kernel
theorem d_Tr_isAbove_130 : decode c_Tr_isAbove 130 = .ok (.goto 4, 3) := by decide +kernel
theorem d_Tr_isAbove_133 : decode c_Tr_isAbove 133 = .ok (.iconst 0, 1) := by decide +kernel
theorem d_Tr_isAbove_134 : decode c_Tr_isAbove 134 = .ok (.ireturn, 1) := by decide +kernel
theorem d_Tr_isAbove_135 : decode c_Tr_isAbove 135 = .ok (.aload_n 0, 1) := by decide +kernel
theorem d_Tr_isAbove_136 : decode c_Tr_isAbove 136 = .ok (.getfield 9, 3) := by decide +kernel
theorem d_Tr_isAbove_139 : decode c_Tr_isAbove 139 = .ok (.iload_n 3, 1) := by decide +kernel
theorem d_Tr_isAbove_140 : decode c_Tr_isAbove 140 = .ok (.iaload, 1) := by decide +kernel
theorem d_Tr_isAbove_141 : decode c_Tr_isAbove 141 = .ok (.aload_n 0, 1) := by decide +kernel
theorem d_Tr_isAbove_142 : decode c_Tr_isAbove 142 = .ok (.getfield 9, 3) := by decide +kernel
theorem d_Tr_isAbove_145 : decode c_Tr_isAbove 145 = .ok (.iload 4, 2) := by decide +kernel
theorem d_Tr_isAbove_147 : decode c_Tr_isAbove 147 = .ok (.iaload, 1) := by decide +kernel
theorem d_Tr_isAbove_148 : decode c_Tr_isAbove 148 = .ok (.if_icmp .eq 25, 3) := by decide +kernel
theorem d_Tr_isAbove_151 : decode c_Tr_isAbove 151 = .ok (.aload_n 0, 1) := by decide +kernel
theorem d_Tr_isAbove_152 : decode c_Tr_isAbove 152 = .ok (.getfield 9, 3) := by decide +kernel
theorem d_Tr_isAbove_155 : decode c_Tr_isAbove 155 = .ok (.iload_n 3, 1) := by decide +kernel
theorem d_Tr_isAbove_156 : decode c_Tr_isAbove 156 = .ok (.iaload, 1) := by decide +kernel
theorem d_Tr_isAbove_157 : decode c_Tr_isAbove 157 = .ok (.aload_n 0, 1) := by decide +kernel
theorem d_Tr_isAbove_158 : decode c_Tr_isAbove 158 = .ok (.getfield 9, 3) := by decide +kernel
theorem d_Tr_isAbove_161 : decode c_Tr_isAbove 161 = .ok (.iload 4, 2) := by decide +kernel
theorem d_Tr_isAbove_163 : decode c_Tr_isAbove 163 = .ok (.iaload, 1) := by decide +kernel
theorem d_Tr_isAbove_164 : decode c_Tr_isAbove 164 = .ok (.if_icmp .le 7, 3) := by decide +kernel
theorem d_Tr_isAbove_167 : decode c_Tr_isAbove 167 = .ok (.iconst 1, 1) := by decide +kernel
theorem d_Tr_isAbove_168 : decode c_Tr_isAbove 168 = .ok (.goto 4, 3) := by decide +kernel
theorem d_Tr_isAbove_171 : decode c_Tr_isAbove 171 = .ok (.iconst 0, 1) := by decide +kernel
theorem d_Tr_isAbove_172 : decode c_Tr_isAbove 172 = .ok (.ireturn, 1) := by decide +kernel
theorem d_Tr_isAbove_173 : decode c_Tr_isAbove 173 = .ok (.aload_n 0, 1) := by decide +kernel
theorem d_Tr_isAbove_174 : decode c_Tr_isAbove 174 = .ok (.getfield 15, 3) := by decide +kernel
theorem d_Tr_isAbove_177 : decode c_Tr_isAbove 177 = .ok (.iload_n 3, 1) := by decide +kernel
theorem d_Tr_isAbove_178 : decode c_Tr_isAbove 178 = .ok (.iaload, 1) := by decide +kernel
theorem d_Tr_isAbove_179 : decode c_Tr_isAbove 179 = .ok (.aload_n 0, 1) := by decide +kernel
theorem d_Tr_isAbove_180 : decode c_Tr_isAbove 180 = .ok (.getfield 15, 3) := by decide +kernel
theorem d_Tr_isAbove_183 : decode c_Tr_isAbove 183 = .ok (.iload 4, 2) := by decide +kernel
theorem d_Tr_isAbove_185 : decode c_Tr_isAbove 185 = .ok (.iaload, 1) := by decide +kernel
theorem d_Tr_isAbove_186 : decode c_Tr_isAbove 186 = .ok (.if_icmp .eq 7, 3) := by decide +kernel
theorem d_Tr_isAbove_189 : decode c_Tr_isAbove 189 = .ok (.iconst 1, 1) := by decide +kernel
theorem d_Tr_isAbove_190 : decode c_Tr_isAbove 190 = .ok (.goto 4, 3) := by decide +kernel
theorem d_Tr_isAbove_193 : decode c_Tr_isAbove 193 = .ok (.iconst 0, 1) := by decide +kernel
theorem d_Tr_isAbove_194 : decode c_Tr_isAbove 194 = .ok (.istore 6, 2) := by decide +kernel
theorem d_Tr_isAbove_196 : decode c_Tr_isAbove 196 = .ok (.iload 6, 2) := by decide +kernel
theorem d_Tr_isAbove_198 : decode c_Tr_isAbove 198 = .ok (.ifCond .eq 12, 3) := by decide +kernel
theorem d_Tr_isAbove_201 : decode c_Tr_isAbove 201 = .ok (.aload_n 0, 1) := by decide +kernel
theorem d_Tr_isAbove_202 : decode c_Tr_isAbove 202 = .ok (.getfield 15, 3) := by decide +kernel
theorem d_Tr_isAbove_205 : decode c_Tr_isAbove 205 = .ok (.iload_n 3, 1) := by decide +kernel
theorem d_Tr_isAbove_206 : decode c_Tr_isAbove 206 = .ok (.iaload, 1) := by decide +kernel
theorem d_Tr_isAbove_207 : decode c_Tr_isAbove 207 = .ok (.goto 9, 3) := by decide +kernel
theorem d_Tr_isAbove_210 : decode c_Tr_isAbove 210 = .ok (.aload_n 0, 1) := by decide +kernel
theorem d_Tr_isAbove_211 : decode c_Tr_isAbove 211 = .ok (.getfield 18, 3) := by decide +kernel
theorem d_Tr_isAbove_214 : decode c_Tr_isAbove 214 = .ok (.iload_n 3, 1) := by decide +kernel
theorem d_Tr_isAbove_215 : decode c_Tr_isAbove 215 = .ok (.iaload, 1) := by decide +kernel
theorem d_Tr_isAbove_216 : decode c_Tr_isAbove 216 = .ok (.istore_n 3, 1) := by decide +kernel
theorem d_Tr_isAbove_217 : decode c_Tr_isAbove 217 = .ok (.iload 6, 2) := by decide +kernel
theorem d_Tr_isAbove_219 : decode c_Tr_isAbove 219 = .ok (.ifCond .eq 13, 3) := by decide +kernel
theorem d_Tr_isAbove_222 : decode c_Tr_isAbove 222 = .ok (.aload_n 0, 1) := by decide +kernel
theorem d_Tr_isAbove_223 : decode c_Tr_isAbove 223 = .ok (.getfield 15, 3) := by decide +kernel
theorem d_Tr_isAbove_226 : decode c_Tr_isAbove 226 = .ok (.iload 4, 2) := by decide +kernel
theorem d_Tr_isAbove_228 : decode c_Tr_isAbove 228 = .ok (.iaload, 1) := by decide +kernel
theorem d_Tr_isAbove_229 : decode c_Tr_isAbove 229 = .ok (.goto 10, 3) := by decide +kernel
theorem d_Tr_isAbove_232 : decode c_Tr_isAbove 232 = .ok (.aload_n 0, 1) := by decide +kernel
theorem d_Tr_isAbove_233 : decode c_Tr_isAbove 233 = .ok (.getfield 18, 3) := by decide +kernel
theorem d_Tr_isAbove_236 : decode c_Tr_isAbove 236 = .ok (.iload 4, 2) := by decide +kernel
theorem d_Tr_isAbove_238 : decode c_Tr_isAbove 238 = .ok (.iaload, 1) := by decide +kernel
theorem d_Tr_isAbove_239 : decode c_Tr_isAbove 239 = .ok (.istore 4, 2) := by decide +kernel
theorem d_Tr_isAbove_241 : decode c_Tr_isAbove 241 = .ok (.iinc 5 1, 3) := by decide +kernel
theorem d_Tr_isAbove_244 : decode c_Tr_isAbove 244 = .ok (.goto (-236), 3) := by decide +kernel
theorem d_Tr_isAbove_247 : decode c_Tr_isAbove 247 = .ok (.iconst 0, 1) := by decide +kernel
theorem d_Tr_isAbove_248 : decode c_Tr_isAbove 248 = .ok (.ireturn, 1) := by decide +kernel
theorem d_Tr_hasHolesOf_0 : decode c_Tr_hasHolesOf 0 = .ok (.iconst 0, 1) := by decide +kernel
theorem d_Tr_hasHolesOf_1 : decode c_Tr_hasHolesOf 1 = .ok (.istore_n 3, 1) := by decide +kernel
theorem d_Tr_hasHolesOf_2 : decode c_Tr_hasHolesOf 2 = .ok (.iload_n 3, 1) := by decide +kernel
theorem d_Tr_hasHolesOf_3 : decode c_Tr_hasHolesOf 3 = .ok (.bipush 6, 2) := by decide +kernel
theorem d_Tr_hasHolesOf_5 : decode c_Tr_hasHolesOf 5 = .ok (.if_icmp .ge 26, 3) := by decide +kernel
theorem d_Tr_hasHolesOf_8 : decode c_Tr_hasHolesOf 8 = .ok (.aload_n 0, 1) := by decide +kernel
theorem d_Tr_hasHolesOf_9 : decode c_Tr_hasHolesOf 9 = .ok (.iload_n 1, 1) := by decide +kernel
theorem d_Tr_hasHolesOf_10 : decode c_Tr_hasHolesOf 10 = .ok (.iload_n 3, 1) := by decide +kernel
theorem d_Tr_hasHolesOf_11 : decode c_Tr_hasHolesOf 11 = .ok (.invokevirtual 77, 3) := by decide +kernel
theorem d_Tr_hasHolesOf_14 : decode c_Tr_hasHolesOf 14 = .ok (.aload_n 0, 1) := by decide +kernel
theorem d_Tr_hasHolesOf_15 : decode c_Tr_hasHolesOf 15 = .ok (.iload_n 2, 1) := by decide +kernel
theorem d_Tr_hasHolesOf_16 : decode c_Tr_hasHolesOf 16 = .ok (.iload_n 3, 1) := by decide +kernel
theorem d_Tr_hasHolesOf_17 : decode c_Tr_hasHolesOf 17 = .ok (.invokevirtual 77, 3) := by decide +kernel
theorem d_Tr_hasHolesOf_20 : decode c_Tr_hasHolesOf 20 = .ok (.if_icmp .ge 5, 3) := by decide +kernel
theorem d_Tr_hasHolesOf_23 : decode c_Tr_hasHolesOf 23 = .ok (.iconst 0, 1) := by decide +kernel
theorem d_Tr_hasHolesOf_24 : decode c_Tr_hasHolesOf 24 = .ok (.ireturn, 1) := by decide +kernel
theorem d_Tr_hasHolesOf_25 : decode c_Tr_hasHolesOf 25 = .ok (.iinc 3 1, 3) := by decide +kernel
theorem d_Tr_hasHolesOf_28 : decode c_Tr_hasHolesOf 28 = .ok (.goto (-26), 3) := by decide +kernel
theorem d_Tr_hasHolesOf_31 : decode c_Tr_hasHolesOf 31 = .ok (.iconst 1, 1) := by decide +kernel
theorem d_Tr_hasHolesOf_32 : decode c_Tr_hasHolesOf 32 = .ok (.ireturn, 1) := by decide +kernel
theorem d_Tr_isLeaf_0 : decode c_Tr_isLeaf 0 = .ok (.iload_n 1, 1) := by decide +kernel
theorem d_Tr_isLeaf_1 : decode c_Tr_isLeaf 1 = .ok (.ifCond .lt 16, 3) := by decide +kernel
theorem d_Tr_isLeaf_4 : decode c_Tr_isLeaf 4 = .ok (.aload_n 0, 1) := by decide +kernel
theorem d_Tr_isLeaf_5 : decode c_Tr_isLeaf 5 = .ok (.getfield 9, 3) := by decide +kernel
theorem d_Tr_isLeaf_8 : decode c_Tr_isLeaf 8 = .ok (.iload_n 1, 1) := by decide +kernel
theorem d_Tr_isLeaf_9 : decode c_Tr_isLeaf 9 = .ok (.iaload, 1) := by decide +kernel
theorem d_Tr_isLeaf_10 : decode c_Tr_isLeaf 10 = .ok (.ifCond .ge 7, 3) := by decide +kernel
theorem d_Tr_isLeaf_13 : decode c_Tr_isLeaf 13 = .ok (.iconst 1, 1) := by decide +kernel
theorem d_Tr_isLeaf_14 : decode c_Tr_isLeaf 14 = .ok (.goto 4, 3) := by decide +kernel
theorem d_Tr_isLeaf_17 : decode c_Tr_isLeaf 17 = .ok (.iconst 0, 1) := by decide +kernel
theorem d_Tr_isLeaf_18 : decode c_Tr_isLeaf 18 = .ok (.ireturn, 1) := by decide +kernel
theorem d_Ru_add_0 : decode c_Ru_add 0 = .ok (.aload_n 0, 1) := by decide +kernel
theorem d_Ru_add_1 : decode c_Ru_add 1 = .ok (.getfield 31, 3) := by decide +kernel
theorem d_Ru_add_4 : decode c_Ru_add 4 = .ok (.bipush 16, 2) := by decide +kernel
theorem d_Ru_add_6 : decode c_Ru_add 6 = .ok (.if_icmp .lt 5, 3) := by decide +kernel
theorem d_Ru_add_9 : decode c_Ru_add 9 = .ok (.iconst (-1), 1) := by decide +kernel
theorem d_Ru_add_10 : decode c_Ru_add 10 = .ok (.ireturn, 1) := by decide +kernel
theorem d_Ru_add_11 : decode c_Ru_add 11 = .ok (.aload_n 0, 1) := by decide +kernel
theorem d_Ru_add_12 : decode c_Ru_add 12 = .ok (.getfield 31, 3) := by decide +kernel
theorem d_Ru_add_15 : decode c_Ru_add 15 = .ok (.istore 5, 2) := by decide +kernel
theorem d_Ru_add_17 : decode c_Ru_add 17 = .ok (.aload_n 0, 1) := by decide +kernel
theorem d_Ru_add_18 : decode c_Ru_add 18 = .ok (.dup, 1) := by decide +kernel
theorem d_Ru_add_19 : decode c_Ru_add 19 = .ok (.getfield 31, 3) := by decide +kernel
theorem d_Ru_add_22 : decode c_Ru_add 22 = .ok (.iconst 1, 1) := by decide +kernel
theorem d_Ru_add_23 : decode c_Ru_add 23 = .ok (.iadd, 1) := by decide +kernel
theorem d_Ru_add_24 : decode c_Ru_add 24 = .ok (.putfield 31, 3) := by decide +kernel
theorem d_Ru_add_27 : decode c_Ru_add 27 = .ok (.aload_n 0, 1) := by decide +kernel
theorem d_Ru_add_28 : decode c_Ru_add 28 = .ok (.getfield 9, 3) := by decide +kernel
theorem d_Ru_add_31 : decode c_Ru_add 31 = .ok (.iload 5, 2) := by decide +kernel
theorem d_Ru_add_33 : decode c_Ru_add 33 = .ok (.iload_n 1, 1) := by decide +kernel
theorem d_Ru_add_34 : decode c_Ru_add 34 = .ok (.iastore, 1) := by decide +kernel
theorem d_Ru_add_35 : decode c_Ru_add 35 = .ok (.aload_n 0, 1) := by decide +kernel
theorem d_Ru_add_36 : decode c_Ru_add 36 = .ok (.getfield 15, 3) := by decide +kernel
theorem d_Ru_add_39 : decode c_Ru_add 39 = .ok (.iload 5, 2) := by decide +kernel
theorem d_Ru_add_41 : decode c_Ru_add 41 = .ok (.iload_n 2, 1) := by decide +kernel
theorem d_Ru_add_42 : decode c_Ru_add 42 = .ok (.iastore, 1) := by decide +kernel
theorem d_Ru_add_43 : decode c_Ru_add 43 = .ok (.aload_n 0, 1) := by decide +kernel
theorem d_Ru_add_44 : decode c_Ru_add 44 = .ok (.getfield 18, 3) := by decide +kernel
theorem d_Ru_add_47 : decode c_Ru_add 47 = .ok (.iload 5, 2) := by decide +kernel
theorem d_Ru_add_49 : decode c_Ru_add 49 = .ok (.iload_n 3, 1) := by decide +kernel
theorem d_Ru_add_50 : decode c_Ru_add 50 = .ok (.iastore, 1) := by decide +kernel
theorem d_Ru_add_51 : decode c_Ru_add 51 = .ok (.aload_n 0, 1) := by decide +kernel
theorem d_Ru_add_52 : decode c_Ru_add 52 = .ok (.getfield 21, 3) := by decide +kernel
theorem d_Ru_add_55 : decode c_Ru_add 55 = .ok (.iload 5, 2) := by decide +kernel
theorem d_Ru_add_57 : decode c_Ru_add 57 = .ok (.iload 4, 2) := by decide +kernel
theorem d_Ru_add_59 : decode c_Ru_add 59 = .ok (.bastore, 1) := by decide +kernel
theorem d_Ru_add_60 : decode c_Ru_add 60 = .ok (.aload_n 0, 1) := by decide +kernel
theorem d_Ru_add_61 : decode c_Ru_add 61 = .ok (.getfield 25, 3) := by decide +kernel
theorem d_Ru_add_64 : decode c_Ru_add 64 = .ok (.iload 5, 2) := by decide +kernel
theorem d_Ru_add_66 : decode c_Ru_add 66 = .ok (.iconst 1, 1) := by decide +kernel
theorem d_Ru_add_67 : decode c_Ru_add 67 = .ok (.bastore, 1) := by decide +kernel
theorem d_Ru_add_68 : decode c_Ru_add 68 = .ok (.iload 5, 2) := by decide +kernel
theorem d_Ru_add_70 : decode c_Ru_add 70 = .ok (.ireturn, 1) := by decide +kernel
theorem d_Rn_run_0 : decode c_Rn_run 0 = .ok (.aload_n 0, 1) := by decide +kernel
theorem d_Rn_run_1 : decode c_Rn_run 1 = .ok (.iload_n 3, 1) := by decide +kernel
theorem d_Rn_run_2 : decode c_Rn_run 2 = .ok (.invokevirtual 53, 3) := by decide +kernel
theorem d_Rn_run_5 : decode c_Rn_run 5 = .ok (.aload 4, 2) := by decide +kernel
theorem d_Rn_run_7 : decode c_Rn_run 7 = .ok (.iconst 0, 1) := by decide +kernel
theorem d_Rn_run_8 : decode c_Rn_run 8 = .ok (.putfield 57, 3) := by decide +kernel
theorem d_Rn_run_11 : decode c_Rn_run 11 = .ok (.aload_n 0, 1) := by decide +kernel
theorem d_Rn_run_12 : decode c_Rn_run 12 = .ok (.iconst 0, 1) := by decide +kernel
theorem d_Rn_run_13 : decode c_Rn_run 13 = .ok (.putfield 38, 3) := by decide +kernel
theorem d_Rn_run_16 : decode c_Rn_run 16 = .ok (.iload_n 1, 1) := by decide +kernel
theorem d_Rn_run_17 : decode c_Rn_run 17 = .ok (.istore 5, 2) := by decide +kernel
theorem d_Rn_run_19 : decode c_Rn_run 19 = .ok (.aload_n 0, 1) := by decide +kernel
theorem d_Rn_run_20 : decode c_Rn_run 20 = .ok (.getfield 38, 3) := by decide +kernel
theorem d_Rn_run_23 : decode c_Rn_run 23 = .ok (.iload_n 2, 1) := by decide +kernel
theorem d_Rn_run_24 : decode c_Rn_run 24 = .ok (.if_icmp .ge 66, 3) := by decide +kernel
theorem d_Rn_run_27 : decode c_Rn_run 27 = .ok (.aload_n 0, 1) := by decide +kernel
theorem d_Rn_run_28 : decode c_Rn_run 28 = .ok (.iload 5, 2) := by decide +kernel
theorem d_Rn_run_30 : decode c_Rn_run 30 = .ok (.invokevirtual 62, 3) := by decide +kernel
theorem d_Rn_run_33 : decode c_Rn_run 33 = .ok (.ifCond .eq 57, 3) := by decide +kernel
theorem d_Rn_run_36 : decode c_Rn_run 36 = .ok (.aload_n 0, 1) := by decide +kernel
theorem d_Rn_run_37 : decode c_Rn_run 37 = .ok (.iload 5, 2) := by decide +kernel
theorem d_Rn_run_39 : decode c_Rn_run 39 = .ok (.invokevirtual 66, 3) := by decide +kernel
theorem d_Rn_run_42 : decode c_Rn_run 42 = .ok (.istore 6, 2) := by decide +kernel
theorem d_Rn_run_44 : decode c_Rn_run 44 = .ok (.iload 6, 2) := by decide +kernel
theorem d_Rn_run_46 : decode c_Rn_run 46 = .ok (.ifCond .ge 5, 3) := by decide +kernel
theorem d_Rn_run_49 : decode c_Rn_run 49 = .ok (.iconst (-1), 1) := by decide +kernel
theorem d_Rn_run_50 : decode c_Rn_run 50 = .ok (.ireturn, 1) := by decide +kernel
theorem d_Rn_run_51 : decode c_Rn_run 51 = .ok (.aload 4, 2) := by decide +kernel
theorem d_Rn_run_53 : decode c_Rn_run 53 = .ok (.aload_n 0, 1) := by decide +kernel
theorem d_Rn_run_54 : decode c_Rn_run 54 = .ok (.getfield 15, 3) := by decide +kernel
theorem d_Rn_run_57 : decode c_Rn_run 57 = .ok (.aload_n 0, 1) := by decide +kernel
theorem d_Rn_run_58 : decode c_Rn_run 58 = .ok (.getfield 22, 3) := by decide +kernel
theorem d_Rn_run_61 : decode c_Rn_run 61 = .ok (.iaload, 1) := by decide +kernel
theorem d_Rn_run_62 : decode c_Rn_run 62 = .ok (.aload_n 0, 1) := by decide +kernel
theorem d_Rn_run_63 : decode c_Rn_run 63 = .ok (.getfield 26, 3) := by decide +kernel
theorem d_Rn_run_66 : decode c_Rn_run 66 = .ok (.iload 5, 2) := by decide +kernel
theorem d_Rn_run_68 : decode c_Rn_run 68 = .ok (.iload 6, 2) := by decide +kernel
theorem d_Rn_run_70 : decode c_Rn_run 70 = .ok (.invokevirtual 70, 3) := by decide +kernel
theorem d_Rn_run_73 : decode c_Rn_run 73 = .ok (.iload 6, 2) := by decide +kernel
theorem d_Rn_run_75 : decode c_Rn_run 75 = .ok (.istore 5, 2) := by decide +kernel
theorem d_Rn_run_77 : decode c_Rn_run 77 = .ok (.aload_n 0, 1) := by decide +kernel
theorem d_Rn_run_78 : decode c_Rn_run 78 = .ok (.dup, 1) := by decide +kernel
theorem d_Rn_run_79 : decode c_Rn_run 79 = .ok (.getfield 38, 3) := by decide +kernel
theorem d_Rn_run_82 : decode c_Rn_run 82 = .ok (.iconst 1, 1) := by decide +kernel
theorem d_Rn_run_83 : decode c_Rn_run 83 = .ok (.iadd, 1) := by decide +kernel
theorem d_Rn_run_84 : decode c_Rn_run 84 = .ok (.putfield 38, 3) := by decide +kernel
theorem d_Rn_run_87 : decode c_Rn_run 87 = .ok (.goto (-68), 3) := by decide +kernel
theorem d_Rn_run_90 : decode c_Rn_run 90 = .ok (.aload_n 0, 1) := by decide +kernel
theorem d_Rn_run_91 : decode c_Rn_run 91 = .ok (.aload_n 0, 1) := by decide +kernel
theorem d_Rn_run_92 : decode c_Rn_run 92 = .ok (.iload 5, 2) := by decide +kernel
theorem d_Rn_run_94 : decode c_Rn_run 94 = .ok (.invokevirtual 62, 3) := by decide +kernel
theorem d_Rn_run_97 : decode c_Rn_run 97 = .ok (.putfield 41, 3) := by decide +kernel
theorem d_Rn_run_100 : decode c_Rn_run 100 = .ok (.iload 5, 2) := by decide +kernel
theorem d_Rn_run_102 : decode c_Rn_run 102 = .ok (.ireturn, 1) := by decide +kernel
theorem d_Rn_begin_0 : decode c_Rn_begin 0 = .ok (.aload_n 0, 1) := by decide +kernel
theorem d_Rn_begin_1 : decode c_Rn_begin 1 = .ok (.getfield 15, 3) := by decide +kernel
theorem d_Rn_begin_4 : decode c_Rn_begin 4 = .ok (.bipush (-3), 2) := by decide +kernel
theorem d_Rn_begin_6 : decode c_Rn_begin 6 = .ok (.invokestatic 74, 3) := by decide +kernel
theorem d_Rn_begin_9 : decode c_Rn_begin 9 = .ok (.iconst 0, 1) := by decide +kernel
theorem d_Rn_begin_10 : decode c_Rn_begin 10 = .ok (.istore_n 2, 1) := by decide +kernel
theorem d_Rn_begin_11 : decode c_Rn_begin 11 = .ok (.iload_n 2, 1) := by decide +kernel
theorem d_Rn_begin_12 : decode c_Rn_begin 12 = .ok (.aload_n 0, 1) := by decide +kernel
theorem d_Rn_begin_13 : decode c_Rn_begin 13 = .ok (.getfield 49, 3) := by decide +kernel
theorem d_Rn_begin_16 : decode c_Rn_begin 16 = .ok (.getfield 80, 3) := by decide +kernel
theorem d_Rn_begin_19 : decode c_Rn_begin 19 = .ok (.if_icmp .ge 47, 3) := by decide +kernel
theorem d_Rn_begin_22 : decode c_Rn_begin 22 = .ok (.aload_n 0, 1) := by decide +kernel
theorem d_Rn_begin_23 : decode c_Rn_begin 23 = .ok (.getfield 9, 3) := by decide +kernel
theorem d_Rn_begin_26 : decode c_Rn_begin 26 = .ok (.iload_n 2, 1) := by decide +kernel
theorem d_Rn_begin_27 : decode c_Rn_begin 27 = .ok (.aload_n 0, 1) := by decide +kernel
theorem d_Rn_begin_28 : decode c_Rn_begin 28 = .ok (.getfield 49, 3) := by decide +kernel
theorem d_Rn_begin_31 : decode c_Rn_begin 31 = .ok (.iload_n 2, 1) := by decide +kernel
theorem d_Rn_begin_32 : decode c_Rn_begin 32 = .ok (.invokevirtual 83, 3) := by decide +kernel
theorem d_Rn_begin_35 : decode c_Rn_begin 35 = .ok (.ifCond .eq 23, 3) := by decide +kernel
theorem d_Rn_begin_38 : decode c_Rn_begin 38 = .ok (.aload_n 0, 1) := by decide +kernel
theorem d_Rn_begin_39 : decode c_Rn_begin 39 = .ok (.getfield 49, 3) := by decide +kernel
theorem d_Rn_begin_42 : decode c_Rn_begin 42 = .ok (.getfield 86, 3) := by decide +kernel
theorem d_Rn_begin_45 : decode c_Rn_begin 45 = .ok (.iload_n 2, 1) := by decide +kernel
theorem d_Rn_begin_46 : decode c_Rn_begin 46 = .ok (.baload, 1) := by decide +kernel
theorem d_Rn_begin_47 : decode c_Rn_begin 47 = .ok (.ifCond .ne 7, 3) := by decide +kernel
theorem d_Rn_begin_50 : decode c_Rn_begin 50 = .ok (.iload_n 1, 1) := by decide +kernel
theorem d_Rn_begin_51 : decode c_Rn_begin 51 = .ok (.ifCond .ne 7, 3) := by decide +kernel
theorem d_Rn_begin_54 : decode c_Rn_begin 54 = .ok (.iconst 1, 1) := by decide +kernel
theorem d_Rn_begin_55 : decode c_Rn_begin 55 = .ok (.goto 4, 3) := by decide +kernel
theorem d_Rn_begin_58 : decode c_Rn_begin 58 = .ok (.iconst 0, 1) := by decide +kernel
theorem d_Rn_begin_59 : decode c_Rn_begin 59 = .ok (.bastore, 1) := by decide +kernel
theorem d_Rn_begin_60 : decode c_Rn_begin 60 = .ok (.iinc 2 1, 3) := by decide +kernel
theorem d_Rn_begin_63 : decode c_Rn_begin 63 = .ok (.goto (-52), 3) := by decide +kernel
theorem d_Rn_begin_66 : decode c_Rn_begin 66 = .ok (.return_, 1) := by decide +kernel
theorem d_Ru_mayBeUsed_0 : decode c_Ru_mayBeUsed 0 = .ok (.aload_n 0, 1) := by decide +kernel
theorem d_Ru_mayBeUsed_1 : decode c_Ru_mayBeUsed 1 = .ok (.getfield 25, 3) := by decide +kernel
theorem d_Ru_mayBeUsed_4 : decode c_Ru_mayBeUsed 4 = .ok (.iload_n 1, 1) := by decide +kernel
theorem d_Ru_mayBeUsed_5 : decode c_Ru_mayBeUsed 5 = .ok (.baload, 1) := by decide +kernel
theorem d_Ru_mayBeUsed_6 : decode c_Ru_mayBeUsed 6 = .ok (.ifCond .eq 32, 3) := by decide +kernel
theorem d_Ru_mayBeUsed_9 : decode c_Ru_mayBeUsed 9 = .ok (.aload_n 0, 1) := by decide +kernel
theorem d_Ru_mayBeUsed_10 : decode c_Ru_mayBeUsed 10 = .ok (.getfield 18, 3) := by decide +kernel
theorem d_Ru_mayBeUsed_13 : decode c_Ru_mayBeUsed 13 = .ok (.iload_n 1, 1) := by decide +kernel
theorem d_Ru_mayBeUsed_14 : decode c_Ru_mayBeUsed 14 = .ok (.iaload, 1) := by decide +kernel
theorem d_Ru_mayBeUsed_15 : decode c_Ru_mayBeUsed 15 = .ok (.iconst (-1), 1) := by decide +kernel
theorem d_Ru_mayBeUsed_16 : decode c_Ru_mayBeUsed 16 = .ok (.if_icmp .eq 18, 3) := by decide +kernel
theorem d_Ru_mayBeUsed_19 : decode c_Ru_mayBeUsed 19 = .ok (.aload_n 0, 1) := by decide +kernel
theorem d_Ru_mayBeUsed_20 : decode c_Ru_mayBeUsed 20 = .ok (.getfield 28, 3) := by decide +kernel
theorem d_Ru_mayBeUsed_23 : decode c_Ru_mayBeUsed 23 = .ok (.aload_n 0, 1) := by decide +kernel
theorem d_Ru_mayBeUsed_24 : decode c_Ru_mayBeUsed 24 = .ok (.getfield 18, 3) := by decide +kernel
theorem d_Ru_mayBeUsed_27 : decode c_Ru_mayBeUsed 27 = .ok (.iload_n 1, 1) := by decide +kernel
theorem d_Ru_mayBeUsed_28 : decode c_Ru_mayBeUsed 28 = .ok (.iaload, 1) := by decide +kernel
theorem d_Ru_mayBeUsed_29 : decode c_Ru_mayBeUsed 29 = .ok (.iaload, 1) := by decide +kernel
theorem d_Ru_mayBeUsed_30 : decode c_Ru_mayBeUsed 30 = .ok (.iconst 1, 1) := by decide +kernel
theorem d_Ru_mayBeUsed_31 : decode c_Ru_mayBeUsed 31 = .ok (.if_icmp .ne 7, 3) := by decide +kernel
theorem d_Ru_mayBeUsed_34 : decode c_Ru_mayBeUsed 34 = .ok (.iconst 1, 1) := by decide +kernel
theorem d_Ru_mayBeUsed_35 : decode c_Ru_mayBeUsed 35 = .ok (.goto 4, 3) := by decide +kernel
theorem d_Ru_mayBeUsed_38 : decode c_Ru_mayBeUsed 38 = .ok (.iconst 0, 1) := by decide +kernel
theorem d_Ru_mayBeUsed_39 : decode c_Ru_mayBeUsed 39 = .ok (.ireturn, 1) := by decide +kernel
theorem d_Rn_canStep_0 : decode c_Rn_canStep 0 = .ok (.iload_n 1, 1) := by decide +kernel
theorem d_Rn_canStep_1 : decode c_Rn_canStep 1 = .ok (.ifCond .ge 5, 3) := by decide +kernel
theorem d_Rn_canStep_4 : decode c_Rn_canStep 4 = .ok (.iconst 0, 1) := by decide +kernel
theorem d_Rn_canStep_5 : decode c_Rn_canStep 5 = .ok (.ireturn, 1) := by decide +kernel
theorem d_Rn_canStep_6 : decode c_Rn_canStep 6 = .ok (.aload_n 0, 1) := by decide +kernel
theorem d_Rn_canStep_7 : decode c_Rn_canStep 7 = .ok (.getfield 15, 3) := by decide +kernel
theorem d_Rn_canStep_10 : decode c_Rn_canStep 10 = .ok (.iload_n 1, 1) := by decide +kernel
theorem d_Rn_canStep_11 : decode c_Rn_canStep 11 = .ok (.iaload, 1) := by decide +kernel
theorem d_Rn_canStep_12 : decode c_Rn_canStep 12 = .ok (.bipush (-3), 2) := by decide +kernel
theorem d_Rn_canStep_14 : decode c_Rn_canStep 14 = .ok (.if_icmp .ne 61, 3) := by decide +kernel
theorem d_Rn_canStep_17 : decode c_Rn_canStep 17 = .ok (.aload_n 0, 1) := by decide +kernel
theorem d_Rn_canStep_18 : decode c_Rn_canStep 18 = .ok (.aload_n 0, 1) := by decide +kernel
theorem d_Rn_canStep_19 : decode c_Rn_canStep 19 = .ok (.getfield 45, 3) := by decide +kernel
theorem d_Rn_canStep_22 : decode c_Rn_canStep 22 = .ok (.getfield 89, 3) := by decide +kernel
theorem d_Rn_canStep_25 : decode c_Rn_canStep 25 = .ok (.iload_n 1, 1) := by decide +kernel
theorem d_Rn_canStep_26 : decode c_Rn_canStep 26 = .ok (.iaload, 1) := by decide +kernel
theorem d_Rn_canStep_27 : decode c_Rn_canStep 27 = .ok (.invokevirtual 62, 3) := by decide +kernel
theorem d_Rn_canStep_30 : decode c_Rn_canStep 30 = .ok (.ifCond .ne 19, 3) := by decide +kernel
theorem d_Rn_canStep_33 : decode c_Rn_canStep 33 = .ok (.aload_n 0, 1) := by decide +kernel
theorem d_Rn_canStep_34 : decode c_Rn_canStep 34 = .ok (.aload_n 0, 1) := by decide +kernel
theorem d_Rn_canStep_35 : decode c_Rn_canStep 35 = .ok (.getfield 45, 3) := by decide +kernel
theorem d_Rn_canStep_38 : decode c_Rn_canStep 38 = .ok (.getfield 94, 3) := by decide +kernel
theorem d_Rn_canStep_41 : decode c_Rn_canStep 41 = .ok (.iload_n 1, 1) := by decide +kernel
theorem d_Rn_canStep_42 : decode c_Rn_canStep 42 = .ok (.iaload, 1) := by decide +kernel
theorem d_Rn_canStep_43 : decode c_Rn_canStep 43 = .ok (.invokevirtual 62, 3) := by decide +kernel
theorem d_Rn_canStep_46 : decode c_Rn_canStep 46 = .ok (.ifCond .eq 7, 3) := by decide +kernel
theorem d_Rn_canStep_49 : decode c_Rn_canStep 49 = .ok (.iconst 1, 1) := by decide +kernel
theorem d_Rn_canStep_50 : decode c_Rn_canStep 50 = .ok (.goto 4, 3) := by decide +kernel
theorem d_Rn_canStep_53 : decode c_Rn_canStep 53 = .ok (.iconst 0, 1) := by decide +kernel
theorem d_Rn_canStep_54 : decode c_Rn_canStep 54 = .ok (.istore_n 2, 1) := by decide +kernel
theorem d_Rn_canStep_55 : decode c_Rn_canStep 55 = .ok (.aload_n 0, 1) := by decide +kernel
theorem d_Rn_canStep_56 : decode c_Rn_canStep 56 = .ok (.getfield 15, 3) := by decide +kernel
theorem d_Rn_canStep_59 : decode c_Rn_canStep 59 = .ok (.iload_n 1, 1) := by decide +kernel
theorem d_Rn_canStep_60 : decode c_Rn_canStep 60 = .ok (.iload_n 2, 1) := by decide +kernel
theorem d_Rn_canStep_61 : decode c_Rn_canStep 61 = .ok (.ifCond .eq 8, 3) := by decide +kernel
theorem d_Rn_canStep_64 : decode c_Rn_canStep 64 = .ok (.bipush (-2), 2) := by decide +kernel
theorem d_Rn_canStep_66 : decode c_Rn_canStep 66 = .ok (.goto 8, 3) := by decide +kernel
theorem d_Rn_canStep_69 : decode c_Rn_canStep 69 = .ok (.aload_n 0, 1) := by decide +kernel
theorem d_Rn_canStep_70 : decode c_Rn_canStep 70 = .ok (.iload_n 1, 1) := by decide +kernel
theorem d_Rn_canStep_71 : decode c_Rn_canStep 71 = .ok (.invokevirtual 97, 3) := by decide +kernel
theorem d_Rn_canStep_74 : decode c_Rn_canStep 74 = .ok (.iastore, 1) := by decide +kernel
theorem d_Rn_canStep_75 : decode c_Rn_canStep 75 = .ok (.aload_n 0, 1) := by decide +kernel
theorem d_Rn_canStep_76 : decode c_Rn_canStep 76 = .ok (.getfield 15, 3) := by decide +kernel
theorem d_Rn_canStep_79 : decode c_Rn_canStep 79 = .ok (.iload_n 1, 1) := by decide +kernel
theorem d_Rn_canStep_80 : decode c_Rn_canStep 80 = .ok (.iaload, 1) := by decide +kernel
theorem d_Rn_canStep_81 : decode c_Rn_canStep 81 = .ok (.iconst (-1), 1) := by decide +kernel
theorem d_Rn_canStep_82 : decode c_Rn_canStep 82 = .ok (.if_icmp .eq 7, 3) := by decide +kernel
theorem d_Rn_canStep_85 : decode c_Rn_canStep 85 = .ok (.iconst 1, 1) := by decide +kernel
theorem d_Rn_canStep_86 : decode c_Rn_canStep 86 = .ok (.goto 4, 3) := by decide +kernel
theorem d_Rn_canStep_89 : decode c_Rn_canStep 89 = .ok (.iconst 0, 1) := by decide +kernel
theorem d_Rn_canStep_90 : decode c_Rn_canStep 90 = .ok (.ireturn, 1) := by decide +kernel
theorem d_Rn_lowestRule_0 : decode c_Rn_lowestRule 0 = .ok (.iconst 0, 1) := by decide +kernel
theorem d_Rn_lowestRule_1 : decode c_Rn_lowestRule 1 = .ok (.istore_n 2, 1) := by decide +kernel
theorem d_Rn_lowestRule_2 : decode c_Rn_lowestRule 2 = .ok (.iload_n 2, 1) := by decide +kernel
theorem d_Rn_lowestRule_3 : decode c_Rn_lowestRule 3 = .ok (.aload_n 0, 1) := by decide +kernel
theorem d_Rn_lowestRule_4 : decode c_Rn_lowestRule 4 = .ok (.getfield 49, 3) := by decide +kernel
theorem d_Rn_lowestRule_7 : decode c_Rn_lowestRule 7 = .ok (.getfield 80, 3) := by decide +kernel
theorem d_Rn_lowestRule_10 : decode c_Rn_lowestRule 10 = .ok (.if_icmp .ge 37, 3) := by decide +kernel
theorem d_Rn_lowestRule_13 : decode c_Rn_lowestRule 13 = .ok (.aload_n 0, 1) := by decide +kernel
theorem d_Rn_lowestRule_14 : decode c_Rn_lowestRule 14 = .ok (.getfield 9, 3) := by decide +kernel
theorem d_Rn_lowestRule_17 : decode c_Rn_lowestRule 17 = .ok (.iload_n 2, 1) := by decide +kernel
theorem d_Rn_lowestRule_18 : decode c_Rn_lowestRule 18 = .ok (.baload, 1) := by decide +kernel
theorem d_Rn_lowestRule_19 : decode c_Rn_lowestRule 19 = .ok (.ifCond .eq 22, 3) := by decide +kernel
theorem d_Rn_lowestRule_22 : decode c_Rn_lowestRule 22 = .ok (.aload_n 0, 1) := by decide +kernel
theorem d_Rn_lowestRule_23 : decode c_Rn_lowestRule 23 = .ok (.aload_n 0, 1) := by decide +kernel
theorem d_Rn_lowestRule_24 : decode c_Rn_lowestRule 24 = .ok (.getfield 49, 3) := by decide +kernel
theorem d_Rn_lowestRule_27 : decode c_Rn_lowestRule 27 = .ok (.getfield 100, 3) := by decide +kernel
theorem d_Rn_lowestRule_30 : decode c_Rn_lowestRule 30 = .ok (.iload_n 2, 1) := by decide +kernel
theorem d_Rn_lowestRule_31 : decode c_Rn_lowestRule 31 = .ok (.iaload, 1) := by decide +kernel
theorem d_Rn_lowestRule_32 : decode c_Rn_lowestRule 32 = .ok (.iload_n 1, 1) := by decide +kernel
theorem d_Rn_lowestRule_33 : decode c_Rn_lowestRule 33 = .ok (.invokevirtual 103, 3) := by decide +kernel
theorem d_Rn_lowestRule_36 : decode c_Rn_lowestRule 36 = .ok (.ifCond .eq 5, 3) := by decide +kernel
theorem d_Rn_lowestRule_39 : decode c_Rn_lowestRule 39 = .ok (.iload_n 2, 1) := by decide +kernel
theorem d_Rn_lowestRule_40 : decode c_Rn_lowestRule 40 = .ok (.ireturn, 1) := by decide +kernel
theorem d_Rn_lowestRule_41 : decode c_Rn_lowestRule 41 = .ok (.iinc 2 1, 3) := by decide +kernel
theorem d_Rn_lowestRule_44 : decode c_Rn_lowestRule 44 = .ok (.goto (-42), 3) := by decide +kernel
theorem d_Rn_lowestRule_47 : decode c_Rn_lowestRule 47 = .ok (.iconst (-1), 1) := by decide +kernel
theorem d_Rn_lowestRule_48 : decode c_Rn_lowestRule 48 = .ok (.ireturn, 1) := by decide +kernel
theorem d_Rn_matches_0 : decode c_Rn_matches 0 = .ok (.aload_n 0, 1) := by decide +kernel
theorem d_Rn_matches_1 : decode c_Rn_matches 1 = .ok (.getfield 45, 3) := by decide +kernel
theorem d_Rn_matches_4 : decode c_Rn_matches 4 = .ok (.getfield 107, 3) := by decide +kernel
theorem d_Rn_matches_7 : decode c_Rn_matches 7 = .ok (.iload_n 1, 1) := by decide +kernel
theorem d_Rn_matches_8 : decode c_Rn_matches 8 = .ok (.iaload, 1) := by decide +kernel
theorem d_Rn_matches_9 : decode c_Rn_matches 9 = .ok (.aload_n 0, 1) := by decide +kernel
theorem d_Rn_matches_10 : decode c_Rn_matches 10 = .ok (.getfield 45, 3) := by decide +kernel
theorem d_Rn_matches_13 : decode c_Rn_matches 13 = .ok (.getfield 107, 3) := by decide +kernel
theorem d_Rn_matches_16 : decode c_Rn_matches 16 = .ok (.iload_n 2, 1) := by decide +kernel
theorem d_Rn_matches_17 : decode c_Rn_matches 17 = .ok (.iaload, 1) := by decide +kernel
theorem d_Rn_matches_18 : decode c_Rn_matches 18 = .ok (.if_icmp .ne 24, 3) := by decide +kernel
theorem d_Rn_matches_21 : decode c_Rn_matches 21 = .ok (.aload_n 0, 1) := by decide +kernel
theorem d_Rn_matches_22 : decode c_Rn_matches 22 = .ok (.getfield 45, 3) := by decide +kernel
theorem d_Rn_matches_25 : decode c_Rn_matches 25 = .ok (.getfield 110, 3) := by decide +kernel
theorem d_Rn_matches_28 : decode c_Rn_matches 28 = .ok (.iload_n 1, 1) := by decide +kernel
theorem d_Rn_matches_29 : decode c_Rn_matches 29 = .ok (.iaload, 1) := by decide +kernel
theorem d_Rn_matches_30 : decode c_Rn_matches 30 = .ok (.aload_n 0, 1) := by decide +kernel
theorem d_Rn_matches_31 : decode c_Rn_matches 31 = .ok (.getfield 45, 3) := by decide +kernel
theorem d_Rn_matches_34 : decode c_Rn_matches 34 = .ok (.getfield 110, 3) := by decide +kernel
theorem d_Rn_matches_37 : decode c_Rn_matches 37 = .ok (.iload_n 2, 1) := by decide +kernel
theorem d_Rn_matches_38 : decode c_Rn_matches 38 = .ok (.iaload, 1) := by decide +kernel
theorem d_Rn_matches_39 : decode c_Rn_matches 39 = .ok (.if_icmp .le 5, 3) := by decide +kernel
theorem d_Rn_matches_42 : decode c_Rn_matches 42 = .ok (.iconst 0, 1) := by decide +kernel
theorem d_Rn_matches_43 : decode c_Rn_matches 43 = .ok (.ireturn, 1) := by decide +kernel
theorem d_Rn_matches_44 : decode c_Rn_matches 44 = .ok (.aload_n 0, 1) := by decide +kernel
theorem d_Rn_matches_45 : decode c_Rn_matches 45 = .ok (.getfield 19, 3) := by decide +kernel
theorem d_Rn_matches_48 : decode c_Rn_matches 48 = .ok (.iconst (-1), 1) := by decide +kernel
theorem d_Rn_matches_49 : decode c_Rn_matches 49 = .ok (.invokestatic 74, 3) := by decide +kernel
theorem d_Rn_matches_52 : decode c_Rn_matches 52 = .ok (.aload_n 0, 1) := by decide +kernel
theorem d_Rn_matches_53 : decode c_Rn_matches 53 = .ok (.iload_n 1, 1) := by decide +kernel
theorem d_Rn_matches_54 : decode c_Rn_matches 54 = .ok (.iload_n 2, 1) := by decide +kernel
theorem d_Rn_matches_55 : decode c_Rn_matches 55 = .ok (.invokevirtual 113, 3) := by decide +kernel
theorem d_Rn_matches_58 : decode c_Rn_matches 58 = .ok (.ireturn, 1) := by decide +kernel
theorem d_Rn_fits_0 : decode c_Rn_fits 0 = .ok (.iload_n 1, 1) := by decide +kernel
theorem d_Rn_fits_1 : decode c_Rn_fits 1 = .ok (.ifCond .lt 19, 3) := by decide +kernel
theorem d_Rn_fits_4 : decode c_Rn_fits 4 = .ok (.iload_n 2, 1) := by decide +kernel
theorem d_Rn_fits_5 : decode c_Rn_fits 5 = .ok (.ifCond .lt 15, 3) := by decide +kernel
theorem d_Rn_fits_8 : decode c_Rn_fits 8 = .ok (.aload_n 0, 1) := by decide +kernel
theorem d_Rn_fits_9 : decode c_Rn_fits 9 = .ok (.getfield 45, 3) := by decide +kernel
theorem d_Rn_fits_12 : decode c_Rn_fits 12 = .ok (.getfield 116, 3) := by decide +kernel
theorem d_Rn_fits_15 : decode c_Rn_fits 15 = .ok (.iload_n 1, 1) := by decide +kernel
theorem d_Rn_fits_16 : decode c_Rn_fits 16 = .ok (.iaload, 1) := by decide +kernel
theorem d_Rn_fits_17 : decode c_Rn_fits 17 = .ok (.ifCond .ne 14, 3) := by decide +kernel
theorem d_Rn_fits_20 : decode c_Rn_fits 20 = .ok (.iload_n 1, 1) := by decide +kernel
theorem d_Rn_fits_21 : decode c_Rn_fits 21 = .ok (.iload_n 2, 1) := by decide +kernel
theorem d_Rn_fits_22 : decode c_Rn_fits 22 = .ok (.if_icmp .ne 7, 3) := by decide +kernel
theorem d_Rn_fits_25 : decode c_Rn_fits 25 = .ok (.iconst 1, 1) := by decide +kernel
theorem d_Rn_fits_26 : decode c_Rn_fits 26 = .ok (.goto 4, 3) := by decide +kernel
theorem d_Rn_fits_29 : decode c_Rn_fits 29 = .ok (.iconst 0, 1) := by decide +kernel
theorem d_Rn_fits_30 : decode c_Rn_fits 30 = .ok (.ireturn, 1) := by decide +kernel
theorem d_Rn_fits_31 : decode c_Rn_fits 31 = .ok (.aload_n 0, 1) := by decide +kernel
theorem d_Rn_fits_32 : decode c_Rn_fits 32 = .ok (.getfield 45, 3) := by decide +kernel
theorem d_Rn_fits_35 : decode c_Rn_fits 35 = .ok (.getfield 107, 3) := by decide +kernel
theorem d_Rn_fits_38 : decode c_Rn_fits 38 = .ok (.iload_n 1, 1) := by decide +kernel
theorem d_Rn_fits_39 : decode c_Rn_fits 39 = .ok (.iaload, 1) := by decide +kernel
theorem d_Rn_fits_40 : decode c_Rn_fits 40 = .ok (.istore_n 3, 1) := by decide +kernel
theorem d_Rn_fits_41 : decode c_Rn_fits 41 = .ok (.iload_n 3, 1) := by decide +kernel
theorem d_Rn_fits_42 : decode c_Rn_fits 42 = .ok (.bipush 100, 2) := by decide +kernel
theorem d_Rn_fits_44 : decode c_Rn_fits 44 = .ok (.if_icmp .lt 13, 3) := by decide +kernel
theorem d_Rn_fits_47 : decode c_Rn_fits 47 = .ok (.aload_n 0, 1) := by decide +kernel
theorem d_Rn_fits_48 : decode c_Rn_fits 48 = .ok (.iload_n 3, 1) := by decide +kernel
theorem d_Rn_fits_49 : decode c_Rn_fits 49 = .ok (.bipush 100, 2) := by decide +kernel
theorem d_Rn_fits_51 : decode c_Rn_fits 51 = .ok (.isub, 1) := by decide +kernel
theorem d_Rn_fits_52 : decode c_Rn_fits 52 = .ok (.iload_n 2, 1) := by decide +kernel
theorem d_Rn_fits_53 : decode c_Rn_fits 53 = .ok (.invokevirtual 119, 3) := by decide +kernel
theorem d_Rn_fits_56 : decode c_Rn_fits 56 = .ok (.ireturn, 1) := by decide +kernel
theorem d_Rn_fits_57 : decode c_Rn_fits 57 = .ok (.iload_n 3, 1) := by decide +kernel
theorem d_Rn_fits_58 : decode c_Rn_fits 58 = .ok (.aload_n 0, 1) := by decide +kernel
theorem d_Rn_fits_59 : decode c_Rn_fits 59 = .ok (.getfield 45, 3) := by decide +kernel
theorem d_Rn_fits_62 : decode c_Rn_fits 62 = .ok (.getfield 107, 3) := by decide +kernel
theorem d_Rn_fits_65 : decode c_Rn_fits 65 = .ok (.iload_n 2, 1) := by decide +kernel
theorem d_Rn_fits_66 : decode c_Rn_fits 66 = .ok (.iaload, 1) := by decide +kernel
theorem d_Rn_fits_67 : decode c_Rn_fits 67 = .ok (.if_icmp .ne 57, 3) := by decide +kernel
theorem d_Rn_fits_70 : decode c_Rn_fits 70 = .ok (.aload_n 0, 1) := by decide +kernel
theorem d_Rn_fits_71 : decode c_Rn_fits 71 = .ok (.aload_n 0, 1) := by decide +kernel
theorem d_Rn_fits_72 : decode c_Rn_fits 72 = .ok (.getfield 45, 3) := by decide +kernel
theorem d_Rn_fits_75 : decode c_Rn_fits 75 = .ok (.getfield 89, 3) := by decide +kernel
theorem d_Rn_fits_78 : decode c_Rn_fits 78 = .ok (.iload_n 1, 1) := by decide +kernel
theorem d_Rn_fits_79 : decode c_Rn_fits 79 = .ok (.iaload, 1) := by decide +kernel
theorem d_Rn_fits_80 : decode c_Rn_fits 80 = .ok (.aload_n 0, 1) := by decide +kernel
theorem d_Rn_fits_81 : decode c_Rn_fits 81 = .ok (.getfield 45, 3) := by decide +kernel
theorem d_Rn_fits_84 : decode c_Rn_fits 84 = .ok (.getfield 89, 3) := by decide +kernel
theorem d_Rn_fits_87 : decode c_Rn_fits 87 = .ok (.iload_n 2, 1) := by decide +kernel
theorem d_Rn_fits_88 : decode c_Rn_fits 88 = .ok (.iaload, 1) := by decide +kernel
theorem d_Rn_fits_89 : decode c_Rn_fits 89 = .ok (.invokevirtual 113, 3) := by decide +kernel
theorem d_Rn_fits_92 : decode c_Rn_fits 92 = .ok (.ifCond .eq 32, 3) := by decide +kernel
theorem d_Rn_fits_95 : decode c_Rn_fits 95 = .ok (.aload_n 0, 1) := by decide +kernel
theorem d_Rn_fits_96 : decode c_Rn_fits 96 = .ok (.aload_n 0, 1) := by decide +kernel
theorem d_Rn_fits_97 : decode c_Rn_fits 97 = .ok (.getfield 45, 3) := by decide +kernel
theorem d_Rn_fits_100 : decode c_Rn_fits 100 = .ok (.getfield 94, 3) := by decide +kernel
theorem d_Rn_fits_103 : decode c_Rn_fits 103 = .ok (.iload_n 1, 1) := by decide +kernel
theorem d_Rn_fits_104 : decode c_Rn_fits 104 = .ok (.iaload, 1) := by decide +kernel
theorem d_Rn_fits_105 : decode c_Rn_fits 105 = .ok (.aload_n 0, 1) := by decide +kernel
theorem d_Rn_fits_106 : decode c_Rn_fits 106 = .ok (.getfield 45, 3) := by decide +kernel
theorem d_Rn_fits_109 : decode c_Rn_fits 109 = .ok (.getfield 94, 3) := by decide +kernel
theorem d_Rn_fits_112 : decode c_Rn_fits 112 = .ok (.iload_n 2, 1) := by decide +kernel
theorem d_Rn_fits_113 : decode c_Rn_fits 113 = .ok (.iaload, 1) := by decide +kernel
theorem d_Rn_fits_114 : decode c_Rn_fits 114 = .ok (.invokevirtual 113, 3) := by decide +kernel
theorem d_Rn_fits_117 : decode c_Rn_fits 117 = .ok (.ifCond .eq 7, 3) := by decide +kernel
theorem d_Rn_fits_120 : decode c_Rn_fits 120 = .ok (.iconst 1, 1) := by decide +kernel
theorem d_Rn_fits_121 : decode c_Rn_fits 121 = .ok (.goto 4, 3) := by decide +kernel
theorem d_Rn_fits_124 : decode c_Rn_fits 124 = .ok (.iconst 0, 1) := by decide +kernel
theorem d_Rn_fits_125 : decode c_Rn_fits 125 = .ok (.ireturn, 1) := by decide +kernel
theorem d_Rn_bind_0 : decode c_Rn_bind 0 = .ok (.aload_n 0, 1) := by decide +kernel
theorem d_Rn_bind_1 : decode c_Rn_bind 1 = .ok (.getfield 19, 3) := by decide +kernel
theorem d_Rn_bind_4 : decode c_Rn_bind 4 = .ok (.iload_n 1, 1) := by decide +kernel
theorem d_Rn_bind_5 : decode c_Rn_bind 5 = .ok (.iaload, 1) := by decide +kernel
theorem d_Rn_bind_6 : decode c_Rn_bind 6 = .ok (.iconst (-1), 1) := by decide +kernel
theorem d_Rn_bind_7 : decode c_Rn_bind 7 = .ok (.if_icmp .ne 10, 3) := by decide +kernel
theorem d_Rn_bind_10 : decode c_Rn_bind 10 = .ok (.aload_n 0, 1) := by decide +kernel
theorem d_Rn_bind_11 : decode c_Rn_bind 11 = .ok (.getfield 19, 3) := by decide +kernel
theorem d_Rn_bind_14 : decode c_Rn_bind 14 = .ok (.iload_n 1, 1) := by decide +kernel
theorem d_Rn_bind_15 : decode c_Rn_bind 15 = .ok (.iload_n 2, 1) := by decide +kernel
theorem d_Rn_bind_16 : decode c_Rn_bind 16 = .ok (.iastore, 1) := by decide +kernel
theorem d_Rn_bind_17 : decode c_Rn_bind 17 = .ok (.aload_n 0, 1) := by decide +kernel
theorem d_Rn_bind_18 : decode c_Rn_bind 18 = .ok (.getfield 19, 3) := by decide +kernel
theorem d_Rn_bind_21 : decode c_Rn_bind 21 = .ok (.iload_n 1, 1) := by decide +kernel
theorem d_Rn_bind_22 : decode c_Rn_bind 22 = .ok (.iaload, 1) := by decide +kernel
theorem d_Rn_bind_23 : decode c_Rn_bind 23 = .ok (.iload_n 2, 1) := by decide +kernel
theorem d_Rn_bind_24 : decode c_Rn_bind 24 = .ok (.if_icmp .ne 7, 3) := by decide +kernel
theorem d_Rn_bind_27 : decode c_Rn_bind 27 = .ok (.iconst 1, 1) := by decide +kernel
theorem d_Rn_bind_28 : decode c_Rn_bind 28 = .ok (.goto 4, 3) := by decide +kernel
theorem d_Rn_bind_31 : decode c_Rn_bind 31 = .ok (.iconst 0, 1) := by decide +kernel
theorem d_Rn_bind_32 : decode c_Rn_bind 32 = .ok (.ireturn, 1) := by decide +kernel
theorem d_Rn_step_0 : decode c_Rn_step 0 = .ok (.aload_n 0, 1) := by decide +kernel
theorem d_Rn_step_1 : decode c_Rn_step 1 = .ok (.iload_n 1, 1) := by decide +kernel
theorem d_Rn_step_2 : decode c_Rn_step 2 = .ok (.invokevirtual 122, 3) := by decide +kernel
theorem d_Rn_step_5 : decode c_Rn_step 5 = .ok (.aload_n 0, 1) := by decide +kernel
theorem d_Rn_step_6 : decode c_Rn_step 6 = .ok (.getfield 15, 3) := by decide +kernel
theorem d_Rn_step_9 : decode c_Rn_step 9 = .ok (.aload_n 0, 1) := by decide +kernel
theorem d_Rn_step_10 : decode c_Rn_step 10 = .ok (.getfield 22, 3) := by decide +kernel
theorem d_Rn_step_13 : decode c_Rn_step 13 = .ok (.iaload, 1) := by decide +kernel
theorem d_Rn_step_14 : decode c_Rn_step 14 = .ok (.istore_n 2, 1) := by decide +kernel
theorem d_Rn_step_15 : decode c_Rn_step 15 = .ok (.iload_n 2, 1) := by decide +kernel
theorem d_Rn_step_16 : decode c_Rn_step 16 = .ok (.ifCond .lt 23, 3) := by decide +kernel
theorem d_Rn_step_19 : decode c_Rn_step 19 = .ok (.aload_n 0, 1) := by decide +kernel
theorem d_Rn_step_20 : decode c_Rn_step 20 = .ok (.aload_n 0, 1) := by decide +kernel
theorem d_Rn_step_21 : decode c_Rn_step 21 = .ok (.getfield 49, 3) := by decide +kernel
theorem d_Rn_step_24 : decode c_Rn_step 24 = .ok (.getfield 100, 3) := by decide +kernel
theorem d_Rn_step_27 : decode c_Rn_step 27 = .ok (.iload_n 2, 1) := by decide +kernel
theorem d_Rn_step_28 : decode c_Rn_step 28 = .ok (.iaload, 1) := by decide +kernel
theorem d_Rn_step_29 : decode c_Rn_step 29 = .ok (.aload_n 0, 1) := by decide +kernel
theorem d_Rn_step_30 : decode c_Rn_step 30 = .ok (.getfield 22, 3) := by decide +kernel
theorem d_Rn_step_33 : decode c_Rn_step 33 = .ok (.invokevirtual 103, 3) := by decide +kernel
theorem d_Rn_step_36 : decode c_Rn_step 36 = .ok (.ifCond .ne 5, 3) := by decide +kernel
theorem d_Rn_step_39 : decode c_Rn_step 39 = .ok (.iconst (-1), 1) := by decide +kernel
theorem d_Rn_step_40 : decode c_Rn_step 40 = .ok (.ireturn, 1) := by decide +kernel
theorem d_Rn_step_41 : decode c_Rn_step 41 = .ok (.aload_n 0, 1) := by decide +kernel
theorem d_Rn_step_42 : decode c_Rn_step 42 = .ok (.aload_n 0, 1) := by decide +kernel
theorem d_Rn_step_43 : decode c_Rn_step 43 = .ok (.getfield 49, 3) := by decide +kernel
theorem d_Rn_step_46 : decode c_Rn_step 46 = .ok (.getfield 126, 3) := by decide +kernel
theorem d_Rn_step_49 : decode c_Rn_step 49 = .ok (.iload_n 2, 1) := by decide +kernel
theorem d_Rn_step_50 : decode c_Rn_step 50 = .ok (.iaload, 1) := by decide +kernel
theorem d_Rn_step_51 : decode c_Rn_step 51 = .ok (.invokevirtual 129, 3) := by decide +kernel
theorem d_Rn_step_54 : decode c_Rn_step 54 = .ok (.istore_n 3, 1) := by decide +kernel
theorem d_Rn_step_55 : decode c_Rn_step 55 = .ok (.aload_n 0, 1) := by decide +kernel
theorem d_Rn_step_56 : decode c_Rn_step 56 = .ok (.getfield 29, 3) := by decide +kernel
theorem d_Rn_step_59 : decode c_Rn_step 59 = .ok (.iconst 1, 1) := by decide +kernel
theorem d_Rn_step_60 : decode c_Rn_step 60 = .ok (.isub, 1) := by decide +kernel
theorem d_Rn_step_61 : decode c_Rn_step 61 = .ok (.istore 4, 2) := by decide +kernel
theorem d_Rn_step_63 : decode c_Rn_step 63 = .ok (.iload 4, 2) := by decide +kernel
theorem d_Rn_step_65 : decode c_Rn_step 65 = .ok (.ifCond .lt 96, 3) := by decide +kernel
theorem d_Rn_step_68 : decode c_Rn_step 68 = .ok (.iload_n 3, 1) := by decide +kernel
theorem d_Rn_step_69 : decode c_Rn_step 69 = .ok (.ifCond .lt 92, 3) := by decide +kernel
theorem d_Rn_step_72 : decode c_Rn_step 72 = .ok (.aload_n 0, 1) := by decide +kernel
theorem d_Rn_step_73 : decode c_Rn_step 73 = .ok (.getfield 32, 3) := by decide +kernel
theorem d_Rn_step_76 : decode c_Rn_step 76 = .ok (.iload 4, 2) := by decide +kernel
theorem d_Rn_step_78 : decode c_Rn_step 78 = .ok (.iaload, 1) := by decide +kernel
theorem d_Rn_step_79 : decode c_Rn_step 79 = .ok (.istore 5, 2) := by decide +kernel
theorem d_Rn_step_81 : decode c_Rn_step 81 = .ok (.aload_n 0, 1) := by decide +kernel
theorem d_Rn_step_82 : decode c_Rn_step 82 = .ok (.getfield 35, 3) := by decide +kernel
theorem d_Rn_step_85 : decode c_Rn_step 85 = .ok (.iload 4, 2) := by decide +kernel
theorem d_Rn_step_87 : decode c_Rn_step 87 = .ok (.baload, 1) := by decide +kernel
theorem d_Rn_step_88 : decode c_Rn_step 88 = .ok (.ifCond .eq 16, 3) := by decide +kernel
theorem d_Rn_step_91 : decode c_Rn_step 91 = .ok (.aload_n 0, 1) := by decide +kernel
theorem d_Rn_step_92 : decode c_Rn_step 92 = .ok (.getfield 45, 3) := by decide +kernel
theorem d_Rn_step_95 : decode c_Rn_step 95 = .ok (.getfield 89, 3) := by decide +kernel
theorem d_Rn_step_98 : decode c_Rn_step 98 = .ok (.iload 5, 2) := by decide +kernel
theorem d_Rn_step_100 : decode c_Rn_step 100 = .ok (.iaload, 1) := by decide +kernel
theorem d_Rn_step_101 : decode c_Rn_step 101 = .ok (.goto 4, 3) := by decide +kernel
theorem d_Rn_step_104 : decode c_Rn_step 104 = .ok (.iload_n 3, 1) := by decide +kernel
theorem d_Rn_step_105 : decode c_Rn_step 105 = .ok (.istore 6, 2) := by decide +kernel
theorem d_Rn_step_107 : decode c_Rn_step 107 = .ok (.aload_n 0, 1) := by decide +kernel
theorem d_Rn_step_108 : decode c_Rn_step 108 = .ok (.getfield 35, 3) := by decide +kernel
theorem d_Rn_step_111 : decode c_Rn_step 111 = .ok (.iload 4, 2) := by decide +kernel
theorem d_Rn_step_113 : decode c_Rn_step 113 = .ok (.baload, 1) := by decide +kernel
theorem d_Rn_step_114 : decode c_Rn_step 114 = .ok (.ifCond .eq 7, 3) := by decide +kernel
theorem d_Rn_step_117 : decode c_Rn_step 117 = .ok (.iload_n 3, 1) := by decide +kernel
theorem d_Rn_step_118 : decode c_Rn_step 118 = .ok (.goto 13, 3) := by decide +kernel
theorem d_Rn_step_121 : decode c_Rn_step 121 = .ok (.aload_n 0, 1) := by decide +kernel
theorem d_Rn_step_122 : decode c_Rn_step 122 = .ok (.getfield 45, 3) := by decide +kernel
theorem d_Rn_step_125 : decode c_Rn_step 125 = .ok (.getfield 94, 3) := by decide +kernel
theorem d_Rn_step_128 : decode c_Rn_step 128 = .ok (.iload 5, 2) := by decide +kernel
theorem d_Rn_step_130 : decode c_Rn_step 130 = .ok (.iaload, 1) := by decide +kernel
theorem d_Rn_step_131 : decode c_Rn_step 131 = .ok (.istore 7, 2) := by decide +kernel
theorem d_Rn_step_133 : decode c_Rn_step 133 = .ok (.aload_n 0, 1) := by decide +kernel
theorem d_Rn_step_134 : decode c_Rn_step 134 = .ok (.getfield 45, 3) := by decide +kernel
theorem d_Rn_step_137 : decode c_Rn_step 137 = .ok (.aload_n 0, 1) := by decide +kernel
theorem d_Rn_step_138 : decode c_Rn_step 138 = .ok (.getfield 45, 3) := by decide +kernel
theorem d_Rn_step_141 : decode c_Rn_step 141 = .ok (.getfield 107, 3) := by decide +kernel
theorem d_Rn_step_144 : decode c_Rn_step 144 = .ok (.iload 5, 2) := by decide +kernel
theorem d_Rn_step_146 : decode c_Rn_step 146 = .ok (.iaload, 1) := by decide +kernel
theorem d_Rn_step_147 : decode c_Rn_step 147 = .ok (.iload 6, 2) := by decide +kernel
theorem d_Rn_step_149 : decode c_Rn_step 149 = .ok (.iload 7, 2) := by decide +kernel
theorem d_Rn_step_151 : decode c_Rn_step 151 = .ok (.invokevirtual 132, 3) := by decide +kernel
theorem d_Rn_step_154 : decode c_Rn_step 154 = .ok (.istore_n 3, 1) := by decide +kernel
theorem d_Rn_step_155 : decode c_Rn_step 155 = .ok (.iinc 4 (-1), 3) := by decide +kernel
theorem d_Rn_step_158 : decode c_Rn_step 158 = .ok (.goto (-95), 3) := by decide +kernel
theorem d_Rn_step_161 : decode c_Rn_step 161 = .ok (.iload_n 3, 1) := by decide +kernel
theorem d_Rn_step_162 : decode c_Rn_step 162 = .ok (.ireturn, 1) := by decide +kernel
theorem d_Rn_seek_0 : decode c_Rn_seek 0 = .ok (.aload_n 0, 1) := by decide +kernel
theorem d_Rn_seek_1 : decode c_Rn_seek 1 = .ok (.iload_n 1, 1) := by decide +kernel
theorem d_Rn_seek_2 : decode c_Rn_seek 2 = .ok (.putfield 22, 3) := by decide +kernel
theorem d_Rn_seek_5 : decode c_Rn_seek 5 = .ok (.aload_n 0, 1) := by decide +kernel
theorem d_Rn_seek_6 : decode c_Rn_seek 6 = .ok (.iconst 0, 1) := by decide +kernel
theorem d_Rn_seek_7 : decode c_Rn_seek 7 = .ok (.putfield 26, 3) := by decide +kernel
theorem d_Rn_seek_10 : decode c_Rn_seek 10 = .ok (.aload_n 0, 1) := by decide +kernel
theorem d_Rn_seek_11 : decode c_Rn_seek 11 = .ok (.iconst 0, 1) := by decide +kernel
theorem d_Rn_seek_12 : decode c_Rn_seek 12 = .ok (.putfield 29, 3) := by decide +kernel
theorem d_Rn_seek_15 : decode c_Rn_seek 15 = .ok (.aload_n 0, 1) := by decide +kernel
theorem d_Rn_seek_16 : decode c_Rn_seek 16 = .ok (.getfield 29, 3) := by decide +kernel
theorem d_Rn_seek_19 : decode c_Rn_seek 19 = .ok (.bipush 30, 2) := by decide +kernel
theorem d_Rn_seek_21 : decode c_Rn_seek 21 = .ok (.if_icmp .ge 132, 3) := by decide +kernel
theorem d_Rn_seek_24 : decode c_Rn_seek 24 = .ok (.aload_n 0, 1) := by decide +kernel
theorem d_Rn_seek_25 : decode c_Rn_seek 25 = .ok (.getfield 15, 3) := by decide +kernel
theorem d_Rn_seek_28 : decode c_Rn_seek 28 = .ok (.aload_n 0, 1) := by decide +kernel
theorem d_Rn_seek_29 : decode c_Rn_seek 29 = .ok (.getfield 22, 3) := by decide +kernel
theorem d_Rn_seek_32 : decode c_Rn_seek 32 = .ok (.iaload, 1) := by decide +kernel
theorem d_Rn_seek_33 : decode c_Rn_seek 33 = .ok (.bipush (-2), 2) := by decide +kernel
theorem d_Rn_seek_35 : decode c_Rn_seek 35 = .ok (.if_icmp .ne 118, 3) := by decide +kernel
theorem d_Rn_seek_38 : decode c_Rn_seek 38 = .ok (.aload_n 0, 1) := by decide +kernel
theorem d_Rn_seek_39 : decode c_Rn_seek 39 = .ok (.getfield 45, 3) := by decide +kernel
theorem d_Rn_seek_42 : decode c_Rn_seek 42 = .ok (.getfield 89, 3) := by decide +kernel
theorem d_Rn_seek_45 : decode c_Rn_seek 45 = .ok (.aload_n 0, 1) := by decide +kernel
theorem d_Rn_seek_46 : decode c_Rn_seek 46 = .ok (.getfield 22, 3) := by decide +kernel
theorem d_Rn_seek_49 : decode c_Rn_seek 49 = .ok (.iaload, 1) := by decide +kernel
theorem d_Rn_seek_50 : decode c_Rn_seek 50 = .ok (.istore_n 2, 1) := by decide +kernel
theorem d_Rn_seek_51 : decode c_Rn_seek 51 = .ok (.aload_n 0, 1) := by decide +kernel
theorem d_Rn_seek_52 : decode c_Rn_seek 52 = .ok (.iload_n 2, 1) := by decide +kernel
theorem d_Rn_seek_53 : decode c_Rn_seek 53 = .ok (.invokevirtual 62, 3) := by decide +kernel
theorem d_Rn_seek_56 : decode c_Rn_seek 56 = .ok (.ifCond .ne 7, 3) := by decide +kernel
theorem d_Rn_seek_59 : decode c_Rn_seek 59 = .ok (.iconst 1, 1) := by decide +kernel
theorem d_Rn_seek_60 : decode c_Rn_seek 60 = .ok (.goto 4, 3) := by decide +kernel
theorem d_Rn_seek_63 : decode c_Rn_seek 63 = .ok (.iconst 0, 1) := by decide +kernel
theorem d_Rn_seek_64 : decode c_Rn_seek 64 = .ok (.istore_n 3, 1) := by decide +kernel
theorem d_Rn_seek_65 : decode c_Rn_seek 65 = .ok (.aload_n 0, 1) := by decide +kernel
theorem d_Rn_seek_66 : decode c_Rn_seek 66 = .ok (.getfield 32, 3) := by decide +kernel
theorem d_Rn_seek_69 : decode c_Rn_seek 69 = .ok (.aload_n 0, 1) := by decide +kernel
theorem d_Rn_seek_70 : decode c_Rn_seek 70 = .ok (.getfield 29, 3) := by decide +kernel
theorem d_Rn_seek_73 : decode c_Rn_seek 73 = .ok (.aload_n 0, 1) := by decide +kernel
theorem d_Rn_seek_74 : decode c_Rn_seek 74 = .ok (.getfield 22, 3) := by decide +kernel
theorem d_Rn_seek_77 : decode c_Rn_seek 77 = .ok (.iastore, 1) := by decide +kernel
theorem d_Rn_seek_78 : decode c_Rn_seek 78 = .ok (.aload_n 0, 1) := by decide +kernel
theorem d_Rn_seek_79 : decode c_Rn_seek 79 = .ok (.getfield 35, 3) := by decide +kernel
theorem d_Rn_seek_82 : decode c_Rn_seek 82 = .ok (.aload_n 0, 1) := by decide +kernel
theorem d_Rn_seek_83 : decode c_Rn_seek 83 = .ok (.getfield 29, 3) := by decide +kernel
theorem d_Rn_seek_86 : decode c_Rn_seek 86 = .ok (.iload_n 3, 1) := by decide +kernel
theorem d_Rn_seek_87 : decode c_Rn_seek 87 = .ok (.bastore, 1) := by decide +kernel
theorem d_Rn_seek_88 : decode c_Rn_seek 88 = .ok (.aload_n 0, 1) := by decide +kernel
theorem d_Rn_seek_89 : decode c_Rn_seek 89 = .ok (.dup, 1) := by decide +kernel
theorem d_Rn_seek_90 : decode c_Rn_seek 90 = .ok (.getfield 29, 3) := by decide +kernel
theorem d_Rn_seek_93 : decode c_Rn_seek 93 = .ok (.iconst 1, 1) := by decide +kernel
theorem d_Rn_seek_94 : decode c_Rn_seek 94 = .ok (.iadd, 1) := by decide +kernel
theorem d_Rn_seek_95 : decode c_Rn_seek 95 = .ok (.putfield 29, 3) := by decide +kernel
theorem d_Rn_seek_98 : decode c_Rn_seek 98 = .ok (.aload_n 0, 1) := by decide +kernel
theorem d_Rn_seek_99 : decode c_Rn_seek 99 = .ok (.dup, 1) := by decide +kernel
theorem d_Rn_seek_100 : decode c_Rn_seek 100 = .ok (.getfield 26, 3) := by decide +kernel
theorem d_Rn_seek_103 : decode c_Rn_seek 103 = .ok (.iload_n 3, 1) := by decide +kernel
theorem d_Rn_seek_104 : decode c_Rn_seek 104 = .ok (.ifCond .eq 17, 3) := by decide +kernel
theorem d_Rn_seek_107 : decode c_Rn_seek 107 = .ok (.iconst 1, 1) := by decide +kernel
theorem d_Rn_seek_108 : decode c_Rn_seek 108 = .ok (.aload_n 0, 1) := by decide +kernel
theorem d_Rn_seek_109 : decode c_Rn_seek 109 = .ok (.getfield 45, 3) := by decide +kernel
theorem d_Rn_seek_112 : decode c_Rn_seek 112 = .ok (.getfield 136, 3) := by decide +kernel
theorem d_Rn_seek_115 : decode c_Rn_seek 115 = .ok (.iload_n 2, 1) := by decide +kernel
theorem d_Rn_seek_116 : decode c_Rn_seek 116 = .ok (.iaload, 1) := by decide +kernel
theorem d_Rn_seek_117 : decode c_Rn_seek 117 = .ok (.iadd, 1) := by decide +kernel
theorem d_Rn_seek_118 : decode c_Rn_seek 118 = .ok (.goto 4, 3) := by decide +kernel
theorem d_Rn_seek_121 : decode c_Rn_seek 121 = .ok (.iconst 1, 1) := by decide +kernel
theorem d_Rn_seek_122 : decode c_Rn_seek 122 = .ok (.iadd, 1) := by decide +kernel
theorem d_Rn_seek_123 : decode c_Rn_seek 123 = .ok (.putfield 26, 3) := by decide +kernel
theorem d_Rn_seek_126 : decode c_Rn_seek 126 = .ok (.aload_n 0, 1) := by decide +kernel
theorem d_Rn_seek_127 : decode c_Rn_seek 127 = .ok (.iload_n 3, 1) := by decide +kernel
theorem d_Rn_seek_128 : decode c_Rn_seek 128 = .ok (.ifCond .eq 18, 3) := by decide +kernel
theorem d_Rn_seek_131 : decode c_Rn_seek 131 = .ok (.aload_n 0, 1) := by decide +kernel
theorem d_Rn_seek_132 : decode c_Rn_seek 132 = .ok (.getfield 45, 3) := by decide +kernel
theorem d_Rn_seek_135 : decode c_Rn_seek 135 = .ok (.getfield 94, 3) := by decide +kernel
theorem d_Rn_seek_138 : decode c_Rn_seek 138 = .ok (.aload_n 0, 1) := by decide +kernel
theorem d_Rn_seek_139 : decode c_Rn_seek 139 = .ok (.getfield 22, 3) := by decide +kernel
theorem d_Rn_seek_142 : decode c_Rn_seek 142 = .ok (.iaload, 1) := by decide +kernel
theorem d_Rn_seek_143 : decode c_Rn_seek 143 = .ok (.goto 4, 3) := by decide +kernel
theorem d_Rn_seek_146 : decode c_Rn_seek 146 = .ok (.iload_n 2, 1) := by decide +kernel
theorem d_Rn_seek_147 : decode c_Rn_seek 147 = .ok (.putfield 22, 3) := by decide +kernel
theorem d_Rn_seek_150 : decode c_Rn_seek 150 = .ok (.goto (-135), 3) := by decide +kernel
theorem d_Rn_seek_153 : decode c_Rn_seek 153 = .ok (.return_, 1) := by decide +kernel
theorem d_Rn_filled_0 : decode c_Rn_filled 0 = .ok (.iload_n 1, 1) := by decide +kernel
theorem d_Rn_filled_1 : decode c_Rn_filled 1 = .ok (.ifCond .lt 15, 3) := by decide +kernel
theorem d_Rn_filled_4 : decode c_Rn_filled 4 = .ok (.aload_n 0, 1) := by decide +kernel
theorem d_Rn_filled_5 : decode c_Rn_filled 5 = .ok (.getfield 45, 3) := by decide +kernel
theorem d_Rn_filled_8 : decode c_Rn_filled 8 = .ok (.getfield 116, 3) := by decide +kernel
theorem d_Rn_filled_11 : decode c_Rn_filled 11 = .ok (.iload_n 1, 1) := by decide +kernel
theorem d_Rn_filled_12 : decode c_Rn_filled 12 = .ok (.iaload, 1) := by decide +kernel
theorem d_Rn_filled_13 : decode c_Rn_filled 13 = .ok (.ifCond .ne 5, 3) := by decide +kernel
theorem d_Rn_filled_16 : decode c_Rn_filled 16 = .ok (.iload_n 1, 1) := by decide +kernel
theorem d_Rn_filled_17 : decode c_Rn_filled 17 = .ok (.ireturn, 1) := by decide +kernel
theorem d_Rn_filled_18 : decode c_Rn_filled 18 = .ok (.aload_n 0, 1) := by decide +kernel
theorem d_Rn_filled_19 : decode c_Rn_filled 19 = .ok (.getfield 45, 3) := by decide +kernel
theorem d_Rn_filled_22 : decode c_Rn_filled 22 = .ok (.getfield 107, 3) := by decide +kernel
theorem d_Rn_filled_25 : decode c_Rn_filled 25 = .ok (.iload_n 1, 1) := by decide +kernel
theorem d_Rn_filled_26 : decode c_Rn_filled 26 = .ok (.iaload, 1) := by decide +kernel
theorem d_Rn_filled_27 : decode c_Rn_filled 27 = .ok (.istore_n 2, 1) := by decide +kernel
theorem d_Rn_filled_28 : decode c_Rn_filled 28 = .ok (.iload_n 2, 1) := by decide +kernel
theorem d_Rn_filled_29 : decode c_Rn_filled 29 = .ok (.bipush 100, 2) := by decide +kernel
theorem d_Rn_filled_31 : decode c_Rn_filled 31 = .ok (.if_icmp .lt 13, 3) := by decide +kernel
theorem d_Rn_filled_34 : decode c_Rn_filled 34 = .ok (.aload_n 0, 1) := by decide +kernel
theorem d_Rn_filled_35 : decode c_Rn_filled 35 = .ok (.getfield 19, 3) := by decide +kernel
theorem d_Rn_filled_38 : decode c_Rn_filled 38 = .ok (.iload_n 2, 1) := by decide +kernel
theorem d_Rn_filled_39 : decode c_Rn_filled 39 = .ok (.bipush 100, 2) := by decide +kernel
theorem d_Rn_filled_41 : decode c_Rn_filled 41 = .ok (.isub, 1) := by decide +kernel
theorem d_Rn_filled_42 : decode c_Rn_filled 42 = .ok (.iaload, 1) := by decide +kernel
theorem d_Rn_filled_43 : decode c_Rn_filled 43 = .ok (.ireturn, 1) := by decide +kernel
theorem d_Rn_filled_44 : decode c_Rn_filled 44 = .ok (.aload_n 0, 1) := by decide +kernel
theorem d_Rn_filled_45 : decode c_Rn_filled 45 = .ok (.aload_n 0, 1) := by decide +kernel
theorem d_Rn_filled_46 : decode c_Rn_filled 46 = .ok (.getfield 45, 3) := by decide +kernel
theorem d_Rn_filled_49 : decode c_Rn_filled 49 = .ok (.getfield 89, 3) := by decide +kernel
theorem d_Rn_filled_52 : decode c_Rn_filled 52 = .ok (.iload_n 1, 1) := by decide +kernel
theorem d_Rn_filled_53 : decode c_Rn_filled 53 = .ok (.iaload, 1) := by decide +kernel
theorem d_Rn_filled_54 : decode c_Rn_filled 54 = .ok (.invokevirtual 129, 3) := by decide +kernel
theorem d_Rn_filled_57 : decode c_Rn_filled 57 = .ok (.istore_n 3, 1) := by decide +kernel
theorem d_Rn_filled_58 : decode c_Rn_filled 58 = .ok (.iload_n 3, 1) := by decide +kernel
theorem d_Rn_filled_59 : decode c_Rn_filled 59 = .ok (.ifCond .ge 7, 3) := by decide +kernel
theorem d_Rn_filled_62 : decode c_Rn_filled 62 = .ok (.iconst (-1), 1) := by decide +kernel
theorem d_Rn_filled_63 : decode c_Rn_filled 63 = .ok (.goto 16, 3) := by decide +kernel
theorem d_Rn_filled_66 : decode c_Rn_filled 66 = .ok (.aload_n 0, 1) := by decide +kernel
theorem d_Rn_filled_67 : decode c_Rn_filled 67 = .ok (.aload_n 0, 1) := by decide +kernel
theorem d_Rn_filled_68 : decode c_Rn_filled 68 = .ok (.getfield 45, 3) := by decide +kernel
theorem d_Rn_filled_71 : decode c_Rn_filled 71 = .ok (.getfield 94, 3) := by decide +kernel
theorem d_Rn_filled_74 : decode c_Rn_filled 74 = .ok (.iload_n 1, 1) := by decide +kernel
theorem d_Rn_filled_75 : decode c_Rn_filled 75 = .ok (.iaload, 1) := by decide +kernel
theorem d_Rn_filled_76 : decode c_Rn_filled 76 = .ok (.invokevirtual 129, 3) := by decide +kernel
theorem d_Rn_filled_79 : decode c_Rn_filled 79 = .ok (.istore 4, 2) := by decide +kernel
theorem d_Rn_filled_81 : decode c_Rn_filled 81 = .ok (.iload_n 3, 1) := by decide +kernel
theorem d_Rn_filled_82 : decode c_Rn_filled 82 = .ok (.ifCond .lt 20, 3) := by decide +kernel
theorem d_Rn_filled_85 : decode c_Rn_filled 85 = .ok (.iload 4, 2) := by decide +kernel
theorem d_Rn_filled_87 : decode c_Rn_filled 87 = .ok (.ifCond .ge 17, 3) := by decide +kernel
theorem d_Rn_filled_90 : decode c_Rn_filled 90 = .ok (.aload_n 0, 1) := by decide +kernel
theorem d_Rn_filled_91 : decode c_Rn_filled 91 = .ok (.getfield 45, 3) := by decide +kernel
theorem d_Rn_filled_94 : decode c_Rn_filled 94 = .ok (.getfield 94, 3) := by decide +kernel
theorem d_Rn_filled_97 : decode c_Rn_filled 97 = .ok (.iload_n 1, 1) := by decide +kernel
theorem d_Rn_filled_98 : decode c_Rn_filled 98 = .ok (.iaload, 1) := by decide +kernel
theorem d_Rn_filled_99 : decode c_Rn_filled 99 = .ok (.ifCond .lt 5, 3) := by decide +kernel
theorem d_Rn_filled_102 : decode c_Rn_filled 102 = .ok (.iconst (-1), 1) := by decide +kernel
theorem d_Rn_filled_103 : decode c_Rn_filled 103 = .ok (.ireturn, 1) := by decide +kernel
theorem d_Rn_filled_104 : decode c_Rn_filled 104 = .ok (.aload_n 0, 1) := by decide +kernel
theorem d_Rn_filled_105 : decode c_Rn_filled 105 = .ok (.getfield 45, 3) := by decide +kernel
theorem d_Rn_filled_108 : decode c_Rn_filled 108 = .ok (.iload_n 2, 1) := by decide +kernel
theorem d_Rn_filled_109 : decode c_Rn_filled 109 = .ok (.iload_n 3, 1) := by decide +kernel
theorem d_Rn_filled_110 : decode c_Rn_filled 110 = .ok (.iload 4, 2) := by decide +kernel
theorem d_Rn_filled_112 : decode c_Rn_filled 112 = .ok (.invokevirtual 132, 3) := by decide +kernel
theorem d_Rn_filled_115 : decode c_Rn_filled 115 = .ok (.ireturn, 1) := by decide +kernel
theorem d_Ro_add_0 : decode c_Ro_add 0 = .ok (.aload_n 0, 1) := by decide +kernel
theorem d_Ro_add_1 : decode c_Ro_add 1 = .ok (.getfield 15, 3) := by decide +kernel
theorem d_Ro_add_4 : decode c_Ro_add 4 = .ok (.sipush 200, 3) := by decide +kernel
theorem d_Ro_add_7 : decode c_Ro_add 7 = .ok (.if_icmp .lt 4, 3) := by decide +kernel
theorem d_Ro_add_10 : decode c_Ro_add 10 = .ok (.return_, 1) := by decide +kernel
theorem d_Ro_add_11 : decode c_Ro_add 11 = .ok (.aload_n 0, 1) := by decide +kernel
theorem d_Ro_add_12 : decode c_Ro_add 12 = .ok (.getfield 15, 3) := by decide +kernel
theorem d_Ro_add_15 : decode c_Ro_add 15 = .ok (.iconst 4, 1) := by decide +kernel
theorem d_Ro_add_16 : decode c_Ro_add 16 = .ok (.imul, 1) := by decide +kernel
theorem d_Ro_add_17 : decode c_Ro_add 17 = .ok (.istore 5, 2) := by decide +kernel
theorem d_Ro_add_19 : decode c_Ro_add 19 = .ok (.aload_n 0, 1) := by decide +kernel
theorem d_Ro_add_20 : decode c_Ro_add 20 = .ok (.getfield 9, 3) := by decide +kernel
theorem d_Ro_add_23 : decode c_Ro_add 23 = .ok (.iload 5, 2) := by decide +kernel
theorem d_Ro_add_25 : decode c_Ro_add 25 = .ok (.iload_n 1, 1) := by decide +kernel
theorem d_Ro_add_26 : decode c_Ro_add 26 = .ok (.iastore, 1) := by decide +kernel
theorem d_Ro_add_27 : decode c_Ro_add 27 = .ok (.aload_n 0, 1) := by decide +kernel
theorem d_Ro_add_28 : decode c_Ro_add 28 = .ok (.getfield 9, 3) := by decide +kernel
theorem d_Ro_add_31 : decode c_Ro_add 31 = .ok (.iload 5, 2) := by decide +kernel
theorem d_Ro_add_33 : decode c_Ro_add 33 = .ok (.iconst 1, 1) := by decide +kernel
theorem d_Ro_add_34 : decode c_Ro_add 34 = .ok (.iadd, 1) := by decide +kernel
theorem d_Ro_add_35 : decode c_Ro_add 35 = .ok (.iload_n 2, 1) := by decide +kernel
theorem d_Ro_add_36 : decode c_Ro_add 36 = .ok (.iastore, 1) := by decide +kernel
theorem d_Ro_add_37 : decode c_Ro_add 37 = .ok (.aload_n 0, 1) := by decide +kernel
theorem d_Ro_add_38 : decode c_Ro_add 38 = .ok (.getfield 9, 3) := by decide +kernel
theorem d_Ro_add_41 : decode c_Ro_add 41 = .ok (.iload 5, 2) := by decide +kernel
theorem d_Ro_add_43 : decode c_Ro_add 43 = .ok (.iconst 2, 1) := by decide +kernel
theorem d_Ro_add_44 : decode c_Ro_add 44 = .ok (.iadd, 1) := by decide +kernel
theorem d_Ro_add_45 : decode c_Ro_add 45 = .ok (.iload_n 3, 1) := by decide +kernel
theorem d_Ro_add_46 : decode c_Ro_add 46 = .ok (.iastore, 1) := by decide +kernel
theorem d_Ro_add_47 : decode c_Ro_add 47 = .ok (.aload_n 0, 1) := by decide +kernel
theorem d_Ro_add_48 : decode c_Ro_add 48 = .ok (.getfield 9, 3) := by decide +kernel
theorem d_Ro_add_51 : decode c_Ro_add 51 = .ok (.iload 5, 2) := by decide +kernel
theorem d_Ro_add_53 : decode c_Ro_add 53 = .ok (.iconst 3, 1) := by decide +kernel
theorem d_Ro_add_54 : decode c_Ro_add 54 = .ok (.iadd, 1) := by decide +kernel
theorem d_Ro_add_55 : decode c_Ro_add 55 = .ok (.iload 4, 2) := by decide +kernel
theorem d_Ro_add_57 : decode c_Ro_add 57 = .ok (.iastore, 1) := by decide +kernel
theorem d_Ro_add_58 : decode c_Ro_add 58 = .ok (.aload_n 0, 1) := by decide +kernel
theorem d_Ro_add_59 : decode c_Ro_add 59 = .ok (.dup, 1) := by decide +kernel
theorem d_Ro_add_60 : decode c_Ro_add 60 = .ok (.getfield 15, 3) := by decide +kernel
theorem d_Ro_add_63 : decode c_Ro_add 63 = .ok (.iconst 1, 1) := by decide +kernel
theorem d_Ro_add_64 : decode c_Ro_add 64 = .ok (.iadd, 1) := by decide +kernel
theorem d_Ro_add_65 : decode c_Ro_add 65 = .ok (.putfield 15, 3) := by decide +kernel
theorem d_Ro_add_68 : decode c_Ro_add 68 = .ok (.return_, 1) := by decide +kernel
theorem d_Tr_shrinkTo_0 : decode c_Tr_shrinkTo 0 = .ok (.aload_n 0, 1) := by decide +kernel
theorem d_Tr_shrinkTo_1 : decode c_Tr_shrinkTo 1 = .ok (.getfield 42, 3) := by decide +kernel
theorem d_Tr_shrinkTo_4 : decode c_Tr_shrinkTo 4 = .ok (.iload_n 1, 1) := by decide +kernel
theorem d_Tr_shrinkTo_5 : decode c_Tr_shrinkTo 5 = .ok (.if_icmp .le 68, 3) := by decide +kernel
theorem d_Tr_shrinkTo_8 : decode c_Tr_shrinkTo 8 = .ok (.aload_n 0, 1) := by decide +kernel
theorem d_Tr_shrinkTo_9 : decode c_Tr_shrinkTo 9 = .ok (.getfield 42, 3) := by decide +kernel
theorem d_Tr_shrinkTo_12 : decode c_Tr_shrinkTo 12 = .ok (.ifCond .le 61, 3) := by decide +kernel
theorem d_Tr_shrinkTo_15 : decode c_Tr_shrinkTo 15 = .ok (.aload_n 0, 1) := by decide +kernel
theorem d_Tr_shrinkTo_16 : decode c_Tr_shrinkTo 16 = .ok (.dup, 1) := by decide +kernel
theorem d_Tr_shrinkTo_17 : decode c_Tr_shrinkTo 17 = .ok (.getfield 42, 3) := by decide +kernel
theorem d_Tr_shrinkTo_20 : decode c_Tr_shrinkTo 20 = .ok (.iconst 1, 1) := by decide +kernel
theorem d_Tr_shrinkTo_21 : decode c_Tr_shrinkTo 21 = .ok (.isub, 1) := by decide +kernel
theorem d_Tr_shrinkTo_22 : decode c_Tr_shrinkTo 22 = .ok (.putfield 42, 3) := by decide +kernel
theorem d_Tr_shrinkTo_25 : decode c_Tr_shrinkTo 25 = .ok (.aload_n 0, 1) := by decide +kernel
theorem d_Tr_shrinkTo_26 : decode c_Tr_shrinkTo 26 = .ok (.getfield 36, 3) := by decide +kernel
theorem d_Tr_shrinkTo_29 : decode c_Tr_shrinkTo 29 = .ok (.aload_n 0, 1) := by decide +kernel
theorem d_Tr_shrinkTo_30 : decode c_Tr_shrinkTo 30 = .ok (.aload_n 0, 1) := by decide +kernel
theorem d_Tr_shrinkTo_31 : decode c_Tr_shrinkTo 31 = .ok (.getfield 9, 3) := by decide +kernel
theorem d_Tr_shrinkTo_34 : decode c_Tr_shrinkTo 34 = .ok (.aload_n 0, 1) := by decide +kernel
theorem d_Tr_shrinkTo_35 : decode c_Tr_shrinkTo 35 = .ok (.getfield 42, 3) := by decide +kernel
theorem d_Tr_shrinkTo_38 : decode c_Tr_shrinkTo 38 = .ok (.iaload, 1) := by decide +kernel
theorem d_Tr_shrinkTo_39 : decode c_Tr_shrinkTo 39 = .ok (.aload_n 0, 1) := by decide +kernel
theorem d_Tr_shrinkTo_40 : decode c_Tr_shrinkTo 40 = .ok (.getfield 15, 3) := by decide +kernel
theorem d_Tr_shrinkTo_43 : decode c_Tr_shrinkTo 43 = .ok (.aload_n 0, 1) := by decide +kernel
theorem d_Tr_shrinkTo_44 : decode c_Tr_shrinkTo 44 = .ok (.getfield 42, 3) := by decide +kernel
theorem d_Tr_shrinkTo_47 : decode c_Tr_shrinkTo 47 = .ok (.iaload, 1) := by decide +kernel
theorem d_Tr_shrinkTo_48 : decode c_Tr_shrinkTo 48 = .ok (.aload_n 0, 1) := by decide +kernel
theorem d_Tr_shrinkTo_49 : decode c_Tr_shrinkTo 49 = .ok (.getfield 18, 3) := by decide +kernel
theorem d_Tr_shrinkTo_52 : decode c_Tr_shrinkTo 52 = .ok (.aload_n 0, 1) := by decide +kernel
theorem d_Tr_shrinkTo_53 : decode c_Tr_shrinkTo 53 = .ok (.getfield 42, 3) := by decide +kernel
theorem d_Tr_shrinkTo_56 : decode c_Tr_shrinkTo 56 = .ok (.iaload, 1) := by decide +kernel
theorem d_Tr_shrinkTo_57 : decode c_Tr_shrinkTo 57 = .ok (.invokevirtual 52, 3) := by decide +kernel
theorem d_Tr_shrinkTo_60 : decode c_Tr_shrinkTo 60 = .ok (.aload_n 0, 1) := by decide +kernel
theorem d_Tr_shrinkTo_61 : decode c_Tr_shrinkTo 61 = .ok (.getfield 39, 3) := by decide +kernel
theorem d_Tr_shrinkTo_64 : decode c_Tr_shrinkTo 64 = .ok (.aload_n 0, 1) := by decide +kernel
theorem d_Tr_shrinkTo_65 : decode c_Tr_shrinkTo 65 = .ok (.getfield 42, 3) := by decide +kernel
theorem d_Tr_shrinkTo_68 : decode c_Tr_shrinkTo 68 = .ok (.iaload, 1) := by decide +kernel
theorem d_Tr_shrinkTo_69 : decode c_Tr_shrinkTo 69 = .ok (.iastore, 1) := by decide +kernel
theorem d_Tr_shrinkTo_70 : decode c_Tr_shrinkTo 70 = .ok (.goto (-70), 3) := by decide +kernel
theorem d_Tr_shrinkTo_73 : decode c_Tr_shrinkTo 73 = .ok (.return_, 1) := by decide +kernel
theorem d_Tr_treeAt_0 : decode c_Tr_treeAt 0 = .ok (.iload_n 2, 1) := by decide +kernel
theorem d_Tr_treeAt_1 : decode c_Tr_treeAt 1 = .ok (.ifCond .lt 13, 3) := by decide +kernel
theorem d_Tr_treeAt_4 : decode c_Tr_treeAt 4 = .ok (.iload_n 2, 1) := by decide +kernel
theorem d_Tr_treeAt_5 : decode c_Tr_treeAt 5 = .ok (.aload_n 0, 1) := by decide +kernel
theorem d_Tr_treeAt_6 : decode c_Tr_treeAt 6 = .ok (.getfield 24, 3) := by decide +kernel
theorem d_Tr_treeAt_9 : decode c_Tr_treeAt 9 = .ok (.iload_n 1, 1) := by decide +kernel
theorem d_Tr_treeAt_10 : decode c_Tr_treeAt 10 = .ok (.iaload, 1) := by decide +kernel
theorem d_Tr_treeAt_11 : decode c_Tr_treeAt 11 = .ok (.if_icmp .lt 5, 3) := by decide +kernel
theorem d_Tr_treeAt_14 : decode c_Tr_treeAt 14 = .ok (.iconst (-1), 1) := by decide +kernel
theorem d_Tr_treeAt_15 : decode c_Tr_treeAt 15 = .ok (.ireturn, 1) := by decide +kernel
theorem d_Tr_treeAt_16 : decode c_Tr_treeAt 16 = .ok (.iload_n 1, 1) := by decide +kernel
theorem d_Tr_treeAt_17 : decode c_Tr_treeAt 17 = .ok (.istore_n 3, 1) := by decide +kernel
theorem d_Tr_treeAt_18 : decode c_Tr_treeAt 18 = .ok (.iload_n 2, 1) := by decide +kernel
theorem d_Tr_treeAt_19 : decode c_Tr_treeAt 19 = .ok (.istore 4, 2) := by decide +kernel
theorem d_Tr_treeAt_21 : decode c_Tr_treeAt 21 = .ok (.iload 4, 2) := by decide +kernel
theorem d_Tr_treeAt_23 : decode c_Tr_treeAt 23 = .ok (.ifCond .le 61, 3) := by decide +kernel
theorem d_Tr_treeAt_26 : decode c_Tr_treeAt 26 = .ok (.aload_n 0, 1) := by decide +kernel
theorem d_Tr_treeAt_27 : decode c_Tr_treeAt 27 = .ok (.iload_n 3, 1) := by decide +kernel
theorem d_Tr_treeAt_28 : decode c_Tr_treeAt 28 = .ok (.invokevirtual 80, 3) := by decide +kernel
theorem d_Tr_treeAt_31 : decode c_Tr_treeAt 31 = .ok (.ifCond .eq 53, 3) := by decide +kernel
theorem d_Tr_treeAt_34 : decode c_Tr_treeAt 34 = .ok (.iinc 4 (-1), 3) := by decide +kernel
theorem d_Tr_treeAt_37 : decode c_Tr_treeAt 37 = .ok (.aload_n 0, 1) := by decide +kernel
theorem d_Tr_treeAt_38 : decode c_Tr_treeAt 38 = .ok (.getfield 24, 3) := by decide +kernel
theorem d_Tr_treeAt_41 : decode c_Tr_treeAt 41 = .ok (.aload_n 0, 1) := by decide +kernel
theorem d_Tr_treeAt_42 : decode c_Tr_treeAt 42 = .ok (.getfield 15, 3) := by decide +kernel
theorem d_Tr_treeAt_45 : decode c_Tr_treeAt 45 = .ok (.iload_n 3, 1) := by decide +kernel
theorem d_Tr_treeAt_46 : decode c_Tr_treeAt 46 = .ok (.iaload, 1) := by decide +kernel
theorem d_Tr_treeAt_47 : decode c_Tr_treeAt 47 = .ok (.iaload, 1) := by decide +kernel
theorem d_Tr_treeAt_48 : decode c_Tr_treeAt 48 = .ok (.istore 5, 2) := by decide +kernel
theorem d_Tr_treeAt_50 : decode c_Tr_treeAt 50 = .ok (.iload 4, 2) := by decide +kernel
theorem d_Tr_treeAt_52 : decode c_Tr_treeAt 52 = .ok (.iload 5, 2) := by decide +kernel
theorem d_Tr_treeAt_54 : decode c_Tr_treeAt 54 = .ok (.if_icmp .ge 13, 3) := by decide +kernel
theorem d_Tr_treeAt_57 : decode c_Tr_treeAt 57 = .ok (.aload_n 0, 1) := by decide +kernel
theorem d_Tr_treeAt_58 : decode c_Tr_treeAt 58 = .ok (.getfield 15, 3) := by decide +kernel
theorem d_Tr_treeAt_61 : decode c_Tr_treeAt 61 = .ok (.iload_n 3, 1) := by decide +kernel
theorem d_Tr_treeAt_62 : decode c_Tr_treeAt 62 = .ok (.iaload, 1) := by decide +kernel
theorem d_Tr_treeAt_63 : decode c_Tr_treeAt 63 = .ok (.istore_n 3, 1) := by decide +kernel
theorem d_Tr_treeAt_64 : decode c_Tr_treeAt 64 = .ok (.goto 17, 3) := by decide +kernel
theorem d_Tr_treeAt_67 : decode c_Tr_treeAt 67 = .ok (.iload 4, 2) := by decide +kernel
theorem d_Tr_treeAt_69 : decode c_Tr_treeAt 69 = .ok (.iload 5, 2) := by decide +kernel
theorem d_Tr_treeAt_71 : decode c_Tr_treeAt 71 = .ok (.isub, 1) := by decide +kernel
theorem d_Tr_treeAt_72 : decode c_Tr_treeAt 72 = .ok (.istore 4, 2) := by decide +kernel
theorem d_Tr_treeAt_74 : decode c_Tr_treeAt 74 = .ok (.aload_n 0, 1) := by decide +kernel
theorem d_Tr_treeAt_75 : decode c_Tr_treeAt 75 = .ok (.getfield 18, 3) := by decide +kernel
theorem d_Tr_treeAt_78 : decode c_Tr_treeAt 78 = .ok (.iload_n 3, 1) := by decide +kernel
theorem d_Tr_treeAt_79 : decode c_Tr_treeAt 79 = .ok (.iaload, 1) := by decide +kernel
theorem d_Tr_treeAt_80 : decode c_Tr_treeAt 80 = .ok (.istore_n 3, 1) := by decide +kernel
theorem d_Tr_treeAt_81 : decode c_Tr_treeAt 81 = .ok (.goto (-60), 3) := by decide +kernel
theorem d_Tr_treeAt_84 : decode c_Tr_treeAt 84 = .ok (.iload_n 3, 1) := by decide +kernel
theorem d_Tr_treeAt_85 : decode c_Tr_treeAt 85 = .ok (.ireturn, 1) := by decide +kernel
