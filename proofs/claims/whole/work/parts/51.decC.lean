theorem d_Lw_cell_0 : decode method_2_code 0 = .ok (.iload_n 1, 1) := by decide +kernel
theorem d_Lw_cell_1 : decode method_2_code 1 = .ok (.aload_n 0, 1) := by decide +kernel
theorem d_Lw_cell_2 : decode method_2_code 2 = .ok (.arraylength, 1) := by decide +kernel
theorem d_Lw_cell_3 : decode method_2_code 3 = .ok (.if_icmp .ge (9), 3) := by decide +kernel
theorem d_Lw_cell_6 : decode method_2_code 6 = .ok (.aload_n 0, 1) := by decide +kernel
theorem d_Lw_cell_7 : decode method_2_code 7 = .ok (.iload_n 1, 1) := by decide +kernel
theorem d_Lw_cell_8 : decode method_2_code 8 = .ok (.iaload, 1) := by decide +kernel
theorem d_Lw_cell_9 : decode method_2_code 9 = .ok (.goto (4), 3) := by decide +kernel
theorem d_Lw_cell_12 : decode method_2_code 12 = .ok (.iconst 0, 1) := by decide +kernel
theorem d_Lw_cell_13 : decode method_2_code 13 = .ok (.ireturn, 1) := by decide +kernel
theorem d_De_init_0 : decode prog_3_method_1_code 0 = .ok (.aload_n 0, 1) := by decide +kernel
theorem d_De_init_1 : decode prog_3_method_1_code 1 = .ok (.invokespecial 3, 3) := by decide +kernel
theorem d_De_init_4 : decode prog_3_method_1_code 4 = .ok (.aload_n 0, 1) := by decide +kernel
theorem d_De_init_5 : decode prog_3_method_1_code 5 = .ok (.iconst 4, 1) := by decide +kernel
theorem d_De_init_6 : decode prog_3_method_1_code 6 = .ok (.newarray .int, 2) := by decide +kernel
theorem d_De_init_8 : decode prog_3_method_1_code 8 = .ok (.putfield 11, 3) := by decide +kernel
theorem d_De_init_11 : decode prog_3_method_1_code 11 = .ok (.aload_n 0, 1) := by decide +kernel
theorem d_De_init_12 : decode prog_3_method_1_code 12 = .ok (.iconst (-1), 1) := by decide +kernel
theorem d_De_init_13 : decode prog_3_method_1_code 13 = .ok (.putfield 15, 3) := by decide +kernel
theorem d_De_init_16 : decode prog_3_method_1_code 16 = .ok (.aload_n 0, 1) := by decide +kernel
theorem d_De_init_17 : decode prog_3_method_1_code 17 = .ok (.iconst (-1), 1) := by decide +kernel
theorem d_De_init_18 : decode prog_3_method_1_code 18 = .ok (.putfield 19, 3) := by decide +kernel
theorem d_De_init_21 : decode prog_3_method_1_code 21 = .ok (.aload_n 0, 1) := by decide +kernel
theorem d_De_init_22 : decode prog_3_method_1_code 22 = .ok (.iconst 0, 1) := by decide +kernel
theorem d_De_init_23 : decode prog_3_method_1_code 23 = .ok (.putfield 22, 3) := by decide +kernel
theorem d_De_init_26 : decode prog_3_method_1_code 26 = .ok (.return_, 1) := by decide +kernel
theorem d_Li_init_0 : decode prog_4_method_1_code 0 = .ok (.aload_n 0, 1) := by decide +kernel
theorem d_Li_init_1 : decode prog_4_method_1_code 1 = .ok (.invokespecial 3, 3) := by decide +kernel
theorem d_Li_init_4 : decode prog_4_method_1_code 4 = .ok (.aload_n 0, 1) := by decide +kernel
theorem d_Li_init_5 : decode prog_4_method_1_code 5 = .ok (.iconst 4, 1) := by decide +kernel
theorem d_Li_init_6 : decode prog_4_method_1_code 6 = .ok (.newarray .int, 2) := by decide +kernel
theorem d_Li_init_8 : decode prog_4_method_1_code 8 = .ok (.putfield 11, 3) := by decide +kernel
theorem d_Li_init_11 : decode prog_4_method_1_code 11 = .ok (.aload_n 0, 1) := by decide +kernel
theorem d_Li_init_12 : decode prog_4_method_1_code 12 = .ok (.iconst 4, 1) := by decide +kernel
theorem d_Li_init_13 : decode prog_4_method_1_code 13 = .ok (.newarray .int, 2) := by decide +kernel
theorem d_Li_init_15 : decode prog_4_method_1_code 15 = .ok (.putfield 15, 3) := by decide +kernel
theorem d_Li_init_18 : decode prog_4_method_1_code 18 = .ok (.return_, 1) := by decide +kernel
theorem d_Po_init_0 : decode prog_6_method_1_code 0 = .ok (.aload_n 0, 1) := by decide +kernel
theorem d_Po_init_1 : decode prog_6_method_1_code 1 = .ok (.invokespecial 1, 3) := by decide +kernel
theorem d_Po_init_4 : decode prog_6_method_1_code 4 = .ok (.aload_n 0, 1) := by decide +kernel
theorem d_Po_init_5 : decode prog_6_method_1_code 5 = .ok (.sipush 240, 3) := by decide +kernel
theorem d_Po_init_8 : decode prog_6_method_1_code 8 = .ok (.newarray .int, 2) := by decide +kernel
theorem d_Po_init_10 : decode prog_6_method_1_code 10 = .ok (.putfield 9, 3) := by decide +kernel
theorem d_Po_init_13 : decode prog_6_method_1_code 13 = .ok (.return_, 1) := by decide +kernel
theorem d_Tr_init_0 : decode prog_7_method_1_code 0 = .ok (.aload_n 0, 1) := by decide +kernel
theorem d_Tr_init_1 : decode prog_7_method_1_code 1 = .ok (.invokespecial 3, 3) := by decide +kernel
theorem d_Tr_init_4 : decode prog_7_method_1_code 4 = .ok (.aload_n 0, 1) := by decide +kernel
theorem d_Tr_init_5 : decode prog_7_method_1_code 5 = .ok (.iload_n 1, 1) := by decide +kernel
theorem d_Tr_init_6 : decode prog_7_method_1_code 6 = .ok (.newarray .int, 2) := by decide +kernel
theorem d_Tr_init_8 : decode prog_7_method_1_code 8 = .ok (.putfield 9, 3) := by decide +kernel
theorem d_Tr_init_11 : decode prog_7_method_1_code 11 = .ok (.aload_n 0, 1) := by decide +kernel
theorem d_Tr_init_12 : decode prog_7_method_1_code 12 = .ok (.getfield 9, 3) := by decide +kernel
theorem d_Tr_init_15 : decode prog_7_method_1_code 15 = .ok (.iconst 0, 1) := by decide +kernel
theorem d_Tr_init_16 : decode prog_7_method_1_code 16 = .ok (.iconst (-1), 1) := by decide +kernel
theorem d_Tr_init_17 : decode prog_7_method_1_code 17 = .ok (.iastore, 1) := by decide +kernel
theorem d_Tr_init_18 : decode prog_7_method_1_code 18 = .ok (.iconst 1, 1) := by decide +kernel
theorem d_Tr_init_19 : decode prog_7_method_1_code 19 = .ok (.istore_n 3, 1) := by decide +kernel
theorem d_Tr_init_20 : decode prog_7_method_1_code 20 = .ok (.iload_n 3, 1) := by decide +kernel
theorem d_Tr_init_21 : decode prog_7_method_1_code 21 = .ok (.iload_n 1, 1) := by decide +kernel
theorem d_Tr_init_22 : decode prog_7_method_1_code 22 = .ok (.if_icmp .ge (20), 3) := by decide +kernel
theorem d_Tr_init_25 : decode prog_7_method_1_code 25 = .ok (.aload_n 0, 1) := by decide +kernel
theorem d_Tr_init_26 : decode prog_7_method_1_code 26 = .ok (.getfield 9, 3) := by decide +kernel
theorem d_Tr_init_29 : decode prog_7_method_1_code 29 = .ok (.iload_n 3, 1) := by decide +kernel
theorem d_Tr_init_30 : decode prog_7_method_1_code 30 = .ok (.iload_n 3, 1) := by decide +kernel
theorem d_Tr_init_31 : decode prog_7_method_1_code 31 = .ok (.iload_n 2, 1) := by decide +kernel
theorem d_Tr_init_32 : decode prog_7_method_1_code 32 = .ok (.invokestatic 15, 3) := by decide +kernel
theorem d_Tr_init_35 : decode prog_7_method_1_code 35 = .ok (.iastore, 1) := by decide +kernel
theorem d_Tr_init_36 : decode prog_7_method_1_code 36 = .ok (.iinc 3 1, 3) := by decide +kernel
theorem d_Tr_init_39 : decode prog_7_method_1_code 39 = .ok (.goto (-19), 3) := by decide +kernel
theorem d_Tr_init_42 : decode prog_7_method_1_code 42 = .ok (.return_, 1) := by decide +kernel
theorem d_Co_init_0 : decode prog_2_method_1_code 0 = .ok (.aload_n 0, 1) := by decide +kernel
theorem d_Co_init_1 : decode prog_2_method_1_code 1 = .ok (.invokespecial 3, 3) := by decide +kernel
theorem d_Co_init_4 : decode prog_2_method_1_code 4 = .ok (.aload_n 0, 1) := by decide +kernel
theorem d_Co_init_5 : decode prog_2_method_1_code 5 = .ok (.sipush 200, 3) := by decide +kernel
theorem d_Co_init_8 : decode prog_2_method_1_code 8 = .ok (.newarray .int, 2) := by decide +kernel
theorem d_Co_init_10 : decode prog_2_method_1_code 10 = .ok (.putfield 11, 3) := by decide +kernel
theorem d_Co_init_13 : decode prog_2_method_1_code 13 = .ok (.aload_n 0, 1) := by decide +kernel
theorem d_Co_init_14 : decode prog_2_method_1_code 14 = .ok (.iconst (-1), 1) := by decide +kernel
theorem d_Co_init_15 : decode prog_2_method_1_code 15 = .ok (.putfield 15, 3) := by decide +kernel
theorem d_Co_init_18 : decode prog_2_method_1_code 18 = .ok (.aload_n 0, 1) := by decide +kernel
theorem d_Co_init_19 : decode prog_2_method_1_code 19 = .ok (.iload_n 1, 1) := by decide +kernel
theorem d_Co_init_20 : decode prog_2_method_1_code 20 = .ok (.anewarray 19, 3) := by decide +kernel
theorem d_Co_init_23 : decode prog_2_method_1_code 23 = .ok (.putfield 21, 3) := by decide +kernel
theorem d_Co_init_26 : decode prog_2_method_1_code 26 = .ok (.iconst 0, 1) := by decide +kernel
theorem d_Co_init_27 : decode prog_2_method_1_code 27 = .ok (.istore_n 2, 1) := by decide +kernel
theorem d_Co_init_28 : decode prog_2_method_1_code 28 = .ok (.iload_n 2, 1) := by decide +kernel
theorem d_Co_init_29 : decode prog_2_method_1_code 29 = .ok (.iload_n 1, 1) := by decide +kernel
theorem d_Co_init_30 : decode prog_2_method_1_code 30 = .ok (.if_icmp .ge (22), 3) := by decide +kernel
theorem d_Co_init_33 : decode prog_2_method_1_code 33 = .ok (.aload_n 0, 1) := by decide +kernel
theorem d_Co_init_34 : decode prog_2_method_1_code 34 = .ok (.getfield 21, 3) := by decide +kernel
theorem d_Co_init_37 : decode prog_2_method_1_code 37 = .ok (.iload_n 2, 1) := by decide +kernel
theorem d_Co_init_38 : decode prog_2_method_1_code 38 = .ok (.new 19, 3) := by decide +kernel
theorem d_Co_init_41 : decode prog_2_method_1_code 41 = .ok (.dup, 1) := by decide +kernel
theorem d_Co_init_42 : decode prog_2_method_1_code 42 = .ok (.invokespecial 25, 3) := by decide +kernel
theorem d_Co_init_45 : decode prog_2_method_1_code 45 = .ok (.aastore, 1) := by decide +kernel
theorem d_Co_init_46 : decode prog_2_method_1_code 46 = .ok (.iinc 2 1, 3) := by decide +kernel
theorem d_Co_init_49 : decode prog_2_method_1_code 49 = .ok (.goto (-21), 3) := by decide +kernel
theorem d_Co_init_52 : decode prog_2_method_1_code 52 = .ok (.return_, 1) := by decide +kernel
theorem d_Ma_init_0 : decode prog_5_method_1_code 0 = .ok (.aload_n 0, 1) := by decide +kernel
theorem d_Ma_init_1 : decode prog_5_method_1_code 1 = .ok (.invokespecial 1, 3) := by decide +kernel
theorem d_Ma_init_4 : decode prog_5_method_1_code 4 = .ok (.aload_n 0, 1) := by decide +kernel
theorem d_Ma_init_5 : decode prog_5_method_1_code 5 = .ok (.iload_n 1, 1) := by decide +kernel
theorem d_Ma_init_6 : decode prog_5_method_1_code 6 = .ok (.putfield 7, 3) := by decide +kernel
theorem d_Ma_init_9 : decode prog_5_method_1_code 9 = .ok (.aload_n 0, 1) := by decide +kernel
theorem d_Ma_init_10 : decode prog_5_method_1_code 10 = .ok (.aload_n 2, 1) := by decide +kernel
theorem d_Ma_init_11 : decode prog_5_method_1_code 11 = .ok (.putfield 13, 3) := by decide +kernel
theorem d_Ma_init_14 : decode prog_5_method_1_code 14 = .ok (.aload_n 0, 1) := by decide +kernel
theorem d_Ma_init_15 : decode prog_5_method_1_code 15 = .ok (.aload_n 3, 1) := by decide +kernel
theorem d_Ma_init_16 : decode prog_5_method_1_code 16 = .ok (.putfield 17, 3) := by decide +kernel
theorem d_Ma_init_19 : decode prog_5_method_1_code 19 = .ok (.aload_n 0, 1) := by decide +kernel
theorem d_Ma_init_20 : decode prog_5_method_1_code 20 = .ok (.iconst 2, 1) := by decide +kernel
theorem d_Ma_init_21 : decode prog_5_method_1_code 21 = .ok (.iload_n 1, 1) := by decide +kernel
theorem d_Ma_init_22 : decode prog_5_method_1_code 22 = .ok (.imul, 1) := by decide +kernel
theorem d_Ma_init_23 : decode prog_5_method_1_code 23 = .ok (.anewarray 21, 3) := by decide +kernel
theorem d_Ma_init_26 : decode prog_5_method_1_code 26 = .ok (.putfield 23, 3) := by decide +kernel
theorem d_Ma_init_29 : decode prog_5_method_1_code 29 = .ok (.iconst 0, 1) := by decide +kernel
theorem d_Ma_init_30 : decode prog_5_method_1_code 30 = .ok (.istore 4, 2) := by decide +kernel
theorem d_Ma_init_32 : decode prog_5_method_1_code 32 = .ok (.iload 4, 2) := by decide +kernel
theorem d_Ma_init_34 : decode prog_5_method_1_code 34 = .ok (.aload_n 0, 1) := by decide +kernel
theorem d_Ma_init_35 : decode prog_5_method_1_code 35 = .ok (.getfield 23, 3) := by decide +kernel
theorem d_Ma_init_38 : decode prog_5_method_1_code 38 = .ok (.arraylength, 1) := by decide +kernel
theorem d_Ma_init_39 : decode prog_5_method_1_code 39 = .ok (.if_icmp .ge (23), 3) := by decide +kernel
theorem d_Ma_init_42 : decode prog_5_method_1_code 42 = .ok (.aload_n 0, 1) := by decide +kernel
theorem d_Ma_init_43 : decode prog_5_method_1_code 43 = .ok (.getfield 23, 3) := by decide +kernel
theorem d_Ma_init_46 : decode prog_5_method_1_code 46 = .ok (.iload 4, 2) := by decide +kernel
theorem d_Ma_init_48 : decode prog_5_method_1_code 48 = .ok (.new 21, 3) := by decide +kernel
theorem d_Ma_init_51 : decode prog_5_method_1_code 51 = .ok (.dup, 1) := by decide +kernel
theorem d_Ma_init_52 : decode prog_5_method_1_code 52 = .ok (.invokespecial 27, 3) := by decide +kernel
theorem d_Ma_init_55 : decode prog_5_method_1_code 55 = .ok (.aastore, 1) := by decide +kernel
theorem d_Ma_init_56 : decode prog_5_method_1_code 56 = .ok (.iinc 4 1, 3) := by decide +kernel
theorem d_Ma_init_59 : decode prog_5_method_1_code 59 = .ok (.goto (-27), 3) := by decide +kernel
theorem d_Ma_init_62 : decode prog_5_method_1_code 62 = .ok (.return_, 1) := by decide +kernel
theorem d_LA_init_0 : decode prog_1_method_1_code 0 = .ok (.aload_n 0, 1) := by decide +kernel
theorem d_LA_init_1 : decode prog_1_method_1_code 1 = .ok (.invokespecial 1, 3) := by decide +kernel
theorem d_LA_init_4 : decode prog_1_method_1_code 4 = .ok (.aload_n 0, 1) := by decide +kernel
theorem d_LA_init_5 : decode prog_1_method_1_code 5 = .ok (.iload_n 1, 1) := by decide +kernel
theorem d_LA_init_6 : decode prog_1_method_1_code 6 = .ok (.iconst 2, 1) := by decide +kernel
theorem d_LA_init_7 : decode prog_1_method_1_code 7 = .ok (.if_icmp .lt (13), 3) := by decide +kernel
theorem d_LA_init_10 : decode prog_1_method_1_code 10 = .ok (.iload_n 1, 1) := by decide +kernel
theorem d_LA_init_11 : decode prog_1_method_1_code 11 = .ok (.bipush 12, 2) := by decide +kernel
theorem d_LA_init_13 : decode prog_1_method_1_code 13 = .ok (.if_icmp .gt (7), 3) := by decide +kernel
theorem d_LA_init_16 : decode prog_1_method_1_code 16 = .ok (.iload_n 1, 1) := by decide +kernel
theorem d_LA_init_17 : decode prog_1_method_1_code 17 = .ok (.goto (5), 3) := by decide +kernel
theorem d_LA_init_20 : decode prog_1_method_1_code 20 = .ok (.bipush 6, 2) := by decide +kernel
theorem d_LA_init_22 : decode prog_1_method_1_code 22 = .ok (.putfield 9, 3) := by decide +kernel
theorem d_LA_init_25 : decode prog_1_method_1_code 25 = .ok (.aload_n 0, 1) := by decide +kernel
theorem d_LA_init_26 : decode prog_1_method_1_code 26 = .ok (.aload_n 0, 1) := by decide +kernel
theorem d_LA_init_27 : decode prog_1_method_1_code 27 = .ok (.getfield 9, 3) := by decide +kernel
theorem d_LA_init_30 : decode prog_1_method_1_code 30 = .ok (.newarray .boolean, 2) := by decide +kernel
theorem d_LA_init_32 : decode prog_1_method_1_code 32 = .ok (.putfield 13, 3) := by decide +kernel
theorem d_LA_init_35 : decode prog_1_method_1_code 35 = .ok (.aload_n 0, 1) := by decide +kernel
theorem d_LA_init_36 : decode prog_1_method_1_code 36 = .ok (.new 17, 3) := by decide +kernel
theorem d_LA_init_39 : decode prog_1_method_1_code 39 = .ok (.dup, 1) := by decide +kernel
theorem d_LA_init_40 : decode prog_1_method_1_code 40 = .ok (.aload_n 0, 1) := by decide +kernel
theorem d_LA_init_41 : decode prog_1_method_1_code 41 = .ok (.getfield 9, 3) := by decide +kernel
theorem d_LA_init_44 : decode prog_1_method_1_code 44 = .ok (.iload_n 2, 1) := by decide +kernel
theorem d_LA_init_45 : decode prog_1_method_1_code 45 = .ok (.ifCond .lt (12), 3) := by decide +kernel
theorem d_LA_init_48 : decode prog_1_method_1_code 48 = .ok (.iload_n 2, 1) := by decide +kernel
theorem d_LA_init_49 : decode prog_1_method_1_code 49 = .ok (.iconst 2, 1) := by decide +kernel
theorem d_LA_init_50 : decode prog_1_method_1_code 50 = .ok (.if_icmp .gt (7), 3) := by decide +kernel
theorem d_LA_init_53 : decode prog_1_method_1_code 53 = .ok (.iload_n 2, 1) := by decide +kernel
theorem d_LA_init_54 : decode prog_1_method_1_code 54 = .ok (.goto (4), 3) := by decide +kernel
theorem d_LA_init_57 : decode prog_1_method_1_code 57 = .ok (.iconst 0, 1) := by decide +kernel
theorem d_LA_init_58 : decode prog_1_method_1_code 58 = .ok (.invokespecial 19, 3) := by decide +kernel
theorem d_LA_init_61 : decode prog_1_method_1_code 61 = .ok (.putfield 22, 3) := by decide +kernel
theorem d_LA_init_64 : decode prog_1_method_1_code 64 = .ok (.aload_n 0, 1) := by decide +kernel
theorem d_LA_init_65 : decode prog_1_method_1_code 65 = .ok (.iconst 3, 1) := by decide +kernel
theorem d_LA_init_66 : decode prog_1_method_1_code 66 = .ok (.anewarray 26, 3) := by decide +kernel
theorem d_LA_init_69 : decode prog_1_method_1_code 69 = .ok (.putfield 28, 3) := by decide +kernel
theorem d_LA_init_72 : decode prog_1_method_1_code 72 = .ok (.iconst 0, 1) := by decide +kernel
theorem d_LA_init_73 : decode prog_1_method_1_code 73 = .ok (.istore_n 3, 1) := by decide +kernel
theorem d_LA_init_74 : decode prog_1_method_1_code 74 = .ok (.iload_n 3, 1) := by decide +kernel
theorem d_LA_init_75 : decode prog_1_method_1_code 75 = .ok (.iconst 3, 1) := by decide +kernel
theorem d_LA_init_76 : decode prog_1_method_1_code 76 = .ok (.if_icmp .ge (26), 3) := by decide +kernel
theorem d_LA_init_79 : decode prog_1_method_1_code 79 = .ok (.aload_n 0, 1) := by decide +kernel
theorem d_LA_init_80 : decode prog_1_method_1_code 80 = .ok (.getfield 28, 3) := by decide +kernel
theorem d_LA_init_83 : decode prog_1_method_1_code 83 = .ok (.iload_n 3, 1) := by decide +kernel
theorem d_LA_init_84 : decode prog_1_method_1_code 84 = .ok (.new 26, 3) := by decide +kernel
theorem d_LA_init_87 : decode prog_1_method_1_code 87 = .ok (.dup, 1) := by decide +kernel
theorem d_LA_init_88 : decode prog_1_method_1_code 88 = .ok (.aload_n 0, 1) := by decide +kernel
theorem d_LA_init_89 : decode prog_1_method_1_code 89 = .ok (.getfield 9, 3) := by decide +kernel
theorem d_LA_init_92 : decode prog_1_method_1_code 92 = .ok (.invokespecial 32, 3) := by decide +kernel
theorem d_LA_init_95 : decode prog_1_method_1_code 95 = .ok (.aastore, 1) := by decide +kernel
theorem d_LA_init_96 : decode prog_1_method_1_code 96 = .ok (.iinc 3 1, 3) := by decide +kernel
theorem d_LA_init_99 : decode prog_1_method_1_code 99 = .ok (.goto (-25), 3) := by decide +kernel
theorem d_LA_init_102 : decode prog_1_method_1_code 102 = .ok (.aload_n 0, 1) := by decide +kernel
theorem d_LA_init_103 : decode prog_1_method_1_code 103 = .ok (.new 35, 3) := by decide +kernel
theorem d_LA_init_106 : decode prog_1_method_1_code 106 = .ok (.dup, 1) := by decide +kernel
theorem d_LA_init_107 : decode prog_1_method_1_code 107 = .ok (.invokespecial 37, 3) := by decide +kernel
theorem d_LA_init_110 : decode prog_1_method_1_code 110 = .ok (.putfield 38, 3) := by decide +kernel
theorem d_LA_init_113 : decode prog_1_method_1_code 113 = .ok (.aload_n 0, 1) := by decide +kernel
theorem d_LA_init_114 : decode prog_1_method_1_code 114 = .ok (.new 42, 3) := by decide +kernel
theorem d_LA_init_117 : decode prog_1_method_1_code 117 = .ok (.dup, 1) := by decide +kernel
theorem d_LA_init_118 : decode prog_1_method_1_code 118 = .ok (.aload_n 0, 1) := by decide +kernel
theorem d_LA_init_119 : decode prog_1_method_1_code 119 = .ok (.getfield 9, 3) := by decide +kernel
theorem d_LA_init_122 : decode prog_1_method_1_code 122 = .ok (.aload_n 0, 1) := by decide +kernel
theorem d_LA_init_123 : decode prog_1_method_1_code 123 = .ok (.getfield 22, 3) := by decide +kernel
theorem d_LA_init_126 : decode prog_1_method_1_code 126 = .ok (.aload_n 0, 1) := by decide +kernel
theorem d_LA_init_127 : decode prog_1_method_1_code 127 = .ok (.getfield 38, 3) := by decide +kernel
theorem d_LA_init_130 : decode prog_1_method_1_code 130 = .ok (.invokespecial 44, 3) := by decide +kernel
theorem d_LA_init_133 : decode prog_1_method_1_code 133 = .ok (.putfield 47, 3) := by decide +kernel
theorem d_LA_init_136 : decode prog_1_method_1_code 136 = .ok (.return_, 1) := by decide +kernel
theorem d_Mo_init_0 : decode prog_9_method_1_code 0 = .ok (.aload_n 0, 1) := by decide +kernel
theorem d_Mo_init_1 : decode prog_9_method_1_code 1 = .ok (.invokespecial 1, 3) := by decide +kernel
theorem d_Mo_init_4 : decode prog_9_method_1_code 4 = .ok (.aload_n 0, 1) := by decide +kernel
theorem d_Mo_init_5 : decode prog_9_method_1_code 5 = .ok (.bipush 12, 2) := by decide +kernel
theorem d_Mo_init_7 : decode prog_9_method_1_code 7 = .ok (.newarray .int, 2) := by decide +kernel
theorem d_Mo_init_9 : decode prog_9_method_1_code 9 = .ok (.putfield 7, 3) := by decide +kernel
theorem d_Mo_init_12 : decode prog_9_method_1_code 12 = .ok (.aload_n 0, 1) := by decide +kernel
theorem d_Mo_init_13 : decode prog_9_method_1_code 13 = .ok (.bipush 12, 2) := by decide +kernel
theorem d_Mo_init_15 : decode prog_9_method_1_code 15 = .ok (.newarray .boolean, 2) := by decide +kernel
theorem d_Mo_init_17 : decode prog_9_method_1_code 17 = .ok (.putfield 13, 3) := by decide +kernel
theorem d_Mo_init_20 : decode prog_9_method_1_code 20 = .ok (.aload_n 0, 1) := by decide +kernel
theorem d_Mo_init_21 : decode prog_9_method_1_code 21 = .ok (.iconst 3, 1) := by decide +kernel
theorem d_Mo_init_22 : decode prog_9_method_1_code 22 = .ok (.newarray .boolean, 2) := by decide +kernel
theorem d_Mo_init_24 : decode prog_9_method_1_code 24 = .ok (.putfield 17, 3) := by decide +kernel
theorem d_Mo_init_27 : decode prog_9_method_1_code 27 = .ok (.aload_n 0, 1) := by decide +kernel
theorem d_Mo_init_28 : decode prog_9_method_1_code 28 = .ok (.bipush 36, 2) := by decide +kernel
theorem d_Mo_init_30 : decode prog_9_method_1_code 30 = .ok (.newarray .int, 2) := by decide +kernel
theorem d_Mo_init_32 : decode prog_9_method_1_code 32 = .ok (.putfield 20, 3) := by decide +kernel
theorem d_Mo_init_35 : decode prog_9_method_1_code 35 = .ok (.aload_n 0, 1) := by decide +kernel
theorem d_Mo_init_36 : decode prog_9_method_1_code 36 = .ok (.bipush 36, 2) := by decide +kernel
theorem d_Mo_init_38 : decode prog_9_method_1_code 38 = .ok (.newarray .int, 2) := by decide +kernel
theorem d_Mo_init_40 : decode prog_9_method_1_code 40 = .ok (.putfield 23, 3) := by decide +kernel
theorem d_Mo_init_43 : decode prog_9_method_1_code 43 = .ok (.aload_n 0, 1) := by decide +kernel
theorem d_Mo_init_44 : decode prog_9_method_1_code 44 = .ok (.bipush 36, 2) := by decide +kernel
theorem d_Mo_init_46 : decode prog_9_method_1_code 46 = .ok (.newarray .int, 2) := by decide +kernel
theorem d_Mo_init_48 : decode prog_9_method_1_code 48 = .ok (.putfield 26, 3) := by decide +kernel
theorem d_Mo_init_51 : decode prog_9_method_1_code 51 = .ok (.aload_n 0, 1) := by decide +kernel
theorem d_Mo_init_52 : decode prog_9_method_1_code 52 = .ok (.bipush 36, 2) := by decide +kernel
theorem d_Mo_init_54 : decode prog_9_method_1_code 54 = .ok (.newarray .int, 2) := by decide +kernel
theorem d_Mo_init_56 : decode prog_9_method_1_code 56 = .ok (.putfield 29, 3) := by decide +kernel
theorem d_Mo_init_59 : decode prog_9_method_1_code 59 = .ok (.aload_n 0, 1) := by decide +kernel
theorem d_Mo_init_60 : decode prog_9_method_1_code 60 = .ok (.bipush 36, 2) := by decide +kernel
theorem d_Mo_init_62 : decode prog_9_method_1_code 62 = .ok (.newarray .int, 2) := by decide +kernel
theorem d_Mo_init_64 : decode prog_9_method_1_code 64 = .ok (.putfield 32, 3) := by decide +kernel
theorem d_Mo_init_67 : decode prog_9_method_1_code 67 = .ok (.aload_n 0, 1) := by decide +kernel
theorem d_Mo_init_68 : decode prog_9_method_1_code 68 = .ok (.sipush 144, 3) := by decide +kernel
theorem d_Mo_init_71 : decode prog_9_method_1_code 71 = .ok (.newarray .int, 2) := by decide +kernel
theorem d_Mo_init_73 : decode prog_9_method_1_code 73 = .ok (.putfield 35, 3) := by decide +kernel
theorem d_Mo_init_76 : decode prog_9_method_1_code 76 = .ok (.aload_n 0, 1) := by decide +kernel
theorem d_Mo_init_77 : decode prog_9_method_1_code 77 = .ok (.iconst 3, 1) := by decide +kernel
theorem d_Mo_init_78 : decode prog_9_method_1_code 78 = .ok (.newarray .int, 2) := by decide +kernel
theorem d_Mo_init_80 : decode prog_9_method_1_code 80 = .ok (.putfield 38, 3) := by decide +kernel
theorem d_Mo_init_83 : decode prog_9_method_1_code 83 = .ok (.aload_n 0, 1) := by decide +kernel
theorem d_Mo_init_84 : decode prog_9_method_1_code 84 = .ok (.iconst 3, 1) := by decide +kernel
theorem d_Mo_init_85 : decode prog_9_method_1_code 85 = .ok (.newarray .boolean, 2) := by decide +kernel
theorem d_Mo_init_87 : decode prog_9_method_1_code 87 = .ok (.putfield 41, 3) := by decide +kernel
theorem d_Mo_init_90 : decode prog_9_method_1_code 90 = .ok (.aload_n 0, 1) := by decide +kernel
theorem d_Mo_init_91 : decode prog_9_method_1_code 91 = .ok (.iconst 3, 1) := by decide +kernel
theorem d_Mo_init_92 : decode prog_9_method_1_code 92 = .ok (.newarray .int, 2) := by decide +kernel
theorem d_Mo_init_94 : decode prog_9_method_1_code 94 = .ok (.putfield 44, 3) := by decide +kernel
theorem d_Mo_init_97 : decode prog_9_method_1_code 97 = .ok (.aload_n 0, 1) := by decide +kernel
theorem d_Mo_init_98 : decode prog_9_method_1_code 98 = .ok (.sipush 600, 3) := by decide +kernel
theorem d_Mo_init_101 : decode prog_9_method_1_code 101 = .ok (.newarray .int, 2) := by decide +kernel
theorem d_Mo_init_103 : decode prog_9_method_1_code 103 = .ok (.putfield 47, 3) := by decide +kernel
theorem d_Mo_init_106 : decode prog_9_method_1_code 106 = .ok (.aload_n 0, 1) := by decide +kernel
theorem d_Mo_init_107 : decode prog_9_method_1_code 107 = .ok (.bipush 24, 2) := by decide +kernel
theorem d_Mo_init_109 : decode prog_9_method_1_code 109 = .ok (.newarray .int, 2) := by decide +kernel
theorem d_Mo_init_111 : decode prog_9_method_1_code 111 = .ok (.putfield 50, 3) := by decide +kernel
theorem d_Mo_init_114 : decode prog_9_method_1_code 114 = .ok (.aload_n 0, 1) := by decide +kernel
theorem d_Mo_init_115 : decode prog_9_method_1_code 115 = .ok (.bipush 24, 2) := by decide +kernel
theorem d_Mo_init_117 : decode prog_9_method_1_code 117 = .ok (.newarray .int, 2) := by decide +kernel
theorem d_Mo_init_119 : decode prog_9_method_1_code 119 = .ok (.putfield 53, 3) := by decide +kernel
theorem d_Mo_init_122 : decode prog_9_method_1_code 122 = .ok (.aload_n 0, 1) := by decide +kernel
theorem d_Mo_init_123 : decode prog_9_method_1_code 123 = .ok (.bipush 24, 2) := by decide +kernel
theorem d_Mo_init_125 : decode prog_9_method_1_code 125 = .ok (.newarray .int, 2) := by decide +kernel
theorem d_Mo_init_127 : decode prog_9_method_1_code 127 = .ok (.putfield 56, 3) := by decide +kernel
theorem d_Mo_init_130 : decode prog_9_method_1_code 130 = .ok (.aload_n 0, 1) := by decide +kernel
theorem d_Mo_init_131 : decode prog_9_method_1_code 131 = .ok (.sipush 1536, 3) := by decide +kernel
theorem d_Mo_init_134 : decode prog_9_method_1_code 134 = .ok (.newarray .int, 2) := by decide +kernel
theorem d_Mo_init_136 : decode prog_9_method_1_code 136 = .ok (.putfield 59, 3) := by decide +kernel
theorem d_Mo_init_139 : decode prog_9_method_1_code 139 = .ok (.aload_n 0, 1) := by decide +kernel
theorem d_Mo_init_140 : decode prog_9_method_1_code 140 = .ok (.sipush 1536, 3) := by decide +kernel
theorem d_Mo_init_143 : decode prog_9_method_1_code 143 = .ok (.newarray .int, 2) := by decide +kernel
theorem d_Mo_init_145 : decode prog_9_method_1_code 145 = .ok (.putfield 62, 3) := by decide +kernel
theorem d_Mo_init_148 : decode prog_9_method_1_code 148 = .ok (.aload_n 0, 1) := by decide +kernel
theorem d_Mo_init_149 : decode prog_9_method_1_code 149 = .ok (.bipush 40, 2) := by decide +kernel
theorem d_Mo_init_151 : decode prog_9_method_1_code 151 = .ok (.newarray .int, 2) := by decide +kernel
theorem d_Mo_init_153 : decode prog_9_method_1_code 153 = .ok (.putfield 65, 3) := by decide +kernel
theorem d_Mo_init_156 : decode prog_9_method_1_code 156 = .ok (.aload_n 0, 1) := by decide +kernel
theorem d_Mo_init_157 : decode prog_9_method_1_code 157 = .ok (.bipush 40, 2) := by decide +kernel
theorem d_Mo_init_159 : decode prog_9_method_1_code 159 = .ok (.newarray .int, 2) := by decide +kernel
theorem d_Mo_init_161 : decode prog_9_method_1_code 161 = .ok (.putfield 68, 3) := by decide +kernel
theorem d_Mo_init_164 : decode prog_9_method_1_code 164 = .ok (.aload_n 0, 1) := by decide +kernel
theorem d_Mo_init_165 : decode prog_9_method_1_code 165 = .ok (.bipush 40, 2) := by decide +kernel
theorem d_Mo_init_167 : decode prog_9_method_1_code 167 = .ok (.newarray .int, 2) := by decide +kernel
theorem d_Mo_init_169 : decode prog_9_method_1_code 169 = .ok (.putfield 71, 3) := by decide +kernel
theorem d_Mo_init_172 : decode prog_9_method_1_code 172 = .ok (.aload_n 0, 1) := by decide +kernel
theorem d_Mo_init_173 : decode prog_9_method_1_code 173 = .ok (.bipush 40, 2) := by decide +kernel
theorem d_Mo_init_175 : decode prog_9_method_1_code 175 = .ok (.newarray .int, 2) := by decide +kernel
theorem d_Mo_init_177 : decode prog_9_method_1_code 177 = .ok (.putfield 74, 3) := by decide +kernel
theorem d_Mo_init_180 : decode prog_9_method_1_code 180 = .ok (.aload_n 0, 1) := by decide +kernel
theorem d_Mo_init_181 : decode prog_9_method_1_code 181 = .ok (.bipush 40, 2) := by decide +kernel
theorem d_Mo_init_183 : decode prog_9_method_1_code 183 = .ok (.newarray .int, 2) := by decide +kernel
theorem d_Mo_init_185 : decode prog_9_method_1_code 185 = .ok (.putfield 77, 3) := by decide +kernel
theorem d_Mo_init_188 : decode prog_9_method_1_code 188 = .ok (.aload_n 0, 1) := by decide +kernel
theorem d_Mo_init_189 : decode prog_9_method_1_code 189 = .ok (.bipush 40, 2) := by decide +kernel
theorem d_Mo_init_191 : decode prog_9_method_1_code 191 = .ok (.newarray .int, 2) := by decide +kernel
theorem d_Mo_init_193 : decode prog_9_method_1_code 193 = .ok (.putfield 80, 3) := by decide +kernel
theorem d_Mo_init_196 : decode prog_9_method_1_code 196 = .ok (.aload_n 0, 1) := by decide +kernel
theorem d_Mo_init_197 : decode prog_9_method_1_code 197 = .ok (.iload_n 1, 1) := by decide +kernel
theorem d_Mo_init_198 : decode prog_9_method_1_code 198 = .ok (.iconst 2, 1) := by decide +kernel
theorem d_Mo_init_199 : decode prog_9_method_1_code 199 = .ok (.if_icmp .lt (9), 3) := by decide +kernel
theorem d_Mo_init_202 : decode prog_9_method_1_code 202 = .ok (.iload_n 1, 1) := by decide +kernel
theorem d_Mo_init_203 : decode prog_9_method_1_code 203 = .ok (.bipush 12, 2) := by decide +kernel
theorem d_Mo_init_205 : decode prog_9_method_1_code 205 = .ok (.if_icmp .le (8), 3) := by decide +kernel
theorem d_Mo_init_208 : decode prog_9_method_1_code 208 = .ok (.bipush 6, 2) := by decide +kernel
theorem d_Mo_init_210 : decode prog_9_method_1_code 210 = .ok (.goto (4), 3) := by decide +kernel
theorem d_Mo_init_213 : decode prog_9_method_1_code 213 = .ok (.iload_n 1, 1) := by decide +kernel
theorem d_Mo_init_214 : decode prog_9_method_1_code 214 = .ok (.putfield 83, 3) := by decide +kernel
theorem d_Mo_init_217 : decode prog_9_method_1_code 217 = .ok (.iconst 0, 1) := by decide +kernel
theorem d_Mo_init_218 : decode prog_9_method_1_code 218 = .ok (.istore_n 3, 1) := by decide +kernel
theorem d_Mo_init_219 : decode prog_9_method_1_code 219 = .ok (.iload_n 3, 1) := by decide +kernel
theorem d_Mo_init_220 : decode prog_9_method_1_code 220 = .ok (.bipush 12, 2) := by decide +kernel
theorem d_Mo_init_222 : decode prog_9_method_1_code 222 = .ok (.if_icmp .ge (48), 3) := by decide +kernel
theorem d_Mo_init_225 : decode prog_9_method_1_code 225 = .ok (.aload_n 0, 1) := by decide +kernel
theorem d_Mo_init_226 : decode prog_9_method_1_code 226 = .ok (.getfield 7, 3) := by decide +kernel
theorem d_Mo_init_229 : decode prog_9_method_1_code 229 = .ok (.iload_n 3, 1) := by decide +kernel
theorem d_Mo_init_230 : decode prog_9_method_1_code 230 = .ok (.iload_n 3, 1) := by decide +kernel
theorem d_Mo_init_231 : decode prog_9_method_1_code 231 = .ok (.ifCond .ne (7), 3) := by decide +kernel
theorem d_Mo_init_234 : decode prog_9_method_1_code 234 = .ok (.iconst (-1), 1) := by decide +kernel
theorem d_Mo_init_235 : decode prog_9_method_1_code 235 = .ok (.goto (28), 3) := by decide +kernel
theorem d_Mo_init_238 : decode prog_9_method_1_code 238 = .ok (.iload_n 2, 1) := by decide +kernel
theorem d_Mo_init_239 : decode prog_9_method_1_code 239 = .ok (.iconst 1, 1) := by decide +kernel
theorem d_Mo_init_240 : decode prog_9_method_1_code 240 = .ok (.if_icmp .ne (9), 3) := by decide +kernel
theorem d_Mo_init_243 : decode prog_9_method_1_code 243 = .ok (.iload_n 3, 1) := by decide +kernel
theorem d_Mo_init_244 : decode prog_9_method_1_code 244 = .ok (.iconst 1, 1) := by decide +kernel
theorem d_Mo_init_245 : decode prog_9_method_1_code 245 = .ok (.isub, 1) := by decide +kernel
theorem d_Mo_init_246 : decode prog_9_method_1_code 246 = .ok (.goto (17), 3) := by decide +kernel
theorem d_Mo_init_249 : decode prog_9_method_1_code 249 = .ok (.iload_n 2, 1) := by decide +kernel
theorem d_Mo_init_250 : decode prog_9_method_1_code 250 = .ok (.iconst 2, 1) := by decide +kernel
theorem d_Mo_init_251 : decode prog_9_method_1_code 251 = .ok (.if_icmp .ne (7), 3) := by decide +kernel
theorem d_Mo_init_254 : decode prog_9_method_1_code 254 = .ok (.iconst 0, 1) := by decide +kernel
theorem d_Mo_init_255 : decode prog_9_method_1_code 255 = .ok (.goto (8), 3) := by decide +kernel
theorem d_Mo_init_258 : decode prog_9_method_1_code 258 = .ok (.iload_n 3, 1) := by decide +kernel
theorem d_Mo_init_259 : decode prog_9_method_1_code 259 = .ok (.iconst 1, 1) := by decide +kernel
theorem d_Mo_init_260 : decode prog_9_method_1_code 260 = .ok (.isub, 1) := by decide +kernel
theorem d_Mo_init_261 : decode prog_9_method_1_code 261 = .ok (.iconst 2, 1) := by decide +kernel
theorem d_Mo_init_262 : decode prog_9_method_1_code 262 = .ok (.idiv, 1) := by decide +kernel
theorem d_Mo_init_263 : decode prog_9_method_1_code 263 = .ok (.iastore, 1) := by decide +kernel
theorem d_Mo_init_264 : decode prog_9_method_1_code 264 = .ok (.iinc 3 1, 3) := by decide +kernel
theorem d_Mo_init_267 : decode prog_9_method_1_code 267 = .ok (.goto (-48), 3) := by decide +kernel
theorem d_Mo_init_270 : decode prog_9_method_1_code 270 = .ok (.iconst 0, 1) := by decide +kernel
theorem d_Mo_init_271 : decode prog_9_method_1_code 271 = .ok (.istore_n 3, 1) := by decide +kernel
theorem d_Mo_init_272 : decode prog_9_method_1_code 272 = .ok (.iload_n 3, 1) := by decide +kernel
theorem d_Mo_init_273 : decode prog_9_method_1_code 273 = .ok (.iconst 3, 1) := by decide +kernel
theorem d_Mo_init_274 : decode prog_9_method_1_code 274 = .ok (.if_icmp .ge (16), 3) := by decide +kernel
theorem d_Mo_init_277 : decode prog_9_method_1_code 277 = .ok (.aload_n 0, 1) := by decide +kernel
theorem d_Mo_init_278 : decode prog_9_method_1_code 278 = .ok (.getfield 38, 3) := by decide +kernel
theorem d_Mo_init_281 : decode prog_9_method_1_code 281 = .ok (.iload_n 3, 1) := by decide +kernel
theorem d_Mo_init_282 : decode prog_9_method_1_code 282 = .ok (.iconst (-1), 1) := by decide +kernel
theorem d_Mo_init_283 : decode prog_9_method_1_code 283 = .ok (.iastore, 1) := by decide +kernel
theorem d_Mo_init_284 : decode prog_9_method_1_code 284 = .ok (.iinc 3 1, 3) := by decide +kernel
theorem d_Mo_init_287 : decode prog_9_method_1_code 287 = .ok (.goto (-15), 3) := by decide +kernel
theorem d_Mo_init_290 : decode prog_9_method_1_code 290 = .ok (.return_, 1) := by decide +kernel
