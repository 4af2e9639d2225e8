theorem d_Mo_thrown_0 : decode prog_9_method_2_code 0 = .ok (.aload_n 0, 1) := by decide +kernel
theorem d_Mo_thrown_1 : decode prog_9_method_2_code 1 = .ok (.getfield 87, 3) := by decide +kernel
theorem d_Mo_thrown_4 : decode prog_9_method_2_code 4 = .ok (.ireturn, 1) := by decide +kernel
theorem d_Mo_refused_0 : decode prog_9_method_3_code 0 = .ok (.aload_n 0, 1) := by decide +kernel
theorem d_Mo_refused_1 : decode prog_9_method_3_code 1 = .ok (.iload_n 1, 1) := by decide +kernel
theorem d_Mo_refused_2 : decode prog_9_method_3_code 2 = .ok (.ifCond .eq (7), 3) := by decide +kernel
theorem d_Mo_refused_5 : decode prog_9_method_3_code 5 = .ok (.iconst 1, 1) := by decide +kernel
theorem d_Mo_refused_6 : decode prog_9_method_3_code 6 = .ok (.goto (20), 3) := by decide +kernel
theorem d_Mo_refused_9 : decode prog_9_method_3_code 9 = .ok (.iload_n 2, 1) := by decide +kernel
theorem d_Mo_refused_10 : decode prog_9_method_3_code 10 = .ok (.ifCond .eq (7), 3) := by decide +kernel
theorem d_Mo_refused_13 : decode prog_9_method_3_code 13 = .ok (.iconst 2, 1) := by decide +kernel
theorem d_Mo_refused_14 : decode prog_9_method_3_code 14 = .ok (.goto (12), 3) := by decide +kernel
theorem d_Mo_refused_17 : decode prog_9_method_3_code 17 = .ok (.iload_n 3, 1) := by decide +kernel
theorem d_Mo_refused_18 : decode prog_9_method_3_code 18 = .ok (.ifCond .eq (7), 3) := by decide +kernel
theorem d_Mo_refused_21 : decode prog_9_method_3_code 21 = .ok (.iconst 3, 1) := by decide +kernel
theorem d_Mo_refused_22 : decode prog_9_method_3_code 22 = .ok (.goto (4), 3) := by decide +kernel
theorem d_Mo_refused_25 : decode prog_9_method_3_code 25 = .ok (.iconst 0, 1) := by decide +kernel
theorem d_Mo_refused_26 : decode prog_9_method_3_code 26 = .ok (.putfield 87, 3) := by decide +kernel
theorem d_Mo_refused_29 : decode prog_9_method_3_code 29 = .ok (.aload_n 0, 1) := by decide +kernel
theorem d_Mo_refused_30 : decode prog_9_method_3_code 30 = .ok (.getfield 87, 3) := by decide +kernel
theorem d_Mo_refused_33 : decode prog_9_method_3_code 33 = .ok (.ifCond .le (7), 3) := by decide +kernel
theorem d_Mo_refused_36 : decode prog_9_method_3_code 36 = .ok (.iconst 1, 1) := by decide +kernel
theorem d_Mo_refused_37 : decode prog_9_method_3_code 37 = .ok (.goto (4), 3) := by decide +kernel
theorem d_Mo_refused_40 : decode prog_9_method_3_code 40 = .ok (.iconst 0, 1) := by decide +kernel
theorem d_Mo_refused_41 : decode prog_9_method_3_code 41 = .ok (.ireturn, 1) := by decide +kernel
theorem d_Mo_isLibrary_0 : decode prog_9_method_4_code 0 = .ok (.iload_n 1, 1) := by decide +kernel
theorem d_Mo_isLibrary_1 : decode prog_9_method_4_code 1 = .ok (.ifCond .lt (15), 3) := by decide +kernel
theorem d_Mo_isLibrary_4 : decode prog_9_method_4_code 4 = .ok (.iload_n 1, 1) := by decide +kernel
theorem d_Mo_isLibrary_5 : decode prog_9_method_4_code 5 = .ok (.aload_n 0, 1) := by decide +kernel
theorem d_Mo_isLibrary_6 : decode prog_9_method_4_code 6 = .ok (.getfield 83, 3) := by decide +kernel
theorem d_Mo_isLibrary_9 : decode prog_9_method_4_code 9 = .ok (.if_icmp .ge (7), 3) := by decide +kernel
theorem d_Mo_isLibrary_12 : decode prog_9_method_4_code 12 = .ok (.iconst 1, 1) := by decide +kernel
theorem d_Mo_isLibrary_13 : decode prog_9_method_4_code 13 = .ok (.goto (4), 3) := by decide +kernel
theorem d_Mo_isLibrary_16 : decode prog_9_method_4_code 16 = .ok (.iconst 0, 1) := by decide +kernel
theorem d_Mo_isLibrary_17 : decode prog_9_method_4_code 17 = .ok (.ireturn, 1) := by decide +kernel
theorem d_Mo_isCopy_0 : decode prog_9_method_5_code 0 = .ok (.iload_n 0, 1) := by decide +kernel
theorem d_Mo_isCopy_1 : decode prog_9_method_5_code 1 = .ok (.ifCond .lt (12), 3) := by decide +kernel
theorem d_Mo_isCopy_4 : decode prog_9_method_5_code 4 = .ok (.iload_n 0, 1) := by decide +kernel
theorem d_Mo_isCopy_5 : decode prog_9_method_5_code 5 = .ok (.iconst 3, 1) := by decide +kernel
theorem d_Mo_isCopy_6 : decode prog_9_method_5_code 6 = .ok (.if_icmp .ge (7), 3) := by decide +kernel
theorem d_Mo_isCopy_9 : decode prog_9_method_5_code 9 = .ok (.iconst 1, 1) := by decide +kernel
theorem d_Mo_isCopy_10 : decode prog_9_method_5_code 10 = .ok (.goto (4), 3) := by decide +kernel
theorem d_Mo_isCopy_13 : decode prog_9_method_5_code 13 = .ok (.iconst 0, 1) := by decide +kernel
theorem d_Mo_isCopy_14 : decode prog_9_method_5_code 14 = .ok (.ireturn, 1) := by decide +kernel
theorem d_Mo_isPair_0 : decode prog_9_method_6_code 0 = .ok (.aload_n 0, 1) := by decide +kernel
theorem d_Mo_isPair_1 : decode prog_9_method_6_code 1 = .ok (.iload_n 1, 1) := by decide +kernel
theorem d_Mo_isPair_2 : decode prog_9_method_6_code 2 = .ok (.invokevirtual 90, 3) := by decide +kernel
theorem d_Mo_isPair_5 : decode prog_9_method_6_code 5 = .ok (.ifCond .eq (14), 3) := by decide +kernel
theorem d_Mo_isPair_8 : decode prog_9_method_6_code 8 = .ok (.iload_n 2, 1) := by decide +kernel
theorem d_Mo_isPair_9 : decode prog_9_method_6_code 9 = .ok (.invokestatic 94, 3) := by decide +kernel
theorem d_Mo_isPair_12 : decode prog_9_method_6_code 12 = .ok (.ifCond .eq (7), 3) := by decide +kernel
theorem d_Mo_isPair_15 : decode prog_9_method_6_code 15 = .ok (.iconst 1, 1) := by decide +kernel
theorem d_Mo_isPair_16 : decode prog_9_method_6_code 16 = .ok (.goto (4), 3) := by decide +kernel
theorem d_Mo_isPair_19 : decode prog_9_method_6_code 19 = .ok (.iconst 0, 1) := by decide +kernel
theorem d_Mo_isPair_20 : decode prog_9_method_6_code 20 = .ok (.ireturn, 1) := by decide +kernel
theorem d_Mo_at_0 : decode prog_9_method_7_code 0 = .ok (.bipush 12, 2) := by decide +kernel
theorem d_Mo_at_2 : decode prog_9_method_7_code 2 = .ok (.iload_n 1, 1) := by decide +kernel
theorem d_Mo_at_3 : decode prog_9_method_7_code 3 = .ok (.imul, 1) := by decide +kernel
theorem d_Mo_at_4 : decode prog_9_method_7_code 4 = .ok (.iload_n 0, 1) := by decide +kernel
theorem d_Mo_at_5 : decode prog_9_method_7_code 5 = .ok (.iadd, 1) := by decide +kernel
theorem d_Mo_at_6 : decode prog_9_method_7_code 6 = .ok (.ireturn, 1) := by decide +kernel
theorem d_Mo_isAbove_0 : decode prog_9_method_8_code 0 = .ok (.iload_n 2, 1) := by decide +kernel
theorem d_Mo_isAbove_1 : decode prog_9_method_8_code 1 = .ok (.istore_n 3, 1) := by decide +kernel
theorem d_Mo_isAbove_2 : decode prog_9_method_8_code 2 = .ok (.iload_n 3, 1) := by decide +kernel
theorem d_Mo_isAbove_3 : decode prog_9_method_8_code 3 = .ok (.ifCond .lt (18), 3) := by decide +kernel
theorem d_Mo_isAbove_6 : decode prog_9_method_8_code 6 = .ok (.iload_n 3, 1) := by decide +kernel
theorem d_Mo_isAbove_7 : decode prog_9_method_8_code 7 = .ok (.iload_n 1, 1) := by decide +kernel
theorem d_Mo_isAbove_8 : decode prog_9_method_8_code 8 = .ok (.if_icmp .eq (13), 3) := by decide +kernel
theorem d_Mo_isAbove_11 : decode prog_9_method_8_code 11 = .ok (.aload_n 0, 1) := by decide +kernel
theorem d_Mo_isAbove_12 : decode prog_9_method_8_code 12 = .ok (.getfield 7, 3) := by decide +kernel
theorem d_Mo_isAbove_15 : decode prog_9_method_8_code 15 = .ok (.iload_n 3, 1) := by decide +kernel
theorem d_Mo_isAbove_16 : decode prog_9_method_8_code 16 = .ok (.iaload, 1) := by decide +kernel
theorem d_Mo_isAbove_17 : decode prog_9_method_8_code 17 = .ok (.istore_n 3, 1) := by decide +kernel
theorem d_Mo_isAbove_18 : decode prog_9_method_8_code 18 = .ok (.goto (-16), 3) := by decide +kernel
theorem d_Mo_isAbove_21 : decode prog_9_method_8_code 21 = .ok (.iload_n 3, 1) := by decide +kernel
theorem d_Mo_isAbove_22 : decode prog_9_method_8_code 22 = .ok (.iload_n 1, 1) := by decide +kernel
theorem d_Mo_isAbove_23 : decode prog_9_method_8_code 23 = .ok (.if_icmp .ne (7), 3) := by decide +kernel
theorem d_Mo_isAbove_26 : decode prog_9_method_8_code 26 = .ok (.iconst 1, 1) := by decide +kernel
theorem d_Mo_isAbove_27 : decode prog_9_method_8_code 27 = .ok (.goto (4), 3) := by decide +kernel
theorem d_Mo_isAbove_30 : decode prog_9_method_8_code 30 = .ok (.iconst 0, 1) := by decide +kernel
theorem d_Mo_isAbove_31 : decode prog_9_method_8_code 31 = .ok (.ireturn, 1) := by decide +kernel
theorem d_Mo_towards_0 : decode prog_9_method_9_code 0 = .ok (.aload_n 0, 1) := by decide +kernel
theorem d_Mo_towards_1 : decode prog_9_method_9_code 1 = .ok (.iload_n 1, 1) := by decide +kernel
theorem d_Mo_towards_2 : decode prog_9_method_9_code 2 = .ok (.iload_n 2, 1) := by decide +kernel
theorem d_Mo_towards_3 : decode prog_9_method_9_code 3 = .ok (.invokevirtual 97, 3) := by decide +kernel
theorem d_Mo_towards_6 : decode prog_9_method_9_code 6 = .ok (.ifCond .ne (10), 3) := by decide +kernel
theorem d_Mo_towards_9 : decode prog_9_method_9_code 9 = .ok (.aload_n 0, 1) := by decide +kernel
theorem d_Mo_towards_10 : decode prog_9_method_9_code 10 = .ok (.getfield 7, 3) := by decide +kernel
theorem d_Mo_towards_13 : decode prog_9_method_9_code 13 = .ok (.iload_n 1, 1) := by decide +kernel
theorem d_Mo_towards_14 : decode prog_9_method_9_code 14 = .ok (.iaload, 1) := by decide +kernel
theorem d_Mo_towards_15 : decode prog_9_method_9_code 15 = .ok (.ireturn, 1) := by decide +kernel
theorem d_Mo_towards_16 : decode prog_9_method_9_code 16 = .ok (.iload_n 2, 1) := by decide +kernel
theorem d_Mo_towards_17 : decode prog_9_method_9_code 17 = .ok (.istore_n 3, 1) := by decide +kernel
theorem d_Mo_towards_18 : decode prog_9_method_9_code 18 = .ok (.aload_n 0, 1) := by decide +kernel
theorem d_Mo_towards_19 : decode prog_9_method_9_code 19 = .ok (.getfield 7, 3) := by decide +kernel
theorem d_Mo_towards_22 : decode prog_9_method_9_code 22 = .ok (.iload_n 3, 1) := by decide +kernel
theorem d_Mo_towards_23 : decode prog_9_method_9_code 23 = .ok (.iaload, 1) := by decide +kernel
theorem d_Mo_towards_24 : decode prog_9_method_9_code 24 = .ok (.iload_n 1, 1) := by decide +kernel
theorem d_Mo_towards_25 : decode prog_9_method_9_code 25 = .ok (.if_icmp .eq (13), 3) := by decide +kernel
theorem d_Mo_towards_28 : decode prog_9_method_9_code 28 = .ok (.aload_n 0, 1) := by decide +kernel
theorem d_Mo_towards_29 : decode prog_9_method_9_code 29 = .ok (.getfield 7, 3) := by decide +kernel
theorem d_Mo_towards_32 : decode prog_9_method_9_code 32 = .ok (.iload_n 3, 1) := by decide +kernel
theorem d_Mo_towards_33 : decode prog_9_method_9_code 33 = .ok (.iaload, 1) := by decide +kernel
theorem d_Mo_towards_34 : decode prog_9_method_9_code 34 = .ok (.istore_n 3, 1) := by decide +kernel
theorem d_Mo_towards_35 : decode prog_9_method_9_code 35 = .ok (.goto (-17), 3) := by decide +kernel
theorem d_Mo_towards_38 : decode prog_9_method_9_code 38 = .ok (.iload_n 3, 1) := by decide +kernel
theorem d_Mo_towards_39 : decode prog_9_method_9_code 39 = .ok (.ireturn, 1) := by decide +kernel
theorem d_Mo_direction_0 : decode prog_9_method_10_code 0 = .ok (.aload_n 0, 1) := by decide +kernel
theorem d_Mo_direction_1 : decode prog_9_method_10_code 1 = .ok (.getfield 7, 3) := by decide +kernel
theorem d_Mo_direction_4 : decode prog_9_method_10_code 4 = .ok (.iload_n 1, 1) := by decide +kernel
theorem d_Mo_direction_5 : decode prog_9_method_10_code 5 = .ok (.iaload, 1) := by decide +kernel
theorem d_Mo_direction_6 : decode prog_9_method_10_code 6 = .ok (.iload_n 2, 1) := by decide +kernel
theorem d_Mo_direction_7 : decode prog_9_method_10_code 7 = .ok (.if_icmp .ne (9), 3) := by decide +kernel
theorem d_Mo_direction_10 : decode prog_9_method_10_code 10 = .ok (.iconst 2, 1) := by decide +kernel
theorem d_Mo_direction_11 : decode prog_9_method_10_code 11 = .ok (.iload_n 1, 1) := by decide +kernel
theorem d_Mo_direction_12 : decode prog_9_method_10_code 12 = .ok (.imul, 1) := by decide +kernel
theorem d_Mo_direction_13 : decode prog_9_method_10_code 13 = .ok (.goto (8), 3) := by decide +kernel
theorem d_Mo_direction_16 : decode prog_9_method_10_code 16 = .ok (.iconst 2, 1) := by decide +kernel
theorem d_Mo_direction_17 : decode prog_9_method_10_code 17 = .ok (.iload_n 2, 1) := by decide +kernel
theorem d_Mo_direction_18 : decode prog_9_method_10_code 18 = .ok (.imul, 1) := by decide +kernel
theorem d_Mo_direction_19 : decode prog_9_method_10_code 19 = .ok (.iconst 1, 1) := by decide +kernel
theorem d_Mo_direction_20 : decode prog_9_method_10_code 20 = .ok (.iadd, 1) := by decide +kernel
theorem d_Mo_direction_21 : decode prog_9_method_10_code 21 = .ok (.ireturn, 1) := by decide +kernel
theorem d_Mo_post_0 : decode prog_9_method_11_code 0 = .ok (.aload_n 0, 1) := by decide +kernel
theorem d_Mo_post_1 : decode prog_9_method_11_code 1 = .ok (.getfield 101, 3) := by decide +kernel
theorem d_Mo_post_4 : decode prog_9_method_11_code 4 = .ok (.bipush 40, 2) := by decide +kernel
theorem d_Mo_post_6 : decode prog_9_method_11_code 6 = .ok (.if_icmp .ne (5), 3) := by decide +kernel
theorem d_Mo_post_9 : decode prog_9_method_11_code 9 = .ok (.iconst 0, 1) := by decide +kernel
theorem d_Mo_post_10 : decode prog_9_method_11_code 10 = .ok (.ireturn, 1) := by decide +kernel
theorem d_Mo_post_11 : decode prog_9_method_11_code 11 = .ok (.aload_n 0, 1) := by decide +kernel
theorem d_Mo_post_12 : decode prog_9_method_11_code 12 = .ok (.getfield 65, 3) := by decide +kernel
theorem d_Mo_post_15 : decode prog_9_method_11_code 15 = .ok (.aload_n 0, 1) := by decide +kernel
theorem d_Mo_post_16 : decode prog_9_method_11_code 16 = .ok (.getfield 101, 3) := by decide +kernel
theorem d_Mo_post_19 : decode prog_9_method_11_code 19 = .ok (.iload_n 1, 1) := by decide +kernel
theorem d_Mo_post_20 : decode prog_9_method_11_code 20 = .ok (.iastore, 1) := by decide +kernel
theorem d_Mo_post_21 : decode prog_9_method_11_code 21 = .ok (.aload_n 0, 1) := by decide +kernel
theorem d_Mo_post_22 : decode prog_9_method_11_code 22 = .ok (.getfield 68, 3) := by decide +kernel
theorem d_Mo_post_25 : decode prog_9_method_11_code 25 = .ok (.aload_n 0, 1) := by decide +kernel
theorem d_Mo_post_26 : decode prog_9_method_11_code 26 = .ok (.getfield 101, 3) := by decide +kernel
theorem d_Mo_post_29 : decode prog_9_method_11_code 29 = .ok (.iload_n 2, 1) := by decide +kernel
theorem d_Mo_post_30 : decode prog_9_method_11_code 30 = .ok (.iastore, 1) := by decide +kernel
theorem d_Mo_post_31 : decode prog_9_method_11_code 31 = .ok (.aload_n 0, 1) := by decide +kernel
theorem d_Mo_post_32 : decode prog_9_method_11_code 32 = .ok (.getfield 71, 3) := by decide +kernel
theorem d_Mo_post_35 : decode prog_9_method_11_code 35 = .ok (.aload_n 0, 1) := by decide +kernel
theorem d_Mo_post_36 : decode prog_9_method_11_code 36 = .ok (.getfield 101, 3) := by decide +kernel
theorem d_Mo_post_39 : decode prog_9_method_11_code 39 = .ok (.iload_n 3, 1) := by decide +kernel
theorem d_Mo_post_40 : decode prog_9_method_11_code 40 = .ok (.iastore, 1) := by decide +kernel
theorem d_Mo_post_41 : decode prog_9_method_11_code 41 = .ok (.aload_n 0, 1) := by decide +kernel
theorem d_Mo_post_42 : decode prog_9_method_11_code 42 = .ok (.getfield 74, 3) := by decide +kernel
theorem d_Mo_post_45 : decode prog_9_method_11_code 45 = .ok (.aload_n 0, 1) := by decide +kernel
theorem d_Mo_post_46 : decode prog_9_method_11_code 46 = .ok (.getfield 101, 3) := by decide +kernel
theorem d_Mo_post_49 : decode prog_9_method_11_code 49 = .ok (.iload 4, 2) := by decide +kernel
theorem d_Mo_post_51 : decode prog_9_method_11_code 51 = .ok (.iastore, 1) := by decide +kernel
theorem d_Mo_post_52 : decode prog_9_method_11_code 52 = .ok (.aload_n 0, 1) := by decide +kernel
theorem d_Mo_post_53 : decode prog_9_method_11_code 53 = .ok (.getfield 77, 3) := by decide +kernel
theorem d_Mo_post_56 : decode prog_9_method_11_code 56 = .ok (.aload_n 0, 1) := by decide +kernel
theorem d_Mo_post_57 : decode prog_9_method_11_code 57 = .ok (.getfield 101, 3) := by decide +kernel
theorem d_Mo_post_60 : decode prog_9_method_11_code 60 = .ok (.iload 5, 2) := by decide +kernel
theorem d_Mo_post_62 : decode prog_9_method_11_code 62 = .ok (.iastore, 1) := by decide +kernel
theorem d_Mo_post_63 : decode prog_9_method_11_code 63 = .ok (.aload_n 0, 1) := by decide +kernel
theorem d_Mo_post_64 : decode prog_9_method_11_code 64 = .ok (.getfield 80, 3) := by decide +kernel
theorem d_Mo_post_67 : decode prog_9_method_11_code 67 = .ok (.aload_n 0, 1) := by decide +kernel
theorem d_Mo_post_68 : decode prog_9_method_11_code 68 = .ok (.getfield 101, 3) := by decide +kernel
theorem d_Mo_post_71 : decode prog_9_method_11_code 71 = .ok (.iload 6, 2) := by decide +kernel
theorem d_Mo_post_73 : decode prog_9_method_11_code 73 = .ok (.iastore, 1) := by decide +kernel
theorem d_Mo_post_74 : decode prog_9_method_11_code 74 = .ok (.aload_n 0, 1) := by decide +kernel
theorem d_Mo_post_75 : decode prog_9_method_11_code 75 = .ok (.dup, 1) := by decide +kernel
theorem d_Mo_post_76 : decode prog_9_method_11_code 76 = .ok (.getfield 101, 3) := by decide +kernel
theorem d_Mo_post_79 : decode prog_9_method_11_code 79 = .ok (.iconst 1, 1) := by decide +kernel
theorem d_Mo_post_80 : decode prog_9_method_11_code 80 = .ok (.iadd, 1) := by decide +kernel
theorem d_Mo_post_81 : decode prog_9_method_11_code 81 = .ok (.putfield 101, 3) := by decide +kernel
theorem d_Mo_post_84 : decode prog_9_method_11_code 84 = .ok (.iconst 1, 1) := by decide +kernel
theorem d_Mo_post_85 : decode prog_9_method_11_code 85 = .ok (.ireturn, 1) := by decide +kernel
theorem d_Mo_postFirst_0 : decode prog_9_method_12_code 0 = .ok (.aload_n 0, 1) := by decide +kernel
theorem d_Mo_postFirst_1 : decode prog_9_method_12_code 1 = .ok (.iload_n 1, 1) := by decide +kernel
theorem d_Mo_postFirst_2 : decode prog_9_method_12_code 2 = .ok (.iload_n 2, 1) := by decide +kernel
theorem d_Mo_postFirst_3 : decode prog_9_method_12_code 3 = .ok (.invokevirtual 104, 3) := by decide +kernel
theorem d_Mo_postFirst_6 : decode prog_9_method_12_code 6 = .ok (.istore_n 3, 1) := by decide +kernel
theorem d_Mo_postFirst_7 : decode prog_9_method_12_code 7 = .ok (.bipush 64, 2) := by decide +kernel
theorem d_Mo_postFirst_9 : decode prog_9_method_12_code 9 = .ok (.iload_n 3, 1) := by decide +kernel
theorem d_Mo_postFirst_10 : decode prog_9_method_12_code 10 = .ok (.imul, 1) := by decide +kernel
theorem d_Mo_postFirst_11 : decode prog_9_method_12_code 11 = .ok (.aload_n 0, 1) := by decide +kernel
theorem d_Mo_postFirst_12 : decode prog_9_method_12_code 12 = .ok (.getfield 50, 3) := by decide +kernel
theorem d_Mo_postFirst_15 : decode prog_9_method_12_code 15 = .ok (.iload_n 3, 1) := by decide +kernel
theorem d_Mo_postFirst_16 : decode prog_9_method_12_code 16 = .ok (.iaload, 1) := by decide +kernel
theorem d_Mo_postFirst_17 : decode prog_9_method_12_code 17 = .ok (.bipush 64, 2) := by decide +kernel
theorem d_Mo_postFirst_19 : decode prog_9_method_12_code 19 = .ok (.irem, 1) := by decide +kernel
theorem d_Mo_postFirst_20 : decode prog_9_method_12_code 20 = .ok (.iadd, 1) := by decide +kernel
theorem d_Mo_postFirst_21 : decode prog_9_method_12_code 21 = .ok (.istore 4, 2) := by decide +kernel
theorem d_Mo_postFirst_23 : decode prog_9_method_12_code 23 = .ok (.aload_n 0, 1) := by decide +kernel
theorem d_Mo_postFirst_24 : decode prog_9_method_12_code 24 = .ok (.iconst 0, 1) := by decide +kernel
theorem d_Mo_postFirst_25 : decode prog_9_method_12_code 25 = .ok (.iload_n 1, 1) := by decide +kernel
theorem d_Mo_postFirst_26 : decode prog_9_method_12_code 26 = .ok (.iload_n 2, 1) := by decide +kernel
theorem d_Mo_postFirst_27 : decode prog_9_method_12_code 27 = .ok (.aload_n 0, 1) := by decide +kernel
theorem d_Mo_postFirst_28 : decode prog_9_method_12_code 28 = .ok (.getfield 50, 3) := by decide +kernel
theorem d_Mo_postFirst_31 : decode prog_9_method_12_code 31 = .ok (.iload_n 3, 1) := by decide +kernel
theorem d_Mo_postFirst_32 : decode prog_9_method_12_code 32 = .ok (.iaload, 1) := by decide +kernel
theorem d_Mo_postFirst_33 : decode prog_9_method_12_code 33 = .ok (.aload_n 0, 1) := by decide +kernel
theorem d_Mo_postFirst_34 : decode prog_9_method_12_code 34 = .ok (.getfield 59, 3) := by decide +kernel
theorem d_Mo_postFirst_37 : decode prog_9_method_12_code 37 = .ok (.iload 4, 2) := by decide +kernel
theorem d_Mo_postFirst_39 : decode prog_9_method_12_code 39 = .ok (.iaload, 1) := by decide +kernel
theorem d_Mo_postFirst_40 : decode prog_9_method_12_code 40 = .ok (.aload_n 0, 1) := by decide +kernel
theorem d_Mo_postFirst_41 : decode prog_9_method_12_code 41 = .ok (.getfield 62, 3) := by decide +kernel
theorem d_Mo_postFirst_44 : decode prog_9_method_12_code 44 = .ok (.iload 4, 2) := by decide +kernel
theorem d_Mo_postFirst_46 : decode prog_9_method_12_code 46 = .ok (.iaload, 1) := by decide +kernel
theorem d_Mo_postFirst_47 : decode prog_9_method_12_code 47 = .ok (.invokevirtual 108, 3) := by decide +kernel
theorem d_Mo_postFirst_50 : decode prog_9_method_12_code 50 = .ok (.pop, 1) := by decide +kernel
theorem d_Mo_postFirst_51 : decode prog_9_method_12_code 51 = .ok (.return_, 1) := by decide +kernel
theorem d_Mo_write_0 : decode prog_9_method_13_code 0 = .ok (.aload_n 0, 1) := by decide +kernel
theorem d_Mo_write_1 : decode prog_9_method_13_code 1 = .ok (.iload_n 1, 1) := by decide +kernel
theorem d_Mo_write_2 : decode prog_9_method_13_code 2 = .ok (.iload_n 2, 1) := by decide +kernel
theorem d_Mo_write_3 : decode prog_9_method_13_code 3 = .ok (.invokevirtual 104, 3) := by decide +kernel
theorem d_Mo_write_6 : decode prog_9_method_13_code 6 = .ok (.istore 5, 2) := by decide +kernel
theorem d_Mo_write_8 : decode prog_9_method_13_code 8 = .ok (.bipush 64, 2) := by decide +kernel
theorem d_Mo_write_10 : decode prog_9_method_13_code 10 = .ok (.iload 5, 2) := by decide +kernel
theorem d_Mo_write_12 : decode prog_9_method_13_code 12 = .ok (.imul, 1) := by decide +kernel
theorem d_Mo_write_13 : decode prog_9_method_13_code 13 = .ok (.aload_n 0, 1) := by decide +kernel
theorem d_Mo_write_14 : decode prog_9_method_13_code 14 = .ok (.getfield 53, 3) := by decide +kernel
theorem d_Mo_write_17 : decode prog_9_method_13_code 17 = .ok (.iload 5, 2) := by decide +kernel
theorem d_Mo_write_19 : decode prog_9_method_13_code 19 = .ok (.iaload, 1) := by decide +kernel
theorem d_Mo_write_20 : decode prog_9_method_13_code 20 = .ok (.bipush 64, 2) := by decide +kernel
theorem d_Mo_write_22 : decode prog_9_method_13_code 22 = .ok (.irem, 1) := by decide +kernel
theorem d_Mo_write_23 : decode prog_9_method_13_code 23 = .ok (.iadd, 1) := by decide +kernel
theorem d_Mo_write_24 : decode prog_9_method_13_code 24 = .ok (.istore 6, 2) := by decide +kernel
theorem d_Mo_write_26 : decode prog_9_method_13_code 26 = .ok (.aload_n 0, 1) := by decide +kernel
theorem d_Mo_write_27 : decode prog_9_method_13_code 27 = .ok (.getfield 59, 3) := by decide +kernel
theorem d_Mo_write_30 : decode prog_9_method_13_code 30 = .ok (.iload 6, 2) := by decide +kernel
theorem d_Mo_write_32 : decode prog_9_method_13_code 32 = .ok (.iload_n 3, 1) := by decide +kernel
theorem d_Mo_write_33 : decode prog_9_method_13_code 33 = .ok (.iastore, 1) := by decide +kernel
theorem d_Mo_write_34 : decode prog_9_method_13_code 34 = .ok (.aload_n 0, 1) := by decide +kernel
theorem d_Mo_write_35 : decode prog_9_method_13_code 35 = .ok (.getfield 62, 3) := by decide +kernel
theorem d_Mo_write_38 : decode prog_9_method_13_code 38 = .ok (.iload 6, 2) := by decide +kernel
theorem d_Mo_write_40 : decode prog_9_method_13_code 40 = .ok (.iload 4, 2) := by decide +kernel
theorem d_Mo_write_42 : decode prog_9_method_13_code 42 = .ok (.iastore, 1) := by decide +kernel
theorem d_Mo_write_43 : decode prog_9_method_13_code 43 = .ok (.aload_n 0, 1) := by decide +kernel
theorem d_Mo_write_44 : decode prog_9_method_13_code 44 = .ok (.getfield 53, 3) := by decide +kernel
theorem d_Mo_write_47 : decode prog_9_method_13_code 47 = .ok (.iload 5, 2) := by decide +kernel
theorem d_Mo_write_49 : decode prog_9_method_13_code 49 = .ok (.dup2, 1) := by decide +kernel
theorem d_Mo_write_50 : decode prog_9_method_13_code 50 = .ok (.iaload, 1) := by decide +kernel
theorem d_Mo_write_51 : decode prog_9_method_13_code 51 = .ok (.iconst 1, 1) := by decide +kernel
theorem d_Mo_write_52 : decode prog_9_method_13_code 52 = .ok (.iadd, 1) := by decide +kernel
theorem d_Mo_write_53 : decode prog_9_method_13_code 53 = .ok (.iastore, 1) := by decide +kernel
theorem d_Mo_write_54 : decode prog_9_method_13_code 54 = .ok (.aload_n 0, 1) := by decide +kernel
theorem d_Mo_write_55 : decode prog_9_method_13_code 55 = .ok (.getfield 53, 3) := by decide +kernel
theorem d_Mo_write_58 : decode prog_9_method_13_code 58 = .ok (.iload 5, 2) := by decide +kernel
theorem d_Mo_write_60 : decode prog_9_method_13_code 60 = .ok (.iaload, 1) := by decide +kernel
theorem d_Mo_write_61 : decode prog_9_method_13_code 61 = .ok (.aload_n 0, 1) := by decide +kernel
theorem d_Mo_write_62 : decode prog_9_method_13_code 62 = .ok (.getfield 50, 3) := by decide +kernel
theorem d_Mo_write_65 : decode prog_9_method_13_code 65 = .ok (.iload 5, 2) := by decide +kernel
theorem d_Mo_write_67 : decode prog_9_method_13_code 67 = .ok (.iaload, 1) := by decide +kernel
theorem d_Mo_write_68 : decode prog_9_method_13_code 68 = .ok (.iconst 1, 1) := by decide +kernel
theorem d_Mo_write_69 : decode prog_9_method_13_code 69 = .ok (.iadd, 1) := by decide +kernel
theorem d_Mo_write_70 : decode prog_9_method_13_code 70 = .ok (.if_icmp .ne (9), 3) := by decide +kernel
theorem d_Mo_write_73 : decode prog_9_method_13_code 73 = .ok (.aload_n 0, 1) := by decide +kernel
theorem d_Mo_write_74 : decode prog_9_method_13_code 74 = .ok (.iload_n 1, 1) := by decide +kernel
theorem d_Mo_write_75 : decode prog_9_method_13_code 75 = .ok (.iload_n 2, 1) := by decide +kernel
theorem d_Mo_write_76 : decode prog_9_method_13_code 76 = .ok (.invokevirtual 112, 3) := by decide +kernel
theorem d_Mo_write_79 : decode prog_9_method_13_code 79 = .ok (.return_, 1) := by decide +kernel
theorem d_Mo_takeOut_0 : decode prog_9_method_14_code 0 = .ok (.aload_n 0, 1) := by decide +kernel
theorem d_Mo_takeOut_1 : decode prog_9_method_14_code 1 = .ok (.dup, 1) := by decide +kernel
theorem d_Mo_takeOut_2 : decode prog_9_method_14_code 2 = .ok (.getfield 101, 3) := by decide +kernel
theorem d_Mo_takeOut_5 : decode prog_9_method_14_code 5 = .ok (.iconst 1, 1) := by decide +kernel
theorem d_Mo_takeOut_6 : decode prog_9_method_14_code 6 = .ok (.isub, 1) := by decide +kernel
theorem d_Mo_takeOut_7 : decode prog_9_method_14_code 7 = .ok (.putfield 101, 3) := by decide +kernel
theorem d_Mo_takeOut_10 : decode prog_9_method_14_code 10 = .ok (.iload_n 1, 1) := by decide +kernel
theorem d_Mo_takeOut_11 : decode prog_9_method_14_code 11 = .ok (.istore_n 2, 1) := by decide +kernel
theorem d_Mo_takeOut_12 : decode prog_9_method_14_code 12 = .ok (.iload_n 2, 1) := by decide +kernel
theorem d_Mo_takeOut_13 : decode prog_9_method_14_code 13 = .ok (.aload_n 0, 1) := by decide +kernel
theorem d_Mo_takeOut_14 : decode prog_9_method_14_code 14 = .ok (.getfield 101, 3) := by decide +kernel
theorem d_Mo_takeOut_17 : decode prog_9_method_14_code 17 = .ok (.if_icmp .ge (93), 3) := by decide +kernel
theorem d_Mo_takeOut_20 : decode prog_9_method_14_code 20 = .ok (.aload_n 0, 1) := by decide +kernel
theorem d_Mo_takeOut_21 : decode prog_9_method_14_code 21 = .ok (.getfield 65, 3) := by decide +kernel
theorem d_Mo_takeOut_24 : decode prog_9_method_14_code 24 = .ok (.iload_n 2, 1) := by decide +kernel
theorem d_Mo_takeOut_25 : decode prog_9_method_14_code 25 = .ok (.aload_n 0, 1) := by decide +kernel
theorem d_Mo_takeOut_26 : decode prog_9_method_14_code 26 = .ok (.getfield 65, 3) := by decide +kernel
theorem d_Mo_takeOut_29 : decode prog_9_method_14_code 29 = .ok (.iload_n 2, 1) := by decide +kernel
theorem d_Mo_takeOut_30 : decode prog_9_method_14_code 30 = .ok (.iconst 1, 1) := by decide +kernel
theorem d_Mo_takeOut_31 : decode prog_9_method_14_code 31 = .ok (.iadd, 1) := by decide +kernel
theorem d_Mo_takeOut_32 : decode prog_9_method_14_code 32 = .ok (.iaload, 1) := by decide +kernel
theorem d_Mo_takeOut_33 : decode prog_9_method_14_code 33 = .ok (.iastore, 1) := by decide +kernel
theorem d_Mo_takeOut_34 : decode prog_9_method_14_code 34 = .ok (.aload_n 0, 1) := by decide +kernel
theorem d_Mo_takeOut_35 : decode prog_9_method_14_code 35 = .ok (.getfield 68, 3) := by decide +kernel
theorem d_Mo_takeOut_38 : decode prog_9_method_14_code 38 = .ok (.iload_n 2, 1) := by decide +kernel
theorem d_Mo_takeOut_39 : decode prog_9_method_14_code 39 = .ok (.aload_n 0, 1) := by decide +kernel
theorem d_Mo_takeOut_40 : decode prog_9_method_14_code 40 = .ok (.getfield 68, 3) := by decide +kernel
theorem d_Mo_takeOut_43 : decode prog_9_method_14_code 43 = .ok (.iload_n 2, 1) := by decide +kernel
theorem d_Mo_takeOut_44 : decode prog_9_method_14_code 44 = .ok (.iconst 1, 1) := by decide +kernel
theorem d_Mo_takeOut_45 : decode prog_9_method_14_code 45 = .ok (.iadd, 1) := by decide +kernel
theorem d_Mo_takeOut_46 : decode prog_9_method_14_code 46 = .ok (.iaload, 1) := by decide +kernel
theorem d_Mo_takeOut_47 : decode prog_9_method_14_code 47 = .ok (.iastore, 1) := by decide +kernel
theorem d_Mo_takeOut_48 : decode prog_9_method_14_code 48 = .ok (.aload_n 0, 1) := by decide +kernel
theorem d_Mo_takeOut_49 : decode prog_9_method_14_code 49 = .ok (.getfield 71, 3) := by decide +kernel
theorem d_Mo_takeOut_52 : decode prog_9_method_14_code 52 = .ok (.iload_n 2, 1) := by decide +kernel
theorem d_Mo_takeOut_53 : decode prog_9_method_14_code 53 = .ok (.aload_n 0, 1) := by decide +kernel
theorem d_Mo_takeOut_54 : decode prog_9_method_14_code 54 = .ok (.getfield 71, 3) := by decide +kernel
theorem d_Mo_takeOut_57 : decode prog_9_method_14_code 57 = .ok (.iload_n 2, 1) := by decide +kernel
theorem d_Mo_takeOut_58 : decode prog_9_method_14_code 58 = .ok (.iconst 1, 1) := by decide +kernel
theorem d_Mo_takeOut_59 : decode prog_9_method_14_code 59 = .ok (.iadd, 1) := by decide +kernel
theorem d_Mo_takeOut_60 : decode prog_9_method_14_code 60 = .ok (.iaload, 1) := by decide +kernel
theorem d_Mo_takeOut_61 : decode prog_9_method_14_code 61 = .ok (.iastore, 1) := by decide +kernel
theorem d_Mo_takeOut_62 : decode prog_9_method_14_code 62 = .ok (.aload_n 0, 1) := by decide +kernel
theorem d_Mo_takeOut_63 : decode prog_9_method_14_code 63 = .ok (.getfield 74, 3) := by decide +kernel
theorem d_Mo_takeOut_66 : decode prog_9_method_14_code 66 = .ok (.iload_n 2, 1) := by decide +kernel
theorem d_Mo_takeOut_67 : decode prog_9_method_14_code 67 = .ok (.aload_n 0, 1) := by decide +kernel
theorem d_Mo_takeOut_68 : decode prog_9_method_14_code 68 = .ok (.getfield 74, 3) := by decide +kernel
theorem d_Mo_takeOut_71 : decode prog_9_method_14_code 71 = .ok (.iload_n 2, 1) := by decide +kernel
theorem d_Mo_takeOut_72 : decode prog_9_method_14_code 72 = .ok (.iconst 1, 1) := by decide +kernel
theorem d_Mo_takeOut_73 : decode prog_9_method_14_code 73 = .ok (.iadd, 1) := by decide +kernel
theorem d_Mo_takeOut_74 : decode prog_9_method_14_code 74 = .ok (.iaload, 1) := by decide +kernel
theorem d_Mo_takeOut_75 : decode prog_9_method_14_code 75 = .ok (.iastore, 1) := by decide +kernel
theorem d_Mo_takeOut_76 : decode prog_9_method_14_code 76 = .ok (.aload_n 0, 1) := by decide +kernel
theorem d_Mo_takeOut_77 : decode prog_9_method_14_code 77 = .ok (.getfield 77, 3) := by decide +kernel
theorem d_Mo_takeOut_80 : decode prog_9_method_14_code 80 = .ok (.iload_n 2, 1) := by decide +kernel
theorem d_Mo_takeOut_81 : decode prog_9_method_14_code 81 = .ok (.aload_n 0, 1) := by decide +kernel
theorem d_Mo_takeOut_82 : decode prog_9_method_14_code 82 = .ok (.getfield 77, 3) := by decide +kernel
theorem d_Mo_takeOut_85 : decode prog_9_method_14_code 85 = .ok (.iload_n 2, 1) := by decide +kernel
theorem d_Mo_takeOut_86 : decode prog_9_method_14_code 86 = .ok (.iconst 1, 1) := by decide +kernel
theorem d_Mo_takeOut_87 : decode prog_9_method_14_code 87 = .ok (.iadd, 1) := by decide +kernel
theorem d_Mo_takeOut_88 : decode prog_9_method_14_code 88 = .ok (.iaload, 1) := by decide +kernel
theorem d_Mo_takeOut_89 : decode prog_9_method_14_code 89 = .ok (.iastore, 1) := by decide +kernel
theorem d_Mo_takeOut_90 : decode prog_9_method_14_code 90 = .ok (.aload_n 0, 1) := by decide +kernel
theorem d_Mo_takeOut_91 : decode prog_9_method_14_code 91 = .ok (.getfield 80, 3) := by decide +kernel
theorem d_Mo_takeOut_94 : decode prog_9_method_14_code 94 = .ok (.iload_n 2, 1) := by decide +kernel
theorem d_Mo_takeOut_95 : decode prog_9_method_14_code 95 = .ok (.aload_n 0, 1) := by decide +kernel
theorem d_Mo_takeOut_96 : decode prog_9_method_14_code 96 = .ok (.getfield 80, 3) := by decide +kernel
theorem d_Mo_takeOut_99 : decode prog_9_method_14_code 99 = .ok (.iload_n 2, 1) := by decide +kernel
theorem d_Mo_takeOut_100 : decode prog_9_method_14_code 100 = .ok (.iconst 1, 1) := by decide +kernel
theorem d_Mo_takeOut_101 : decode prog_9_method_14_code 101 = .ok (.iadd, 1) := by decide +kernel
theorem d_Mo_takeOut_102 : decode prog_9_method_14_code 102 = .ok (.iaload, 1) := by decide +kernel
theorem d_Mo_takeOut_103 : decode prog_9_method_14_code 103 = .ok (.iastore, 1) := by decide +kernel
theorem d_Mo_takeOut_104 : decode prog_9_method_14_code 104 = .ok (.iinc 2 1, 3) := by decide +kernel
theorem d_Mo_takeOut_107 : decode prog_9_method_14_code 107 = .ok (.goto (-95), 3) := by decide +kernel
theorem d_Mo_takeOut_110 : decode prog_9_method_14_code 110 = .ok (.return_, 1) := by decide +kernel
theorem d_Mo_opn_0 : decode prog_9_method_15_code 0 = .ok (.iload_n 1, 1) := by decide +kernel
theorem d_Mo_opn_1 : decode prog_9_method_15_code 1 = .ok (.iload_n 2, 1) := by decide +kernel
theorem d_Mo_opn_2 : decode prog_9_method_15_code 2 = .ok (.invokestatic 116, 3) := by decide +kernel
theorem d_Mo_opn_5 : decode prog_9_method_15_code 5 = .ok (.istore_n 3, 1) := by decide +kernel
theorem d_Mo_opn_6 : decode prog_9_method_15_code 6 = .ok (.aload_n 0, 1) := by decide +kernel
theorem d_Mo_opn_7 : decode prog_9_method_15_code 7 = .ok (.getfield 26, 3) := by decide +kernel
theorem d_Mo_opn_10 : decode prog_9_method_15_code 10 = .ok (.iload_n 3, 1) := by decide +kernel
theorem d_Mo_opn_11 : decode prog_9_method_15_code 11 = .ok (.iaload, 1) := by decide +kernel
theorem d_Mo_opn_12 : decode prog_9_method_15_code 12 = .ok (.iconst 4, 1) := by decide +kernel
theorem d_Mo_opn_13 : decode prog_9_method_15_code 13 = .ok (.if_icmp .ne (13), 3) := by decide +kernel
theorem d_Mo_opn_16 : decode prog_9_method_15_code 16 = .ok (.aload_n 0, 1) := by decide +kernel
theorem d_Mo_opn_17 : decode prog_9_method_15_code 17 = .ok (.getfield 26, 3) := by decide +kernel
theorem d_Mo_opn_20 : decode prog_9_method_15_code 20 = .ok (.iload_n 3, 1) := by decide +kernel
theorem d_Mo_opn_21 : decode prog_9_method_15_code 21 = .ok (.iconst 2, 1) := by decide +kernel
theorem d_Mo_opn_22 : decode prog_9_method_15_code 22 = .ok (.iastore, 1) := by decide +kernel
theorem d_Mo_opn_23 : decode prog_9_method_15_code 23 = .ok (.goto (43), 3) := by decide +kernel
theorem d_Mo_opn_26 : decode prog_9_method_15_code 26 = .ok (.aload_n 0, 1) := by decide +kernel
theorem d_Mo_opn_27 : decode prog_9_method_15_code 27 = .ok (.getfield 26, 3) := by decide +kernel
theorem d_Mo_opn_30 : decode prog_9_method_15_code 30 = .ok (.iload_n 3, 1) := by decide +kernel
theorem d_Mo_opn_31 : decode prog_9_method_15_code 31 = .ok (.iaload, 1) := by decide +kernel
theorem d_Mo_opn_32 : decode prog_9_method_15_code 32 = .ok (.ifCond .ne (34), 3) := by decide +kernel
theorem d_Mo_opn_35 : decode prog_9_method_15_code 35 = .ok (.aload_n 0, 1) := by decide +kernel
theorem d_Mo_opn_36 : decode prog_9_method_15_code 36 = .ok (.getfield 26, 3) := by decide +kernel
theorem d_Mo_opn_39 : decode prog_9_method_15_code 39 = .ok (.iload_n 3, 1) := by decide +kernel
theorem d_Mo_opn_40 : decode prog_9_method_15_code 40 = .ok (.iconst 1, 1) := by decide +kernel
theorem d_Mo_opn_41 : decode prog_9_method_15_code 41 = .ok (.iastore, 1) := by decide +kernel
theorem d_Mo_opn_42 : decode prog_9_method_15_code 42 = .ok (.aload_n 0, 1) := by decide +kernel
theorem d_Mo_opn_43 : decode prog_9_method_15_code 43 = .ok (.getfield 20, 3) := by decide +kernel
theorem d_Mo_opn_46 : decode prog_9_method_15_code 46 = .ok (.iload_n 3, 1) := by decide +kernel
theorem d_Mo_opn_47 : decode prog_9_method_15_code 47 = .ok (.iaload, 1) := by decide +kernel
theorem d_Mo_opn_48 : decode prog_9_method_15_code 48 = .ok (.istore 4, 2) := by decide +kernel
theorem d_Mo_opn_50 : decode prog_9_method_15_code 50 = .ok (.aload_n 0, 1) := by decide +kernel
theorem d_Mo_opn_51 : decode prog_9_method_15_code 51 = .ok (.getfield 20, 3) := by decide +kernel
theorem d_Mo_opn_54 : decode prog_9_method_15_code 54 = .ok (.iload_n 3, 1) := by decide +kernel
theorem d_Mo_opn_55 : decode prog_9_method_15_code 55 = .ok (.iload_n 1, 1) := by decide +kernel
theorem d_Mo_opn_56 : decode prog_9_method_15_code 56 = .ok (.iastore, 1) := by decide +kernel
theorem d_Mo_opn_57 : decode prog_9_method_15_code 57 = .ok (.aload_n 0, 1) := by decide +kernel
theorem d_Mo_opn_58 : decode prog_9_method_15_code 58 = .ok (.iload_n 1, 1) := by decide +kernel
theorem d_Mo_opn_59 : decode prog_9_method_15_code 59 = .ok (.iload 4, 2) := by decide +kernel
theorem d_Mo_opn_61 : decode prog_9_method_15_code 61 = .ok (.iload_n 2, 1) := by decide +kernel
theorem d_Mo_opn_62 : decode prog_9_method_15_code 62 = .ok (.iload_n 1, 1) := by decide +kernel
theorem d_Mo_opn_63 : decode prog_9_method_15_code 63 = .ok (.invokevirtual 119, 3) := by decide +kernel
theorem d_Mo_opn_66 : decode prog_9_method_15_code 66 = .ok (.return_, 1) := by decide +kernel
theorem d_Mo_sendOn_0 : decode prog_9_method_16_code 0 = .ok (.iload_n 1, 1) := by decide +kernel
theorem d_Mo_sendOn_1 : decode prog_9_method_16_code 1 = .ok (.iload_n 2, 1) := by decide +kernel
theorem d_Mo_sendOn_2 : decode prog_9_method_16_code 2 = .ok (.invokestatic 116, 3) := by decide +kernel
theorem d_Mo_sendOn_5 : decode prog_9_method_16_code 5 = .ok (.istore_n 3, 1) := by decide +kernel
theorem d_Mo_sendOn_6 : decode prog_9_method_16_code 6 = .ok (.aload_n 0, 1) := by decide +kernel
theorem d_Mo_sendOn_7 : decode prog_9_method_16_code 7 = .ok (.getfield 38, 3) := by decide +kernel
theorem d_Mo_sendOn_10 : decode prog_9_method_16_code 10 = .ok (.iload_n 2, 1) := by decide +kernel
theorem d_Mo_sendOn_11 : decode prog_9_method_16_code 11 = .ok (.aload_n 0, 1) := by decide +kernel
theorem d_Mo_sendOn_12 : decode prog_9_method_16_code 12 = .ok (.getfield 23, 3) := by decide +kernel
theorem d_Mo_sendOn_15 : decode prog_9_method_16_code 15 = .ok (.iload_n 3, 1) := by decide +kernel
theorem d_Mo_sendOn_16 : decode prog_9_method_16_code 16 = .ok (.iaload, 1) := by decide +kernel
theorem d_Mo_sendOn_17 : decode prog_9_method_16_code 17 = .ok (.iastore, 1) := by decide +kernel
theorem d_Mo_sendOn_18 : decode prog_9_method_16_code 18 = .ok (.aload_n 0, 1) := by decide +kernel
theorem d_Mo_sendOn_19 : decode prog_9_method_16_code 19 = .ok (.getfield 41, 3) := by decide +kernel
theorem d_Mo_sendOn_22 : decode prog_9_method_16_code 22 = .ok (.iload_n 2, 1) := by decide +kernel
theorem d_Mo_sendOn_23 : decode prog_9_method_16_code 23 = .ok (.iconst 1, 1) := by decide +kernel
theorem d_Mo_sendOn_24 : decode prog_9_method_16_code 24 = .ok (.bastore, 1) := by decide +kernel
theorem d_Mo_sendOn_25 : decode prog_9_method_16_code 25 = .ok (.aload_n 0, 1) := by decide +kernel
theorem d_Mo_sendOn_26 : decode prog_9_method_16_code 26 = .ok (.getfield 23, 3) := by decide +kernel
theorem d_Mo_sendOn_29 : decode prog_9_method_16_code 29 = .ok (.iload_n 3, 1) := by decide +kernel
theorem d_Mo_sendOn_30 : decode prog_9_method_16_code 30 = .ok (.iconst (-1), 1) := by decide +kernel
theorem d_Mo_sendOn_31 : decode prog_9_method_16_code 31 = .ok (.iastore, 1) := by decide +kernel
theorem d_Mo_sendOn_32 : decode prog_9_method_16_code 32 = .ok (.aload_n 0, 1) := by decide +kernel
theorem d_Mo_sendOn_33 : decode prog_9_method_16_code 33 = .ok (.getfield 26, 3) := by decide +kernel
theorem d_Mo_sendOn_36 : decode prog_9_method_16_code 36 = .ok (.iload_n 3, 1) := by decide +kernel
theorem d_Mo_sendOn_37 : decode prog_9_method_16_code 37 = .ok (.iconst 0, 1) := by decide +kernel
theorem d_Mo_sendOn_38 : decode prog_9_method_16_code 38 = .ok (.iastore, 1) := by decide +kernel
theorem d_Mo_sendOn_39 : decode prog_9_method_16_code 39 = .ok (.return_, 1) := by decide +kernel
theorem d_Mo_takeFind_0 : decode prog_9_method_17_code 0 = .ok (.iload_n 1, 1) := by decide +kernel
theorem d_Mo_takeFind_1 : decode prog_9_method_17_code 1 = .ok (.iload_n 3, 1) := by decide +kernel
theorem d_Mo_takeFind_2 : decode prog_9_method_17_code 2 = .ok (.invokestatic 116, 3) := by decide +kernel
theorem d_Mo_takeFind_5 : decode prog_9_method_17_code 5 = .ok (.istore 5, 2) := by decide +kernel
theorem d_Mo_takeFind_7 : decode prog_9_method_17_code 7 = .ok (.aload_n 0, 1) := by decide +kernel
theorem d_Mo_takeFind_8 : decode prog_9_method_17_code 8 = .ok (.getfield 20, 3) := by decide +kernel
theorem d_Mo_takeFind_11 : decode prog_9_method_17_code 11 = .ok (.iload 5, 2) := by decide +kernel
theorem d_Mo_takeFind_13 : decode prog_9_method_17_code 13 = .ok (.iaload, 1) := by decide +kernel
theorem d_Mo_takeFind_14 : decode prog_9_method_17_code 14 = .ok (.istore 6, 2) := by decide +kernel
theorem d_Mo_takeFind_16 : decode prog_9_method_17_code 16 = .ok (.aload_n 0, 1) := by decide +kernel
theorem d_Mo_takeFind_17 : decode prog_9_method_17_code 17 = .ok (.getfield 20, 3) := by decide +kernel
theorem d_Mo_takeFind_20 : decode prog_9_method_17_code 20 = .ok (.iload 5, 2) := by decide +kernel
theorem d_Mo_takeFind_22 : decode prog_9_method_17_code 22 = .ok (.iload_n 2, 1) := by decide +kernel
theorem d_Mo_takeFind_23 : decode prog_9_method_17_code 23 = .ok (.iastore, 1) := by decide +kernel
theorem d_Mo_takeFind_24 : decode prog_9_method_17_code 24 = .ok (.iload 6, 2) := by decide +kernel
theorem d_Mo_takeFind_26 : decode prog_9_method_17_code 26 = .ok (.iload_n 1, 1) := by decide +kernel
theorem d_Mo_takeFind_27 : decode prog_9_method_17_code 27 = .ok (.if_icmp .eq (16), 3) := by decide +kernel
theorem d_Mo_takeFind_30 : decode prog_9_method_17_code 30 = .ok (.aload_n 0, 1) := by decide +kernel
theorem d_Mo_takeFind_31 : decode prog_9_method_17_code 31 = .ok (.iload_n 1, 1) := by decide +kernel
theorem d_Mo_takeFind_32 : decode prog_9_method_17_code 32 = .ok (.iload 6, 2) := by decide +kernel
theorem d_Mo_takeFind_34 : decode prog_9_method_17_code 34 = .ok (.iload_n 3, 1) := by decide +kernel
theorem d_Mo_takeFind_35 : decode prog_9_method_17_code 35 = .ok (.iload 4, 2) := by decide +kernel
theorem d_Mo_takeFind_37 : decode prog_9_method_17_code 37 = .ok (.invokevirtual 119, 3) := by decide +kernel
theorem d_Mo_takeFind_40 : decode prog_9_method_17_code 40 = .ok (.goto (29), 3) := by decide +kernel
theorem d_Mo_takeFind_43 : decode prog_9_method_17_code 43 = .ok (.aload_n 0, 1) := by decide +kernel
theorem d_Mo_takeFind_44 : decode prog_9_method_17_code 44 = .ok (.getfield 23, 3) := by decide +kernel
theorem d_Mo_takeFind_47 : decode prog_9_method_17_code 47 = .ok (.iload 5, 2) := by decide +kernel
theorem d_Mo_takeFind_49 : decode prog_9_method_17_code 49 = .ok (.iload 4, 2) := by decide +kernel
theorem d_Mo_takeFind_51 : decode prog_9_method_17_code 51 = .ok (.iastore, 1) := by decide +kernel
theorem d_Mo_takeFind_52 : decode prog_9_method_17_code 52 = .ok (.aload_n 0, 1) := by decide +kernel
theorem d_Mo_takeFind_53 : decode prog_9_method_17_code 53 = .ok (.getfield 26, 3) := by decide +kernel
theorem d_Mo_takeFind_56 : decode prog_9_method_17_code 56 = .ok (.iload 5, 2) := by decide +kernel
theorem d_Mo_takeFind_58 : decode prog_9_method_17_code 58 = .ok (.iaload, 1) := by decide +kernel
theorem d_Mo_takeFind_59 : decode prog_9_method_17_code 59 = .ok (.iconst 4, 1) := by decide +kernel
theorem d_Mo_takeFind_60 : decode prog_9_method_17_code 60 = .ok (.if_icmp .ne (9), 3) := by decide +kernel
theorem d_Mo_takeFind_63 : decode prog_9_method_17_code 63 = .ok (.aload_n 0, 1) := by decide +kernel
theorem d_Mo_takeFind_64 : decode prog_9_method_17_code 64 = .ok (.iload_n 1, 1) := by decide +kernel
theorem d_Mo_takeFind_65 : decode prog_9_method_17_code 65 = .ok (.iload_n 3, 1) := by decide +kernel
theorem d_Mo_takeFind_66 : decode prog_9_method_17_code 66 = .ok (.invokevirtual 123, 3) := by decide +kernel
theorem d_Mo_takeFind_69 : decode prog_9_method_17_code 69 = .ok (.return_, 1) := by decide +kernel
theorem d_Mo_copyAt_0 : decode prog_9_method_18_code 0 = .ok (.aload_n 0, 1) := by decide +kernel
theorem d_Mo_copyAt_1 : decode prog_9_method_18_code 1 = .ok (.aload_n 0, 1) := by decide +kernel
theorem d_Mo_copyAt_2 : decode prog_9_method_18_code 2 = .ok (.iload_n 2, 1) := by decide +kernel
theorem d_Mo_copyAt_3 : decode prog_9_method_18_code 3 = .ok (.iload_n 1, 1) := by decide +kernel
theorem d_Mo_copyAt_4 : decode prog_9_method_18_code 4 = .ok (.invokevirtual 126, 3) := by decide +kernel
theorem d_Mo_copyAt_7 : decode prog_9_method_18_code 7 = .ok (.ifCond .ne (7), 3) := by decide +kernel
theorem d_Mo_copyAt_10 : decode prog_9_method_18_code 10 = .ok (.iconst 1, 1) := by decide +kernel
theorem d_Mo_copyAt_11 : decode prog_9_method_18_code 11 = .ok (.goto (4), 3) := by decide +kernel
theorem d_Mo_copyAt_14 : decode prog_9_method_18_code 14 = .ok (.iconst 0, 1) := by decide +kernel
theorem d_Mo_copyAt_15 : decode prog_9_method_18_code 15 = .ok (.iload_n 1, 1) := by decide +kernel
theorem d_Mo_copyAt_16 : decode prog_9_method_18_code 16 = .ok (.invokestatic 94, 3) := by decide +kernel
theorem d_Mo_copyAt_19 : decode prog_9_method_18_code 19 = .ok (.ifCond .eq (16), 3) := by decide +kernel
theorem d_Mo_copyAt_22 : decode prog_9_method_18_code 22 = .ok (.aload_n 0, 1) := by decide +kernel
theorem d_Mo_copyAt_23 : decode prog_9_method_18_code 23 = .ok (.getfield 17, 3) := by decide +kernel
theorem d_Mo_copyAt_26 : decode prog_9_method_18_code 26 = .ok (.iload_n 1, 1) := by decide +kernel
theorem d_Mo_copyAt_27 : decode prog_9_method_18_code 27 = .ok (.baload, 1) := by decide +kernel
theorem d_Mo_copyAt_28 : decode prog_9_method_18_code 28 = .ok (.ifCond .eq (7), 3) := by decide +kernel
theorem d_Mo_copyAt_31 : decode prog_9_method_18_code 31 = .ok (.iconst 1, 1) := by decide +kernel
theorem d_Mo_copyAt_32 : decode prog_9_method_18_code 32 = .ok (.goto (4), 3) := by decide +kernel
theorem d_Mo_copyAt_35 : decode prog_9_method_18_code 35 = .ok (.iconst 0, 1) := by decide +kernel
theorem d_Mo_copyAt_36 : decode prog_9_method_18_code 36 = .ok (.iconst 0, 1) := by decide +kernel
theorem d_Mo_copyAt_37 : decode prog_9_method_18_code 37 = .ok (.invokevirtual 129, 3) := by decide +kernel
theorem d_Mo_copyAt_40 : decode prog_9_method_18_code 40 = .ok (.ifCond .eq (4), 3) := by decide +kernel
theorem d_Mo_copyAt_43 : decode prog_9_method_18_code 43 = .ok (.return_, 1) := by decide +kernel
theorem d_Mo_copyAt_44 : decode prog_9_method_18_code 44 = .ok (.aload_n 0, 1) := by decide +kernel
theorem d_Mo_copyAt_45 : decode prog_9_method_18_code 45 = .ok (.getfield 17, 3) := by decide +kernel
theorem d_Mo_copyAt_48 : decode prog_9_method_18_code 48 = .ok (.iload_n 1, 1) := by decide +kernel
theorem d_Mo_copyAt_49 : decode prog_9_method_18_code 49 = .ok (.iconst 1, 1) := by decide +kernel
theorem d_Mo_copyAt_50 : decode prog_9_method_18_code 50 = .ok (.bastore, 1) := by decide +kernel
theorem d_Mo_copyAt_51 : decode prog_9_method_18_code 51 = .ok (.aload_n 0, 1) := by decide +kernel
theorem d_Mo_copyAt_52 : decode prog_9_method_18_code 52 = .ok (.getfield 38, 3) := by decide +kernel
theorem d_Mo_copyAt_55 : decode prog_9_method_18_code 55 = .ok (.iload_n 1, 1) := by decide +kernel
theorem d_Mo_copyAt_56 : decode prog_9_method_18_code 56 = .ok (.iload_n 2, 1) := by decide +kernel
theorem d_Mo_copyAt_57 : decode prog_9_method_18_code 57 = .ok (.iastore, 1) := by decide +kernel
theorem d_Mo_copyAt_58 : decode prog_9_method_18_code 58 = .ok (.iconst 0, 1) := by decide +kernel
theorem d_Mo_copyAt_59 : decode prog_9_method_18_code 59 = .ok (.istore_n 3, 1) := by decide +kernel
theorem d_Mo_copyAt_60 : decode prog_9_method_18_code 60 = .ok (.iload_n 3, 1) := by decide +kernel
theorem d_Mo_copyAt_61 : decode prog_9_method_18_code 61 = .ok (.aload_n 0, 1) := by decide +kernel
theorem d_Mo_copyAt_62 : decode prog_9_method_18_code 62 = .ok (.getfield 83, 3) := by decide +kernel
theorem d_Mo_copyAt_65 : decode prog_9_method_18_code 65 = .ok (.if_icmp .ge (65), 3) := by decide +kernel
theorem d_Mo_copyAt_68 : decode prog_9_method_18_code 68 = .ok (.aload_n 0, 1) := by decide +kernel
theorem d_Mo_copyAt_69 : decode prog_9_method_18_code 69 = .ok (.getfield 20, 3) := by decide +kernel
theorem d_Mo_copyAt_72 : decode prog_9_method_18_code 72 = .ok (.iload_n 3, 1) := by decide +kernel
theorem d_Mo_copyAt_73 : decode prog_9_method_18_code 73 = .ok (.iload_n 1, 1) := by decide +kernel
theorem d_Mo_copyAt_74 : decode prog_9_method_18_code 74 = .ok (.invokestatic 116, 3) := by decide +kernel
theorem d_Mo_copyAt_77 : decode prog_9_method_18_code 77 = .ok (.iload_n 3, 1) := by decide +kernel
theorem d_Mo_copyAt_78 : decode prog_9_method_18_code 78 = .ok (.iload_n 2, 1) := by decide +kernel
theorem d_Mo_copyAt_79 : decode prog_9_method_18_code 79 = .ok (.if_icmp .ne (7), 3) := by decide +kernel
theorem d_Mo_copyAt_82 : decode prog_9_method_18_code 82 = .ok (.iload_n 3, 1) := by decide +kernel
theorem d_Mo_copyAt_83 : decode prog_9_method_18_code 83 = .ok (.goto (9), 3) := by decide +kernel
theorem d_Mo_copyAt_86 : decode prog_9_method_18_code 86 = .ok (.aload_n 0, 1) := by decide +kernel
theorem d_Mo_copyAt_87 : decode prog_9_method_18_code 87 = .ok (.iload_n 3, 1) := by decide +kernel
theorem d_Mo_copyAt_88 : decode prog_9_method_18_code 88 = .ok (.iload_n 2, 1) := by decide +kernel
theorem d_Mo_copyAt_89 : decode prog_9_method_18_code 89 = .ok (.invokevirtual 133, 3) := by decide +kernel
theorem d_Mo_copyAt_92 : decode prog_9_method_18_code 92 = .ok (.iastore, 1) := by decide +kernel
theorem d_Mo_copyAt_93 : decode prog_9_method_18_code 93 = .ok (.aload_n 0, 1) := by decide +kernel
theorem d_Mo_copyAt_94 : decode prog_9_method_18_code 94 = .ok (.getfield 23, 3) := by decide +kernel
theorem d_Mo_copyAt_97 : decode prog_9_method_18_code 97 = .ok (.iload_n 3, 1) := by decide +kernel
theorem d_Mo_copyAt_98 : decode prog_9_method_18_code 98 = .ok (.iload_n 1, 1) := by decide +kernel
theorem d_Mo_copyAt_99 : decode prog_9_method_18_code 99 = .ok (.invokestatic 116, 3) := by decide +kernel
theorem d_Mo_copyAt_102 : decode prog_9_method_18_code 102 = .ok (.iconst (-1), 1) := by decide +kernel
theorem d_Mo_copyAt_103 : decode prog_9_method_18_code 103 = .ok (.iastore, 1) := by decide +kernel
theorem d_Mo_copyAt_104 : decode prog_9_method_18_code 104 = .ok (.aload_n 0, 1) := by decide +kernel
theorem d_Mo_copyAt_105 : decode prog_9_method_18_code 105 = .ok (.getfield 26, 3) := by decide +kernel
theorem d_Mo_copyAt_108 : decode prog_9_method_18_code 108 = .ok (.iload_n 3, 1) := by decide +kernel
theorem d_Mo_copyAt_109 : decode prog_9_method_18_code 109 = .ok (.iload_n 1, 1) := by decide +kernel
theorem d_Mo_copyAt_110 : decode prog_9_method_18_code 110 = .ok (.invokestatic 116, 3) := by decide +kernel
theorem d_Mo_copyAt_113 : decode prog_9_method_18_code 113 = .ok (.iload_n 3, 1) := by decide +kernel
theorem d_Mo_copyAt_114 : decode prog_9_method_18_code 114 = .ok (.iload_n 2, 1) := by decide +kernel
theorem d_Mo_copyAt_115 : decode prog_9_method_18_code 115 = .ok (.if_icmp .ne (7), 3) := by decide +kernel
theorem d_Mo_copyAt_118 : decode prog_9_method_18_code 118 = .ok (.iconst 4, 1) := by decide +kernel
theorem d_Mo_copyAt_119 : decode prog_9_method_18_code 119 = .ok (.goto (4), 3) := by decide +kernel
theorem d_Mo_copyAt_122 : decode prog_9_method_18_code 122 = .ok (.iconst 0, 1) := by decide +kernel
theorem d_Mo_copyAt_123 : decode prog_9_method_18_code 123 = .ok (.iastore, 1) := by decide +kernel
theorem d_Mo_copyAt_124 : decode prog_9_method_18_code 124 = .ok (.iinc 3 1, 3) := by decide +kernel
theorem d_Mo_copyAt_127 : decode prog_9_method_18_code 127 = .ok (.goto (-67), 3) := by decide +kernel
theorem d_Mo_copyAt_130 : decode prog_9_method_18_code 130 = .ok (.return_, 1) := by decide +kernel
theorem d_Mo_isQueued_0 : decode prog_9_method_19_code 0 = .ok (.iconst 0, 1) := by decide +kernel
theorem d_Mo_isQueued_1 : decode prog_9_method_19_code 1 = .ok (.istore_n 3, 1) := by decide +kernel
theorem d_Mo_isQueued_2 : decode prog_9_method_19_code 2 = .ok (.iconst 0, 1) := by decide +kernel
theorem d_Mo_isQueued_3 : decode prog_9_method_19_code 3 = .ok (.istore 4, 2) := by decide +kernel
theorem d_Mo_isQueued_5 : decode prog_9_method_19_code 5 = .ok (.iload 4, 2) := by decide +kernel
theorem d_Mo_isQueued_7 : decode prog_9_method_19_code 7 = .ok (.aload_n 0, 1) := by decide +kernel
theorem d_Mo_isQueued_8 : decode prog_9_method_19_code 8 = .ok (.getfield 32, 3) := by decide +kernel
theorem d_Mo_isQueued_11 : decode prog_9_method_19_code 11 = .ok (.iload_n 1, 1) := by decide +kernel
theorem d_Mo_isQueued_12 : decode prog_9_method_19_code 12 = .ok (.iaload, 1) := by decide +kernel
theorem d_Mo_isQueued_13 : decode prog_9_method_19_code 13 = .ok (.if_icmp .ge (34), 3) := by decide +kernel
theorem d_Mo_isQueued_16 : decode prog_9_method_19_code 16 = .ok (.iload_n 3, 1) := by decide +kernel
theorem d_Mo_isQueued_17 : decode prog_9_method_19_code 17 = .ok (.ifCond .ne (18), 3) := by decide +kernel
theorem d_Mo_isQueued_20 : decode prog_9_method_19_code 20 = .ok (.aload_n 0, 1) := by decide +kernel
theorem d_Mo_isQueued_21 : decode prog_9_method_19_code 21 = .ok (.getfield 35, 3) := by decide +kernel
theorem d_Mo_isQueued_24 : decode prog_9_method_19_code 24 = .ok (.iconst 4, 1) := by decide +kernel
theorem d_Mo_isQueued_25 : decode prog_9_method_19_code 25 = .ok (.iload_n 1, 1) := by decide +kernel
theorem d_Mo_isQueued_26 : decode prog_9_method_19_code 26 = .ok (.imul, 1) := by decide +kernel
theorem d_Mo_isQueued_27 : decode prog_9_method_19_code 27 = .ok (.iload 4, 2) := by decide +kernel
theorem d_Mo_isQueued_29 : decode prog_9_method_19_code 29 = .ok (.iadd, 1) := by decide +kernel
theorem d_Mo_isQueued_30 : decode prog_9_method_19_code 30 = .ok (.iaload, 1) := by decide +kernel
theorem d_Mo_isQueued_31 : decode prog_9_method_19_code 31 = .ok (.iload_n 2, 1) := by decide +kernel
theorem d_Mo_isQueued_32 : decode prog_9_method_19_code 32 = .ok (.if_icmp .ne (7), 3) := by decide +kernel
theorem d_Mo_isQueued_35 : decode prog_9_method_19_code 35 = .ok (.iconst 1, 1) := by decide +kernel
theorem d_Mo_isQueued_36 : decode prog_9_method_19_code 36 = .ok (.goto (4), 3) := by decide +kernel
theorem d_Mo_isQueued_39 : decode prog_9_method_19_code 39 = .ok (.iconst 0, 1) := by decide +kernel
theorem d_Mo_isQueued_40 : decode prog_9_method_19_code 40 = .ok (.istore_n 3, 1) := by decide +kernel
theorem d_Mo_isQueued_41 : decode prog_9_method_19_code 41 = .ok (.iinc 4 1, 3) := by decide +kernel
theorem d_Mo_isQueued_44 : decode prog_9_method_19_code 44 = .ok (.goto (-39), 3) := by decide +kernel
theorem d_Mo_isQueued_47 : decode prog_9_method_19_code 47 = .ok (.iload_n 3, 1) := by decide +kernel
theorem d_Mo_isQueued_48 : decode prog_9_method_19_code 48 = .ok (.ireturn, 1) := by decide +kernel
theorem d_Mo_want_0 : decode prog_9_method_20_code 0 = .ok (.aload_n 0, 1) := by decide +kernel
theorem d_Mo_want_1 : decode prog_9_method_20_code 1 = .ok (.iload_n 1, 1) := by decide +kernel
theorem d_Mo_want_2 : decode prog_9_method_20_code 2 = .ok (.iload_n 2, 1) := by decide +kernel
theorem d_Mo_want_3 : decode prog_9_method_20_code 3 = .ok (.invokevirtual 126, 3) := by decide +kernel
theorem d_Mo_want_6 : decode prog_9_method_20_code 6 = .ok (.ifCond .ne (7), 3) := by decide +kernel
theorem d_Mo_want_9 : decode prog_9_method_20_code 9 = .ok (.iconst 1, 1) := by decide +kernel
theorem d_Mo_want_10 : decode prog_9_method_20_code 10 = .ok (.goto (4), 3) := by decide +kernel
theorem d_Mo_want_13 : decode prog_9_method_20_code 13 = .ok (.iconst 0, 1) := by decide +kernel
theorem d_Mo_want_14 : decode prog_9_method_20_code 14 = .ok (.istore 4, 2) := by decide +kernel
theorem d_Mo_want_16 : decode prog_9_method_20_code 16 = .ok (.iload 4, 2) := by decide +kernel
theorem d_Mo_want_18 : decode prog_9_method_20_code 18 = .ok (.ifCond .eq (7), 3) := by decide +kernel
theorem d_Mo_want_21 : decode prog_9_method_20_code 21 = .ok (.iconst 0, 1) := by decide +kernel
theorem d_Mo_want_22 : decode prog_9_method_20_code 22 = .ok (.goto (8), 3) := by decide +kernel
theorem d_Mo_want_25 : decode prog_9_method_20_code 25 = .ok (.iload_n 1, 1) := by decide +kernel
theorem d_Mo_want_26 : decode prog_9_method_20_code 26 = .ok (.iload_n 2, 1) := by decide +kernel
theorem d_Mo_want_27 : decode prog_9_method_20_code 27 = .ok (.invokestatic 116, 3) := by decide +kernel
theorem d_Mo_want_30 : decode prog_9_method_20_code 30 = .ok (.istore 5, 2) := by decide +kernel
theorem d_Mo_want_32 : decode prog_9_method_20_code 32 = .ok (.iload 4, 2) := by decide +kernel
theorem d_Mo_want_34 : decode prog_9_method_20_code 34 = .ok (.ifCond .ne (46), 3) := by decide +kernel
theorem d_Mo_want_37 : decode prog_9_method_20_code 37 = .ok (.aload_n 0, 1) := by decide +kernel
theorem d_Mo_want_38 : decode prog_9_method_20_code 38 = .ok (.getfield 17, 3) := by decide +kernel
theorem d_Mo_want_41 : decode prog_9_method_20_code 41 = .ok (.iload_n 2, 1) := by decide +kernel
theorem d_Mo_want_42 : decode prog_9_method_20_code 42 = .ok (.baload, 1) := by decide +kernel
theorem d_Mo_want_43 : decode prog_9_method_20_code 43 = .ok (.ifCond .eq (33), 3) := by decide +kernel
theorem d_Mo_want_46 : decode prog_9_method_20_code 46 = .ok (.aload_n 0, 1) := by decide +kernel
theorem d_Mo_want_47 : decode prog_9_method_20_code 47 = .ok (.getfield 13, 3) := by decide +kernel
theorem d_Mo_want_50 : decode prog_9_method_20_code 50 = .ok (.iload_n 1, 1) := by decide +kernel
theorem d_Mo_want_51 : decode prog_9_method_20_code 51 = .ok (.baload, 1) := by decide +kernel
theorem d_Mo_want_52 : decode prog_9_method_20_code 52 = .ok (.ifCond .ne (24), 3) := by decide +kernel
theorem d_Mo_want_55 : decode prog_9_method_20_code 55 = .ok (.aload_n 0, 1) := by decide +kernel
theorem d_Mo_want_56 : decode prog_9_method_20_code 56 = .ok (.getfield 32, 3) := by decide +kernel
theorem d_Mo_want_59 : decode prog_9_method_20_code 59 = .ok (.iload 5, 2) := by decide +kernel
theorem d_Mo_want_61 : decode prog_9_method_20_code 61 = .ok (.iaload, 1) := by decide +kernel
theorem d_Mo_want_62 : decode prog_9_method_20_code 62 = .ok (.iconst 4, 1) := by decide +kernel
theorem d_Mo_want_63 : decode prog_9_method_20_code 63 = .ok (.if_icmp .eq (13), 3) := by decide +kernel
theorem d_Mo_want_66 : decode prog_9_method_20_code 66 = .ok (.aload_n 0, 1) := by decide +kernel
theorem d_Mo_want_67 : decode prog_9_method_20_code 67 = .ok (.iload 5, 2) := by decide +kernel
theorem d_Mo_want_69 : decode prog_9_method_20_code 69 = .ok (.iload_n 3, 1) := by decide +kernel
theorem d_Mo_want_70 : decode prog_9_method_20_code 70 = .ok (.invokevirtual 136, 3) := by decide +kernel
theorem d_Mo_want_73 : decode prog_9_method_20_code 73 = .ok (.ifCond .eq (7), 3) := by decide +kernel
theorem d_Mo_want_76 : decode prog_9_method_20_code 76 = .ok (.iconst 1, 1) := by decide +kernel
theorem d_Mo_want_77 : decode prog_9_method_20_code 77 = .ok (.goto (4), 3) := by decide +kernel
theorem d_Mo_want_80 : decode prog_9_method_20_code 80 = .ok (.iconst 0, 1) := by decide +kernel
theorem d_Mo_want_81 : decode prog_9_method_20_code 81 = .ok (.istore 6, 2) := by decide +kernel
theorem d_Mo_want_83 : decode prog_9_method_20_code 83 = .ok (.aload_n 0, 1) := by decide +kernel
theorem d_Mo_want_84 : decode prog_9_method_20_code 84 = .ok (.iload 4, 2) := by decide +kernel
theorem d_Mo_want_86 : decode prog_9_method_20_code 86 = .ok (.iload_n 3, 1) := by decide +kernel
theorem d_Mo_want_87 : decode prog_9_method_20_code 87 = .ok (.iconst 1, 1) := by decide +kernel
theorem d_Mo_want_88 : decode prog_9_method_20_code 88 = .ok (.if_icmp .lt (10), 3) := by decide +kernel
theorem d_Mo_want_91 : decode prog_9_method_20_code 91 = .ok (.iload_n 3, 1) := by decide +kernel
theorem d_Mo_want_92 : decode prog_9_method_20_code 92 = .ok (.sipush 1000, 3) := by decide +kernel
theorem d_Mo_want_95 : decode prog_9_method_20_code 95 = .ok (.if_icmp .le (7), 3) := by decide +kernel
theorem d_Mo_want_98 : decode prog_9_method_20_code 98 = .ok (.iconst 1, 1) := by decide +kernel
theorem d_Mo_want_99 : decode prog_9_method_20_code 99 = .ok (.goto (4), 3) := by decide +kernel
theorem d_Mo_want_102 : decode prog_9_method_20_code 102 = .ok (.iconst 0, 1) := by decide +kernel
theorem d_Mo_want_103 : decode prog_9_method_20_code 103 = .ok (.iload 6, 2) := by decide +kernel
theorem d_Mo_want_105 : decode prog_9_method_20_code 105 = .ok (.invokevirtual 129, 3) := by decide +kernel
theorem d_Mo_want_108 : decode prog_9_method_20_code 108 = .ok (.ifCond .eq (5), 3) := by decide +kernel
theorem d_Mo_want_111 : decode prog_9_method_20_code 111 = .ok (.iconst 0, 1) := by decide +kernel
theorem d_Mo_want_112 : decode prog_9_method_20_code 112 = .ok (.ireturn, 1) := by decide +kernel
theorem d_Mo_want_113 : decode prog_9_method_20_code 113 = .ok (.aload_n 0, 1) := by decide +kernel
theorem d_Mo_want_114 : decode prog_9_method_20_code 114 = .ok (.getfield 35, 3) := by decide +kernel
theorem d_Mo_want_117 : decode prog_9_method_20_code 117 = .ok (.iconst 4, 1) := by decide +kernel
theorem d_Mo_want_118 : decode prog_9_method_20_code 118 = .ok (.iload 5, 2) := by decide +kernel
theorem d_Mo_want_120 : decode prog_9_method_20_code 120 = .ok (.imul, 1) := by decide +kernel
theorem d_Mo_want_121 : decode prog_9_method_20_code 121 = .ok (.aload_n 0, 1) := by decide +kernel
theorem d_Mo_want_122 : decode prog_9_method_20_code 122 = .ok (.getfield 32, 3) := by decide +kernel
theorem d_Mo_want_125 : decode prog_9_method_20_code 125 = .ok (.iload 5, 2) := by decide +kernel
theorem d_Mo_want_127 : decode prog_9_method_20_code 127 = .ok (.iaload, 1) := by decide +kernel
theorem d_Mo_want_128 : decode prog_9_method_20_code 128 = .ok (.iadd, 1) := by decide +kernel
theorem d_Mo_want_129 : decode prog_9_method_20_code 129 = .ok (.iload_n 3, 1) := by decide +kernel
theorem d_Mo_want_130 : decode prog_9_method_20_code 130 = .ok (.iastore, 1) := by decide +kernel
theorem d_Mo_want_131 : decode prog_9_method_20_code 131 = .ok (.aload_n 0, 1) := by decide +kernel
theorem d_Mo_want_132 : decode prog_9_method_20_code 132 = .ok (.getfield 32, 3) := by decide +kernel
theorem d_Mo_want_135 : decode prog_9_method_20_code 135 = .ok (.iload 5, 2) := by decide +kernel
theorem d_Mo_want_137 : decode prog_9_method_20_code 137 = .ok (.dup2, 1) := by decide +kernel
theorem d_Mo_want_138 : decode prog_9_method_20_code 138 = .ok (.iaload, 1) := by decide +kernel
theorem d_Mo_want_139 : decode prog_9_method_20_code 139 = .ok (.iconst 1, 1) := by decide +kernel
theorem d_Mo_want_140 : decode prog_9_method_20_code 140 = .ok (.iadd, 1) := by decide +kernel
theorem d_Mo_want_141 : decode prog_9_method_20_code 141 = .ok (.iastore, 1) := by decide +kernel
theorem d_Mo_want_142 : decode prog_9_method_20_code 142 = .ok (.aload_n 0, 1) := by decide +kernel
theorem d_Mo_want_143 : decode prog_9_method_20_code 143 = .ok (.iload_n 1, 1) := by decide +kernel
theorem d_Mo_want_144 : decode prog_9_method_20_code 144 = .ok (.iload_n 2, 1) := by decide +kernel
theorem d_Mo_want_145 : decode prog_9_method_20_code 145 = .ok (.invokevirtual 139, 3) := by decide +kernel
theorem d_Mo_want_148 : decode prog_9_method_20_code 148 = .ok (.aload_n 0, 1) := by decide +kernel
theorem d_Mo_want_149 : decode prog_9_method_20_code 149 = .ok (.getfield 26, 3) := by decide +kernel
theorem d_Mo_want_152 : decode prog_9_method_20_code 152 = .ok (.iload 5, 2) := by decide +kernel
theorem d_Mo_want_154 : decode prog_9_method_20_code 154 = .ok (.iaload, 1) := by decide +kernel
theorem d_Mo_want_155 : decode prog_9_method_20_code 155 = .ok (.ireturn, 1) := by decide +kernel
theorem d_Mo_lend_0 : decode prog_9_method_21_code 0 = .ok (.aload_n 0, 1) := by decide +kernel
theorem d_Mo_lend_1 : decode prog_9_method_21_code 1 = .ok (.iload_n 1, 1) := by decide +kernel
theorem d_Mo_lend_2 : decode prog_9_method_21_code 2 = .ok (.iload_n 2, 1) := by decide +kernel
theorem d_Mo_lend_3 : decode prog_9_method_21_code 3 = .ok (.invokevirtual 126, 3) := by decide +kernel
theorem d_Mo_lend_6 : decode prog_9_method_21_code 6 = .ok (.ifCond .ne (7), 3) := by decide +kernel
theorem d_Mo_lend_9 : decode prog_9_method_21_code 9 = .ok (.iconst 1, 1) := by decide +kernel
theorem d_Mo_lend_10 : decode prog_9_method_21_code 10 = .ok (.goto (4), 3) := by decide +kernel
theorem d_Mo_lend_13 : decode prog_9_method_21_code 13 = .ok (.iconst 0, 1) := by decide +kernel
theorem d_Mo_lend_14 : decode prog_9_method_21_code 14 = .ok (.istore_n 3, 1) := by decide +kernel
theorem d_Mo_lend_15 : decode prog_9_method_21_code 15 = .ok (.iload_n 3, 1) := by decide +kernel
theorem d_Mo_lend_16 : decode prog_9_method_21_code 16 = .ok (.ifCond .eq (7), 3) := by decide +kernel
theorem d_Mo_lend_19 : decode prog_9_method_21_code 19 = .ok (.iconst 0, 1) := by decide +kernel
theorem d_Mo_lend_20 : decode prog_9_method_21_code 20 = .ok (.goto (8), 3) := by decide +kernel
theorem d_Mo_lend_23 : decode prog_9_method_21_code 23 = .ok (.iload_n 1, 1) := by decide +kernel
theorem d_Mo_lend_24 : decode prog_9_method_21_code 24 = .ok (.iload_n 2, 1) := by decide +kernel
theorem d_Mo_lend_25 : decode prog_9_method_21_code 25 = .ok (.invokestatic 116, 3) := by decide +kernel
theorem d_Mo_lend_28 : decode prog_9_method_21_code 28 = .ok (.istore 4, 2) := by decide +kernel
theorem d_Mo_lend_30 : decode prog_9_method_21_code 30 = .ok (.aload_n 0, 1) := by decide +kernel
theorem d_Mo_lend_31 : decode prog_9_method_21_code 31 = .ok (.iload_n 3, 1) := by decide +kernel
theorem d_Mo_lend_32 : decode prog_9_method_21_code 32 = .ok (.iload_n 3, 1) := by decide +kernel
theorem d_Mo_lend_33 : decode prog_9_method_21_code 33 = .ok (.ifCond .ne (36), 3) := by decide +kernel
theorem d_Mo_lend_36 : decode prog_9_method_21_code 36 = .ok (.aload_n 0, 1) := by decide +kernel
theorem d_Mo_lend_37 : decode prog_9_method_21_code 37 = .ok (.getfield 13, 3) := by decide +kernel
theorem d_Mo_lend_40 : decode prog_9_method_21_code 40 = .ok (.iload_n 1, 1) := by decide +kernel
theorem d_Mo_lend_41 : decode prog_9_method_21_code 41 = .ok (.baload, 1) := by decide +kernel
theorem d_Mo_lend_42 : decode prog_9_method_21_code 42 = .ok (.ifCond .ne (23), 3) := by decide +kernel
theorem d_Mo_lend_45 : decode prog_9_method_21_code 45 = .ok (.aload_n 0, 1) := by decide +kernel
theorem d_Mo_lend_46 : decode prog_9_method_21_code 46 = .ok (.getfield 17, 3) := by decide +kernel
theorem d_Mo_lend_49 : decode prog_9_method_21_code 49 = .ok (.iload_n 2, 1) := by decide +kernel
theorem d_Mo_lend_50 : decode prog_9_method_21_code 50 = .ok (.baload, 1) := by decide +kernel
theorem d_Mo_lend_51 : decode prog_9_method_21_code 51 = .ok (.ifCond .eq (14), 3) := by decide +kernel
theorem d_Mo_lend_54 : decode prog_9_method_21_code 54 = .ok (.aload_n 0, 1) := by decide +kernel
theorem d_Mo_lend_55 : decode prog_9_method_21_code 55 = .ok (.getfield 26, 3) := by decide +kernel
theorem d_Mo_lend_58 : decode prog_9_method_21_code 58 = .ok (.iload 4, 2) := by decide +kernel
theorem d_Mo_lend_60 : decode prog_9_method_21_code 60 = .ok (.iaload, 1) := by decide +kernel
theorem d_Mo_lend_61 : decode prog_9_method_21_code 61 = .ok (.iconst 2, 1) := by decide +kernel
theorem d_Mo_lend_62 : decode prog_9_method_21_code 62 = .ok (.if_icmp .eq (7), 3) := by decide +kernel
theorem d_Mo_lend_65 : decode prog_9_method_21_code 65 = .ok (.iconst 1, 1) := by decide +kernel
theorem d_Mo_lend_66 : decode prog_9_method_21_code 66 = .ok (.goto (4), 3) := by decide +kernel
theorem d_Mo_lend_69 : decode prog_9_method_21_code 69 = .ok (.iconst 0, 1) := by decide +kernel
theorem d_Mo_lend_70 : decode prog_9_method_21_code 70 = .ok (.iconst 0, 1) := by decide +kernel
theorem d_Mo_lend_71 : decode prog_9_method_21_code 71 = .ok (.invokevirtual 129, 3) := by decide +kernel
theorem d_Mo_lend_74 : decode prog_9_method_21_code 74 = .ok (.ifCond .eq (5), 3) := by decide +kernel
theorem d_Mo_lend_77 : decode prog_9_method_21_code 77 = .ok (.iconst 0, 1) := by decide +kernel
theorem d_Mo_lend_78 : decode prog_9_method_21_code 78 = .ok (.ireturn, 1) := by decide +kernel
theorem d_Mo_lend_79 : decode prog_9_method_21_code 79 = .ok (.aload_n 0, 1) := by decide +kernel
theorem d_Mo_lend_80 : decode prog_9_method_21_code 80 = .ok (.getfield 29, 3) := by decide +kernel
theorem d_Mo_lend_83 : decode prog_9_method_21_code 83 = .ok (.iload 4, 2) := by decide +kernel
theorem d_Mo_lend_85 : decode prog_9_method_21_code 85 = .ok (.aload_n 0, 1) := by decide +kernel
theorem d_Mo_lend_86 : decode prog_9_method_21_code 86 = .ok (.getfield 35, 3) := by decide +kernel
theorem d_Mo_lend_89 : decode prog_9_method_21_code 89 = .ok (.iconst 4, 1) := by decide +kernel
theorem d_Mo_lend_90 : decode prog_9_method_21_code 90 = .ok (.iload 4, 2) := by decide +kernel
theorem d_Mo_lend_92 : decode prog_9_method_21_code 92 = .ok (.imul, 1) := by decide +kernel
theorem d_Mo_lend_93 : decode prog_9_method_21_code 93 = .ok (.iaload, 1) := by decide +kernel
theorem d_Mo_lend_94 : decode prog_9_method_21_code 94 = .ok (.iastore, 1) := by decide +kernel
theorem d_Mo_lend_95 : decode prog_9_method_21_code 95 = .ok (.aload_n 0, 1) := by decide +kernel
theorem d_Mo_lend_96 : decode prog_9_method_21_code 96 = .ok (.getfield 32, 3) := by decide +kernel
theorem d_Mo_lend_99 : decode prog_9_method_21_code 99 = .ok (.iload 4, 2) := by decide +kernel
theorem d_Mo_lend_101 : decode prog_9_method_21_code 101 = .ok (.dup2, 1) := by decide +kernel
theorem d_Mo_lend_102 : decode prog_9_method_21_code 102 = .ok (.iaload, 1) := by decide +kernel
theorem d_Mo_lend_103 : decode prog_9_method_21_code 103 = .ok (.iconst 1, 1) := by decide +kernel
theorem d_Mo_lend_104 : decode prog_9_method_21_code 104 = .ok (.isub, 1) := by decide +kernel
theorem d_Mo_lend_105 : decode prog_9_method_21_code 105 = .ok (.iastore, 1) := by decide +kernel
theorem d_Mo_lend_106 : decode prog_9_method_21_code 106 = .ok (.iconst 0, 1) := by decide +kernel
theorem d_Mo_lend_107 : decode prog_9_method_21_code 107 = .ok (.istore 5, 2) := by decide +kernel
theorem d_Mo_lend_109 : decode prog_9_method_21_code 109 = .ok (.iload 5, 2) := by decide +kernel
theorem d_Mo_lend_111 : decode prog_9_method_21_code 111 = .ok (.aload_n 0, 1) := by decide +kernel
theorem d_Mo_lend_112 : decode prog_9_method_21_code 112 = .ok (.getfield 32, 3) := by decide +kernel
theorem d_Mo_lend_115 : decode prog_9_method_21_code 115 = .ok (.iload 4, 2) := by decide +kernel
theorem d_Mo_lend_117 : decode prog_9_method_21_code 117 = .ok (.iaload, 1) := by decide +kernel
theorem d_Mo_lend_118 : decode prog_9_method_21_code 118 = .ok (.if_icmp .ge (35), 3) := by decide +kernel
theorem d_Mo_lend_121 : decode prog_9_method_21_code 121 = .ok (.aload_n 0, 1) := by decide +kernel
theorem d_Mo_lend_122 : decode prog_9_method_21_code 122 = .ok (.getfield 35, 3) := by decide +kernel
theorem d_Mo_lend_125 : decode prog_9_method_21_code 125 = .ok (.iconst 4, 1) := by decide +kernel
theorem d_Mo_lend_126 : decode prog_9_method_21_code 126 = .ok (.iload 4, 2) := by decide +kernel
theorem d_Mo_lend_128 : decode prog_9_method_21_code 128 = .ok (.imul, 1) := by decide +kernel
theorem d_Mo_lend_129 : decode prog_9_method_21_code 129 = .ok (.iload 5, 2) := by decide +kernel
theorem d_Mo_lend_131 : decode prog_9_method_21_code 131 = .ok (.iadd, 1) := by decide +kernel
theorem d_Mo_lend_132 : decode prog_9_method_21_code 132 = .ok (.aload_n 0, 1) := by decide +kernel
theorem d_Mo_lend_133 : decode prog_9_method_21_code 133 = .ok (.getfield 35, 3) := by decide +kernel
theorem d_Mo_lend_136 : decode prog_9_method_21_code 136 = .ok (.iconst 4, 1) := by decide +kernel
theorem d_Mo_lend_137 : decode prog_9_method_21_code 137 = .ok (.iload 4, 2) := by decide +kernel
theorem d_Mo_lend_139 : decode prog_9_method_21_code 139 = .ok (.imul, 1) := by decide +kernel
theorem d_Mo_lend_140 : decode prog_9_method_21_code 140 = .ok (.iload 5, 2) := by decide +kernel
theorem d_Mo_lend_142 : decode prog_9_method_21_code 142 = .ok (.iadd, 1) := by decide +kernel
theorem d_Mo_lend_143 : decode prog_9_method_21_code 143 = .ok (.iconst 1, 1) := by decide +kernel
theorem d_Mo_lend_144 : decode prog_9_method_21_code 144 = .ok (.iadd, 1) := by decide +kernel
theorem d_Mo_lend_145 : decode prog_9_method_21_code 145 = .ok (.iaload, 1) := by decide +kernel
theorem d_Mo_lend_146 : decode prog_9_method_21_code 146 = .ok (.iastore, 1) := by decide +kernel
theorem d_Mo_lend_147 : decode prog_9_method_21_code 147 = .ok (.iinc 5 1, 3) := by decide +kernel
theorem d_Mo_lend_150 : decode prog_9_method_21_code 150 = .ok (.goto (-41), 3) := by decide +kernel
theorem d_Mo_lend_153 : decode prog_9_method_21_code 153 = .ok (.aload_n 0, 1) := by decide +kernel
theorem d_Mo_lend_154 : decode prog_9_method_21_code 154 = .ok (.getfield 26, 3) := by decide +kernel
theorem d_Mo_lend_157 : decode prog_9_method_21_code 157 = .ok (.iload 4, 2) := by decide +kernel
theorem d_Mo_lend_159 : decode prog_9_method_21_code 159 = .ok (.iconst 3, 1) := by decide +kernel
theorem d_Mo_lend_160 : decode prog_9_method_21_code 160 = .ok (.iastore, 1) := by decide +kernel
theorem d_Mo_lend_161 : decode prog_9_method_21_code 161 = .ok (.aload_n 0, 1) := by decide +kernel
theorem d_Mo_lend_162 : decode prog_9_method_21_code 162 = .ok (.getfield 29, 3) := by decide +kernel
theorem d_Mo_lend_165 : decode prog_9_method_21_code 165 = .ok (.iload 4, 2) := by decide +kernel
theorem d_Mo_lend_167 : decode prog_9_method_21_code 167 = .ok (.iaload, 1) := by decide +kernel
theorem d_Mo_lend_168 : decode prog_9_method_21_code 168 = .ok (.ireturn, 1) := by decide +kernel
theorem d_Mo_giveBack_0 : decode prog_9_method_22_code 0 = .ok (.aload_n 0, 1) := by decide +kernel
theorem d_Mo_giveBack_1 : decode prog_9_method_22_code 1 = .ok (.iload_n 1, 1) := by decide +kernel
theorem d_Mo_giveBack_2 : decode prog_9_method_22_code 2 = .ok (.iload_n 2, 1) := by decide +kernel
theorem d_Mo_giveBack_3 : decode prog_9_method_22_code 3 = .ok (.invokevirtual 126, 3) := by decide +kernel
theorem d_Mo_giveBack_6 : decode prog_9_method_22_code 6 = .ok (.ifCond .ne (7), 3) := by decide +kernel
theorem d_Mo_giveBack_9 : decode prog_9_method_22_code 9 = .ok (.iconst 1, 1) := by decide +kernel
theorem d_Mo_giveBack_10 : decode prog_9_method_22_code 10 = .ok (.goto (4), 3) := by decide +kernel
theorem d_Mo_giveBack_13 : decode prog_9_method_22_code 13 = .ok (.iconst 0, 1) := by decide +kernel
theorem d_Mo_giveBack_14 : decode prog_9_method_22_code 14 = .ok (.istore_n 3, 1) := by decide +kernel
theorem d_Mo_giveBack_15 : decode prog_9_method_22_code 15 = .ok (.iload_n 3, 1) := by decide +kernel
theorem d_Mo_giveBack_16 : decode prog_9_method_22_code 16 = .ok (.ifCond .eq (7), 3) := by decide +kernel
theorem d_Mo_giveBack_19 : decode prog_9_method_22_code 19 = .ok (.iconst 0, 1) := by decide +kernel
theorem d_Mo_giveBack_20 : decode prog_9_method_22_code 20 = .ok (.goto (8), 3) := by decide +kernel
theorem d_Mo_giveBack_23 : decode prog_9_method_22_code 23 = .ok (.iload_n 1, 1) := by decide +kernel
theorem d_Mo_giveBack_24 : decode prog_9_method_22_code 24 = .ok (.iload_n 2, 1) := by decide +kernel
theorem d_Mo_giveBack_25 : decode prog_9_method_22_code 25 = .ok (.invokestatic 116, 3) := by decide +kernel
theorem d_Mo_giveBack_28 : decode prog_9_method_22_code 28 = .ok (.istore 4, 2) := by decide +kernel
theorem d_Mo_giveBack_30 : decode prog_9_method_22_code 30 = .ok (.aload_n 0, 1) := by decide +kernel
theorem d_Mo_giveBack_31 : decode prog_9_method_22_code 31 = .ok (.iload_n 3, 1) := by decide +kernel
theorem d_Mo_giveBack_32 : decode prog_9_method_22_code 32 = .ok (.iload_n 3, 1) := by decide +kernel
theorem d_Mo_giveBack_33 : decode prog_9_method_22_code 33 = .ok (.ifCond .ne (36), 3) := by decide +kernel
theorem d_Mo_giveBack_36 : decode prog_9_method_22_code 36 = .ok (.aload_n 0, 1) := by decide +kernel
theorem d_Mo_giveBack_37 : decode prog_9_method_22_code 37 = .ok (.getfield 13, 3) := by decide +kernel
theorem d_Mo_giveBack_40 : decode prog_9_method_22_code 40 = .ok (.iload_n 1, 1) := by decide +kernel
theorem d_Mo_giveBack_41 : decode prog_9_method_22_code 41 = .ok (.baload, 1) := by decide +kernel
theorem d_Mo_giveBack_42 : decode prog_9_method_22_code 42 = .ok (.ifCond .ne (23), 3) := by decide +kernel
theorem d_Mo_giveBack_45 : decode prog_9_method_22_code 45 = .ok (.aload_n 0, 1) := by decide +kernel
theorem d_Mo_giveBack_46 : decode prog_9_method_22_code 46 = .ok (.getfield 17, 3) := by decide +kernel
theorem d_Mo_giveBack_49 : decode prog_9_method_22_code 49 = .ok (.iload_n 2, 1) := by decide +kernel
theorem d_Mo_giveBack_50 : decode prog_9_method_22_code 50 = .ok (.baload, 1) := by decide +kernel
theorem d_Mo_giveBack_51 : decode prog_9_method_22_code 51 = .ok (.ifCond .eq (14), 3) := by decide +kernel
theorem d_Mo_giveBack_54 : decode prog_9_method_22_code 54 = .ok (.aload_n 0, 1) := by decide +kernel
theorem d_Mo_giveBack_55 : decode prog_9_method_22_code 55 = .ok (.getfield 26, 3) := by decide +kernel
theorem d_Mo_giveBack_58 : decode prog_9_method_22_code 58 = .ok (.iload 4, 2) := by decide +kernel
theorem d_Mo_giveBack_60 : decode prog_9_method_22_code 60 = .ok (.iaload, 1) := by decide +kernel
theorem d_Mo_giveBack_61 : decode prog_9_method_22_code 61 = .ok (.iconst 3, 1) := by decide +kernel
theorem d_Mo_giveBack_62 : decode prog_9_method_22_code 62 = .ok (.if_icmp .eq (7), 3) := by decide +kernel
theorem d_Mo_giveBack_65 : decode prog_9_method_22_code 65 = .ok (.iconst 1, 1) := by decide +kernel
theorem d_Mo_giveBack_66 : decode prog_9_method_22_code 66 = .ok (.goto (4), 3) := by decide +kernel
theorem d_Mo_giveBack_69 : decode prog_9_method_22_code 69 = .ok (.iconst 0, 1) := by decide +kernel
theorem d_Mo_giveBack_70 : decode prog_9_method_22_code 70 = .ok (.iconst 0, 1) := by decide +kernel
theorem d_Mo_giveBack_71 : decode prog_9_method_22_code 71 = .ok (.invokevirtual 129, 3) := by decide +kernel
theorem d_Mo_giveBack_74 : decode prog_9_method_22_code 74 = .ok (.ifCond .eq (5), 3) := by decide +kernel
theorem d_Mo_giveBack_77 : decode prog_9_method_22_code 77 = .ok (.iconst 0, 1) := by decide +kernel
theorem d_Mo_giveBack_78 : decode prog_9_method_22_code 78 = .ok (.ireturn, 1) := by decide +kernel
theorem d_Mo_giveBack_79 : decode prog_9_method_22_code 79 = .ok (.aload_n 0, 1) := by decide +kernel
theorem d_Mo_giveBack_80 : decode prog_9_method_22_code 80 = .ok (.getfield 44, 3) := by decide +kernel
theorem d_Mo_giveBack_83 : decode prog_9_method_22_code 83 = .ok (.iload_n 2, 1) := by decide +kernel
theorem d_Mo_giveBack_84 : decode prog_9_method_22_code 84 = .ok (.iaload, 1) := by decide +kernel
theorem d_Mo_giveBack_85 : decode prog_9_method_22_code 85 = .ok (.sipush 200, 3) := by decide +kernel
theorem d_Mo_giveBack_88 : decode prog_9_method_22_code 88 = .ok (.if_icmp .ge (31), 3) := by decide +kernel
theorem d_Mo_giveBack_91 : decode prog_9_method_22_code 91 = .ok (.aload_n 0, 1) := by decide +kernel
theorem d_Mo_giveBack_92 : decode prog_9_method_22_code 92 = .ok (.getfield 47, 3) := by decide +kernel
theorem d_Mo_giveBack_95 : decode prog_9_method_22_code 95 = .ok (.sipush 200, 3) := by decide +kernel
theorem d_Mo_giveBack_98 : decode prog_9_method_22_code 98 = .ok (.iload_n 2, 1) := by decide +kernel
theorem d_Mo_giveBack_99 : decode prog_9_method_22_code 99 = .ok (.imul, 1) := by decide +kernel
theorem d_Mo_giveBack_100 : decode prog_9_method_22_code 100 = .ok (.aload_n 0, 1) := by decide +kernel
theorem d_Mo_giveBack_101 : decode prog_9_method_22_code 101 = .ok (.getfield 44, 3) := by decide +kernel
theorem d_Mo_giveBack_104 : decode prog_9_method_22_code 104 = .ok (.iload_n 2, 1) := by decide +kernel
theorem d_Mo_giveBack_105 : decode prog_9_method_22_code 105 = .ok (.iaload, 1) := by decide +kernel
theorem d_Mo_giveBack_106 : decode prog_9_method_22_code 106 = .ok (.iadd, 1) := by decide +kernel
theorem d_Mo_giveBack_107 : decode prog_9_method_22_code 107 = .ok (.iload_n 1, 1) := by decide +kernel
theorem d_Mo_giveBack_108 : decode prog_9_method_22_code 108 = .ok (.iastore, 1) := by decide +kernel
theorem d_Mo_giveBack_109 : decode prog_9_method_22_code 109 = .ok (.aload_n 0, 1) := by decide +kernel
theorem d_Mo_giveBack_110 : decode prog_9_method_22_code 110 = .ok (.getfield 44, 3) := by decide +kernel
theorem d_Mo_giveBack_113 : decode prog_9_method_22_code 113 = .ok (.iload_n 2, 1) := by decide +kernel
theorem d_Mo_giveBack_114 : decode prog_9_method_22_code 114 = .ok (.dup2, 1) := by decide +kernel
theorem d_Mo_giveBack_115 : decode prog_9_method_22_code 115 = .ok (.iaload, 1) := by decide +kernel
theorem d_Mo_giveBack_116 : decode prog_9_method_22_code 116 = .ok (.iconst 1, 1) := by decide +kernel
theorem d_Mo_giveBack_117 : decode prog_9_method_22_code 117 = .ok (.iadd, 1) := by decide +kernel
theorem d_Mo_giveBack_118 : decode prog_9_method_22_code 118 = .ok (.iastore, 1) := by decide +kernel
theorem d_Mo_giveBack_119 : decode prog_9_method_22_code 119 = .ok (.aload_n 0, 1) := by decide +kernel
theorem d_Mo_giveBack_120 : decode prog_9_method_22_code 120 = .ok (.getfield 29, 3) := by decide +kernel
theorem d_Mo_giveBack_123 : decode prog_9_method_22_code 123 = .ok (.iload 4, 2) := by decide +kernel
theorem d_Mo_giveBack_125 : decode prog_9_method_22_code 125 = .ok (.iconst 0, 1) := by decide +kernel
theorem d_Mo_giveBack_126 : decode prog_9_method_22_code 126 = .ok (.iastore, 1) := by decide +kernel
theorem d_Mo_giveBack_127 : decode prog_9_method_22_code 127 = .ok (.aload_n 0, 1) := by decide +kernel
theorem d_Mo_giveBack_128 : decode prog_9_method_22_code 128 = .ok (.getfield 23, 3) := by decide +kernel
theorem d_Mo_giveBack_131 : decode prog_9_method_22_code 131 = .ok (.iload 4, 2) := by decide +kernel
theorem d_Mo_giveBack_133 : decode prog_9_method_22_code 133 = .ok (.iaload, 1) := by decide +kernel
theorem d_Mo_giveBack_134 : decode prog_9_method_22_code 134 = .ok (.ifCond .lt (12), 3) := by decide +kernel
theorem d_Mo_giveBack_137 : decode prog_9_method_22_code 137 = .ok (.aload_n 0, 1) := by decide +kernel
theorem d_Mo_giveBack_138 : decode prog_9_method_22_code 138 = .ok (.iload_n 1, 1) := by decide +kernel
theorem d_Mo_giveBack_139 : decode prog_9_method_22_code 139 = .ok (.iload_n 2, 1) := by decide +kernel
theorem d_Mo_giveBack_140 : decode prog_9_method_22_code 140 = .ok (.invokevirtual 123, 3) := by decide +kernel
theorem d_Mo_giveBack_143 : decode prog_9_method_22_code 143 = .ok (.goto (11), 3) := by decide +kernel
theorem d_Mo_giveBack_146 : decode prog_9_method_22_code 146 = .ok (.aload_n 0, 1) := by decide +kernel
theorem d_Mo_giveBack_147 : decode prog_9_method_22_code 147 = .ok (.getfield 26, 3) := by decide +kernel
theorem d_Mo_giveBack_150 : decode prog_9_method_22_code 150 = .ok (.iload 4, 2) := by decide +kernel
theorem d_Mo_giveBack_152 : decode prog_9_method_22_code 152 = .ok (.iconst 4, 1) := by decide +kernel
theorem d_Mo_giveBack_153 : decode prog_9_method_22_code 153 = .ok (.iastore, 1) := by decide +kernel
theorem d_Mo_giveBack_154 : decode prog_9_method_22_code 154 = .ok (.aload_n 0, 1) := by decide +kernel
theorem d_Mo_giveBack_155 : decode prog_9_method_22_code 155 = .ok (.getfield 32, 3) := by decide +kernel
theorem d_Mo_giveBack_158 : decode prog_9_method_22_code 158 = .ok (.iload 4, 2) := by decide +kernel
theorem d_Mo_giveBack_160 : decode prog_9_method_22_code 160 = .ok (.iaload, 1) := by decide +kernel
theorem d_Mo_giveBack_161 : decode prog_9_method_22_code 161 = .ok (.ifCond .le (9), 3) := by decide +kernel
theorem d_Mo_giveBack_164 : decode prog_9_method_22_code 164 = .ok (.aload_n 0, 1) := by decide +kernel
theorem d_Mo_giveBack_165 : decode prog_9_method_22_code 165 = .ok (.iload_n 1, 1) := by decide +kernel
theorem d_Mo_giveBack_166 : decode prog_9_method_22_code 166 = .ok (.iload_n 2, 1) := by decide +kernel
theorem d_Mo_giveBack_167 : decode prog_9_method_22_code 167 = .ok (.invokevirtual 139, 3) := by decide +kernel
theorem d_Mo_giveBack_170 : decode prog_9_method_22_code 170 = .ok (.aload_n 0, 1) := by decide +kernel
theorem d_Mo_giveBack_171 : decode prog_9_method_22_code 171 = .ok (.getfield 26, 3) := by decide +kernel
theorem d_Mo_giveBack_174 : decode prog_9_method_22_code 174 = .ok (.iload 4, 2) := by decide +kernel
theorem d_Mo_giveBack_176 : decode prog_9_method_22_code 176 = .ok (.iaload, 1) := by decide +kernel
theorem d_Mo_giveBack_177 : decode prog_9_method_22_code 177 = .ok (.ireturn, 1) := by decide +kernel
theorem d_Mo_van_0 : decode prog_9_method_23_code 0 = .ok (.aload_n 0, 1) := by decide +kernel
theorem d_Mo_van_1 : decode prog_9_method_23_code 1 = .ok (.iload_n 1, 1) := by decide +kernel
theorem d_Mo_van_2 : decode prog_9_method_23_code 2 = .ok (.invokestatic 94, 3) := by decide +kernel
theorem d_Mo_van_5 : decode prog_9_method_23_code 5 = .ok (.ifCond .ne (7), 3) := by decide +kernel
theorem d_Mo_van_8 : decode prog_9_method_23_code 8 = .ok (.iconst 1, 1) := by decide +kernel
theorem d_Mo_van_9 : decode prog_9_method_23_code 9 = .ok (.goto (4), 3) := by decide +kernel
theorem d_Mo_van_12 : decode prog_9_method_23_code 12 = .ok (.iconst 0, 1) := by decide +kernel
theorem d_Mo_van_13 : decode prog_9_method_23_code 13 = .ok (.iload_n 1, 1) := by decide +kernel
theorem d_Mo_van_14 : decode prog_9_method_23_code 14 = .ok (.invokestatic 94, 3) := by decide +kernel
theorem d_Mo_van_17 : decode prog_9_method_23_code 17 = .ok (.ifCond .eq (16), 3) := by decide +kernel
theorem d_Mo_van_20 : decode prog_9_method_23_code 20 = .ok (.aload_n 0, 1) := by decide +kernel
theorem d_Mo_van_21 : decode prog_9_method_23_code 21 = .ok (.getfield 41, 3) := by decide +kernel
theorem d_Mo_van_24 : decode prog_9_method_23_code 24 = .ok (.iload_n 1, 1) := by decide +kernel
theorem d_Mo_van_25 : decode prog_9_method_23_code 25 = .ok (.baload, 1) := by decide +kernel
theorem d_Mo_van_26 : decode prog_9_method_23_code 26 = .ok (.ifCond .ne (7), 3) := by decide +kernel
theorem d_Mo_van_29 : decode prog_9_method_23_code 29 = .ok (.iconst 1, 1) := by decide +kernel
theorem d_Mo_van_30 : decode prog_9_method_23_code 30 = .ok (.goto (4), 3) := by decide +kernel
theorem d_Mo_van_33 : decode prog_9_method_23_code 33 = .ok (.iconst 0, 1) := by decide +kernel
theorem d_Mo_van_34 : decode prog_9_method_23_code 34 = .ok (.iconst 0, 1) := by decide +kernel
theorem d_Mo_van_35 : decode prog_9_method_23_code 35 = .ok (.invokevirtual 129, 3) := by decide +kernel
theorem d_Mo_van_38 : decode prog_9_method_23_code 38 = .ok (.ifCond .eq (5), 3) := by decide +kernel
theorem d_Mo_van_41 : decode prog_9_method_23_code 41 = .ok (.iconst 0, 1) := by decide +kernel
theorem d_Mo_van_42 : decode prog_9_method_23_code 42 = .ok (.ireturn, 1) := by decide +kernel
theorem d_Mo_van_43 : decode prog_9_method_23_code 43 = .ok (.aload_n 0, 1) := by decide +kernel
theorem d_Mo_van_44 : decode prog_9_method_23_code 44 = .ok (.getfield 41, 3) := by decide +kernel
theorem d_Mo_van_47 : decode prog_9_method_23_code 47 = .ok (.iload_n 1, 1) := by decide +kernel
theorem d_Mo_van_48 : decode prog_9_method_23_code 48 = .ok (.iconst 0, 1) := by decide +kernel
theorem d_Mo_van_49 : decode prog_9_method_23_code 49 = .ok (.bastore, 1) := by decide +kernel
theorem d_Mo_van_50 : decode prog_9_method_23_code 50 = .ok (.aload_n 0, 1) := by decide +kernel
theorem d_Mo_van_51 : decode prog_9_method_23_code 51 = .ok (.getfield 38, 3) := by decide +kernel
theorem d_Mo_van_54 : decode prog_9_method_23_code 54 = .ok (.iload_n 1, 1) := by decide +kernel
theorem d_Mo_van_55 : decode prog_9_method_23_code 55 = .ok (.iaload, 1) := by decide +kernel
theorem d_Mo_van_56 : decode prog_9_method_23_code 56 = .ok (.iload_n 1, 1) := by decide +kernel
theorem d_Mo_van_57 : decode prog_9_method_23_code 57 = .ok (.invokestatic 116, 3) := by decide +kernel
theorem d_Mo_van_60 : decode prog_9_method_23_code 60 = .ok (.istore_n 2, 1) := by decide +kernel
theorem d_Mo_van_61 : decode prog_9_method_23_code 61 = .ok (.aload_n 0, 1) := by decide +kernel
theorem d_Mo_van_62 : decode prog_9_method_23_code 62 = .ok (.getfield 26, 3) := by decide +kernel
theorem d_Mo_van_65 : decode prog_9_method_23_code 65 = .ok (.iload_n 2, 1) := by decide +kernel
theorem d_Mo_van_66 : decode prog_9_method_23_code 66 = .ok (.aload_n 0, 1) := by decide +kernel
theorem d_Mo_van_67 : decode prog_9_method_23_code 67 = .ok (.getfield 26, 3) := by decide +kernel
theorem d_Mo_van_70 : decode prog_9_method_23_code 70 = .ok (.iload_n 2, 1) := by decide +kernel
theorem d_Mo_van_71 : decode prog_9_method_23_code 71 = .ok (.iaload, 1) := by decide +kernel
theorem d_Mo_van_72 : decode prog_9_method_23_code 72 = .ok (.iconst 1, 1) := by decide +kernel
theorem d_Mo_van_73 : decode prog_9_method_23_code 73 = .ok (.if_icmp .ne (7), 3) := by decide +kernel
theorem d_Mo_van_76 : decode prog_9_method_23_code 76 = .ok (.iconst 2, 1) := by decide +kernel
theorem d_Mo_van_77 : decode prog_9_method_23_code 77 = .ok (.goto (9), 3) := by decide +kernel
theorem d_Mo_van_80 : decode prog_9_method_23_code 80 = .ok (.aload_n 0, 1) := by decide +kernel
theorem d_Mo_van_81 : decode prog_9_method_23_code 81 = .ok (.getfield 26, 3) := by decide +kernel
theorem d_Mo_van_84 : decode prog_9_method_23_code 84 = .ok (.iload_n 2, 1) := by decide +kernel
theorem d_Mo_van_85 : decode prog_9_method_23_code 85 = .ok (.iaload, 1) := by decide +kernel
theorem d_Mo_van_86 : decode prog_9_method_23_code 86 = .ok (.iastore, 1) := by decide +kernel
theorem d_Mo_van_87 : decode prog_9_method_23_code 87 = .ok (.aload_n 0, 1) := by decide +kernel
theorem d_Mo_van_88 : decode prog_9_method_23_code 88 = .ok (.getfield 38, 3) := by decide +kernel
theorem d_Mo_van_91 : decode prog_9_method_23_code 91 = .ok (.iload_n 1, 1) := by decide +kernel
theorem d_Mo_van_92 : decode prog_9_method_23_code 92 = .ok (.iaload, 1) := by decide +kernel
theorem d_Mo_van_93 : decode prog_9_method_23_code 93 = .ok (.ireturn, 1) := by decide +kernel
theorem d_Mo_sendFirsts_0 : decode prog_9_method_24_code 0 = .ok (.iconst 0, 1) := by decide +kernel
theorem d_Mo_sendFirsts_1 : decode prog_9_method_24_code 1 = .ok (.istore_n 2, 1) := by decide +kernel
theorem d_Mo_sendFirsts_2 : decode prog_9_method_24_code 2 = .ok (.iconst 0, 1) := by decide +kernel
theorem d_Mo_sendFirsts_3 : decode prog_9_method_24_code 3 = .ok (.istore_n 3, 1) := by decide +kernel
theorem d_Mo_sendFirsts_4 : decode prog_9_method_24_code 4 = .ok (.iload_n 3, 1) := by decide +kernel
theorem d_Mo_sendFirsts_5 : decode prog_9_method_24_code 5 = .ok (.aload_n 0, 1) := by decide +kernel
theorem d_Mo_sendFirsts_6 : decode prog_9_method_24_code 6 = .ok (.getfield 83, 3) := by decide +kernel
theorem d_Mo_sendFirsts_9 : decode prog_9_method_24_code 9 = .ok (.if_icmp .ge (68), 3) := by decide +kernel
theorem d_Mo_sendFirsts_12 : decode prog_9_method_24_code 12 = .ok (.iload_n 3, 1) := by decide +kernel
theorem d_Mo_sendFirsts_13 : decode prog_9_method_24_code 13 = .ok (.iload_n 1, 1) := by decide +kernel
theorem d_Mo_sendFirsts_14 : decode prog_9_method_24_code 14 = .ok (.if_icmp .eq (57), 3) := by decide +kernel
theorem d_Mo_sendFirsts_17 : decode prog_9_method_24_code 17 = .ok (.aload_n 0, 1) := by decide +kernel
theorem d_Mo_sendFirsts_18 : decode prog_9_method_24_code 18 = .ok (.getfield 7, 3) := by decide +kernel
theorem d_Mo_sendFirsts_21 : decode prog_9_method_24_code 21 = .ok (.iload_n 1, 1) := by decide +kernel
theorem d_Mo_sendFirsts_22 : decode prog_9_method_24_code 22 = .ok (.iaload, 1) := by decide +kernel
theorem d_Mo_sendFirsts_23 : decode prog_9_method_24_code 23 = .ok (.iload_n 3, 1) := by decide +kernel
theorem d_Mo_sendFirsts_24 : decode prog_9_method_24_code 24 = .ok (.if_icmp .eq (13), 3) := by decide +kernel
theorem d_Mo_sendFirsts_27 : decode prog_9_method_24_code 27 = .ok (.aload_n 0, 1) := by decide +kernel
theorem d_Mo_sendFirsts_28 : decode prog_9_method_24_code 28 = .ok (.getfield 7, 3) := by decide +kernel
theorem d_Mo_sendFirsts_31 : decode prog_9_method_24_code 31 = .ok (.iload_n 3, 1) := by decide +kernel
theorem d_Mo_sendFirsts_32 : decode prog_9_method_24_code 32 = .ok (.iaload, 1) := by decide +kernel
theorem d_Mo_sendFirsts_33 : decode prog_9_method_24_code 33 = .ok (.iload_n 1, 1) := by decide +kernel
theorem d_Mo_sendFirsts_34 : decode prog_9_method_24_code 34 = .ok (.if_icmp .ne (37), 3) := by decide +kernel
theorem d_Mo_sendFirsts_37 : decode prog_9_method_24_code 37 = .ok (.aload_n 0, 1) := by decide +kernel
theorem d_Mo_sendFirsts_38 : decode prog_9_method_24_code 38 = .ok (.iload_n 1, 1) := by decide +kernel
theorem d_Mo_sendFirsts_39 : decode prog_9_method_24_code 39 = .ok (.iload_n 3, 1) := by decide +kernel
theorem d_Mo_sendFirsts_40 : decode prog_9_method_24_code 40 = .ok (.invokevirtual 104, 3) := by decide +kernel
theorem d_Mo_sendFirsts_43 : decode prog_9_method_24_code 43 = .ok (.istore 4, 2) := by decide +kernel
theorem d_Mo_sendFirsts_45 : decode prog_9_method_24_code 45 = .ok (.aload_n 0, 1) := by decide +kernel
theorem d_Mo_sendFirsts_46 : decode prog_9_method_24_code 46 = .ok (.getfield 53, 3) := by decide +kernel
theorem d_Mo_sendFirsts_49 : decode prog_9_method_24_code 49 = .ok (.iload 4, 2) := by decide +kernel
theorem d_Mo_sendFirsts_51 : decode prog_9_method_24_code 51 = .ok (.iaload, 1) := by decide +kernel
theorem d_Mo_sendFirsts_52 : decode prog_9_method_24_code 52 = .ok (.aload_n 0, 1) := by decide +kernel
theorem d_Mo_sendFirsts_53 : decode prog_9_method_24_code 53 = .ok (.getfield 50, 3) := by decide +kernel
theorem d_Mo_sendFirsts_56 : decode prog_9_method_24_code 56 = .ok (.iload 4, 2) := by decide +kernel
theorem d_Mo_sendFirsts_58 : decode prog_9_method_24_code 58 = .ok (.iaload, 1) := by decide +kernel
theorem d_Mo_sendFirsts_59 : decode prog_9_method_24_code 59 = .ok (.if_icmp .le (12), 3) := by decide +kernel
theorem d_Mo_sendFirsts_62 : decode prog_9_method_24_code 62 = .ok (.aload_n 0, 1) := by decide +kernel
theorem d_Mo_sendFirsts_63 : decode prog_9_method_24_code 63 = .ok (.iload_n 1, 1) := by decide +kernel
theorem d_Mo_sendFirsts_64 : decode prog_9_method_24_code 64 = .ok (.iload_n 3, 1) := by decide +kernel
theorem d_Mo_sendFirsts_65 : decode prog_9_method_24_code 65 = .ok (.invokevirtual 112, 3) := by decide +kernel
theorem d_Mo_sendFirsts_68 : decode prog_9_method_24_code 68 = .ok (.iinc 2 1, 3) := by decide +kernel
theorem d_Mo_sendFirsts_71 : decode prog_9_method_24_code 71 = .ok (.iinc 3 1, 3) := by decide +kernel
theorem d_Mo_sendFirsts_74 : decode prog_9_method_24_code 74 = .ok (.goto (-70), 3) := by decide +kernel
theorem d_Mo_sendFirsts_77 : decode prog_9_method_24_code 77 = .ok (.iload_n 2, 1) := by decide +kernel
theorem d_Mo_sendFirsts_78 : decode prog_9_method_24_code 78 = .ok (.ireturn, 1) := by decide +kernel
theorem d_Mo_sendAll_0 : decode prog_9_method_25_code 0 = .ok (.aload_n 0, 1) := by decide +kernel
theorem d_Mo_sendAll_1 : decode prog_9_method_25_code 1 = .ok (.iload_n 1, 1) := by decide +kernel
theorem d_Mo_sendAll_2 : decode prog_9_method_25_code 2 = .ok (.invokevirtual 90, 3) := by decide +kernel
theorem d_Mo_sendAll_5 : decode prog_9_method_25_code 5 = .ok (.ifCond .ne (7), 3) := by decide +kernel
theorem d_Mo_sendAll_8 : decode prog_9_method_25_code 8 = .ok (.iconst 1, 1) := by decide +kernel
theorem d_Mo_sendAll_9 : decode prog_9_method_25_code 9 = .ok (.goto (4), 3) := by decide +kernel
theorem d_Mo_sendAll_12 : decode prog_9_method_25_code 12 = .ok (.iconst 0, 1) := by decide +kernel
theorem d_Mo_sendAll_13 : decode prog_9_method_25_code 13 = .ok (.istore_n 2, 1) := by decide +kernel
theorem d_Mo_sendAll_14 : decode prog_9_method_25_code 14 = .ok (.aload_n 0, 1) := by decide +kernel
theorem d_Mo_sendAll_15 : decode prog_9_method_25_code 15 = .ok (.iload_n 2, 1) := by decide +kernel
theorem d_Mo_sendAll_16 : decode prog_9_method_25_code 16 = .ok (.iload_n 2, 1) := by decide +kernel
theorem d_Mo_sendAll_17 : decode prog_9_method_25_code 17 = .ok (.ifCond .ne (16), 3) := by decide +kernel
theorem d_Mo_sendAll_20 : decode prog_9_method_25_code 20 = .ok (.aload_n 0, 1) := by decide +kernel
theorem d_Mo_sendAll_21 : decode prog_9_method_25_code 21 = .ok (.getfield 13, 3) := by decide +kernel
theorem d_Mo_sendAll_24 : decode prog_9_method_25_code 24 = .ok (.iload_n 1, 1) := by decide +kernel
theorem d_Mo_sendAll_25 : decode prog_9_method_25_code 25 = .ok (.baload, 1) := by decide +kernel
theorem d_Mo_sendAll_26 : decode prog_9_method_25_code 26 = .ok (.ifCond .eq (7), 3) := by decide +kernel
theorem d_Mo_sendAll_29 : decode prog_9_method_25_code 29 = .ok (.iconst 1, 1) := by decide +kernel
theorem d_Mo_sendAll_30 : decode prog_9_method_25_code 30 = .ok (.goto (4), 3) := by decide +kernel
theorem d_Mo_sendAll_33 : decode prog_9_method_25_code 33 = .ok (.iconst 0, 1) := by decide +kernel
theorem d_Mo_sendAll_34 : decode prog_9_method_25_code 34 = .ok (.iconst 0, 1) := by decide +kernel
theorem d_Mo_sendAll_35 : decode prog_9_method_25_code 35 = .ok (.invokevirtual 129, 3) := by decide +kernel
theorem d_Mo_sendAll_38 : decode prog_9_method_25_code 38 = .ok (.ifCond .eq (7), 3) := by decide +kernel
theorem d_Mo_sendAll_41 : decode prog_9_method_25_code 41 = .ok (.iconst 0, 1) := by decide +kernel
theorem d_Mo_sendAll_42 : decode prog_9_method_25_code 42 = .ok (.goto (8), 3) := by decide +kernel
theorem d_Mo_sendAll_45 : decode prog_9_method_25_code 45 = .ok (.aload_n 0, 1) := by decide +kernel
theorem d_Mo_sendAll_46 : decode prog_9_method_25_code 46 = .ok (.iload_n 1, 1) := by decide +kernel
theorem d_Mo_sendAll_47 : decode prog_9_method_25_code 47 = .ok (.invokevirtual 142, 3) := by decide +kernel
theorem d_Mo_sendAll_50 : decode prog_9_method_25_code 50 = .ok (.ireturn, 1) := by decide +kernel
theorem d_Mo_pending_0 : decode prog_9_method_26_code 0 = .ok (.aload_n 0, 1) := by decide +kernel
theorem d_Mo_pending_1 : decode prog_9_method_26_code 1 = .ok (.iconst 0, 1) := by decide +kernel
theorem d_Mo_pending_2 : decode prog_9_method_26_code 2 = .ok (.putfield 87, 3) := by decide +kernel
theorem d_Mo_pending_5 : decode prog_9_method_26_code 5 = .ok (.aload_n 0, 1) := by decide +kernel
theorem d_Mo_pending_6 : decode prog_9_method_26_code 6 = .ok (.getfield 101, 3) := by decide +kernel
theorem d_Mo_pending_9 : decode prog_9_method_26_code 9 = .ok (.ireturn, 1) := by decide +kernel
theorem d_Mo_isPacket_0 : decode prog_9_method_27_code 0 = .ok (.iload_n 1, 1) := by decide +kernel
theorem d_Mo_isPacket_1 : decode prog_9_method_27_code 1 = .ok (.ifCond .lt (15), 3) := by decide +kernel
theorem d_Mo_isPacket_4 : decode prog_9_method_27_code 4 = .ok (.iload_n 1, 1) := by decide +kernel
theorem d_Mo_isPacket_5 : decode prog_9_method_27_code 5 = .ok (.aload_n 0, 1) := by decide +kernel
theorem d_Mo_isPacket_6 : decode prog_9_method_27_code 6 = .ok (.getfield 101, 3) := by decide +kernel
theorem d_Mo_isPacket_9 : decode prog_9_method_27_code 9 = .ok (.if_icmp .ge (7), 3) := by decide +kernel
theorem d_Mo_isPacket_12 : decode prog_9_method_27_code 12 = .ok (.iconst 1, 1) := by decide +kernel
theorem d_Mo_isPacket_13 : decode prog_9_method_27_code 13 = .ok (.goto (4), 3) := by decide +kernel
theorem d_Mo_isPacket_16 : decode prog_9_method_27_code 16 = .ok (.iconst 0, 1) := by decide +kernel
theorem d_Mo_isPacket_17 : decode prog_9_method_27_code 17 = .ok (.ireturn, 1) := by decide +kernel
theorem d_Mo_packet_0 : decode prog_9_method_28_code 0 = .ok (.aload_n 0, 1) := by decide +kernel
theorem d_Mo_packet_1 : decode prog_9_method_28_code 1 = .ok (.aload_n 0, 1) := by decide +kernel
theorem d_Mo_packet_2 : decode prog_9_method_28_code 2 = .ok (.iload_n 1, 1) := by decide +kernel
theorem d_Mo_packet_3 : decode prog_9_method_28_code 3 = .ok (.invokevirtual 146, 3) := by decide +kernel
theorem d_Mo_packet_6 : decode prog_9_method_28_code 6 = .ok (.ifCond .eq (12), 3) := by decide +kernel
theorem d_Mo_packet_9 : decode prog_9_method_28_code 9 = .ok (.iload_n 2, 1) := by decide +kernel
theorem d_Mo_packet_10 : decode prog_9_method_28_code 10 = .ok (.ifCond .lt (8), 3) := by decide +kernel
theorem d_Mo_packet_13 : decode prog_9_method_28_code 13 = .ok (.iload_n 2, 1) := by decide +kernel
theorem d_Mo_packet_14 : decode prog_9_method_28_code 14 = .ok (.iconst 5, 1) := by decide +kernel
theorem d_Mo_packet_15 : decode prog_9_method_28_code 15 = .ok (.if_icmp .le (7), 3) := by decide +kernel
theorem d_Mo_packet_18 : decode prog_9_method_28_code 18 = .ok (.iconst 1, 1) := by decide +kernel
theorem d_Mo_packet_19 : decode prog_9_method_28_code 19 = .ok (.goto (4), 3) := by decide +kernel
theorem d_Mo_packet_22 : decode prog_9_method_28_code 22 = .ok (.iconst 0, 1) := by decide +kernel
theorem d_Mo_packet_23 : decode prog_9_method_28_code 23 = .ok (.iconst 0, 1) := by decide +kernel
theorem d_Mo_packet_24 : decode prog_9_method_28_code 24 = .ok (.iconst 0, 1) := by decide +kernel
theorem d_Mo_packet_25 : decode prog_9_method_28_code 25 = .ok (.invokevirtual 129, 3) := by decide +kernel
theorem d_Mo_packet_28 : decode prog_9_method_28_code 28 = .ok (.ifCond .eq (5), 3) := by decide +kernel
theorem d_Mo_packet_31 : decode prog_9_method_28_code 31 = .ok (.iconst 0, 1) := by decide +kernel
theorem d_Mo_packet_32 : decode prog_9_method_28_code 32 = .ok (.ireturn, 1) := by decide +kernel
theorem d_Mo_packet_33 : decode prog_9_method_28_code 33 = .ok (.iload_n 2, 1) := by decide +kernel
theorem d_Mo_packet_34 : decode prog_9_method_28_code 34 = .ok (.tableswitch (69) 0 4 #[34, 41, 48, 55, 62], 34) := by decide +kernel
theorem d_Mo_packet_68 : decode prog_9_method_28_code 68 = .ok (.aload_n 0, 1) := by decide +kernel
theorem d_Mo_packet_69 : decode prog_9_method_28_code 69 = .ok (.getfield 65, 3) := by decide +kernel
theorem d_Mo_packet_72 : decode prog_9_method_28_code 72 = .ok (.iload_n 1, 1) := by decide +kernel
theorem d_Mo_packet_73 : decode prog_9_method_28_code 73 = .ok (.iaload, 1) := by decide +kernel
theorem d_Mo_packet_74 : decode prog_9_method_28_code 74 = .ok (.ireturn, 1) := by decide +kernel
theorem d_Mo_packet_75 : decode prog_9_method_28_code 75 = .ok (.aload_n 0, 1) := by decide +kernel
theorem d_Mo_packet_76 : decode prog_9_method_28_code 76 = .ok (.getfield 68, 3) := by decide +kernel
theorem d_Mo_packet_79 : decode prog_9_method_28_code 79 = .ok (.iload_n 1, 1) := by decide +kernel
theorem d_Mo_packet_80 : decode prog_9_method_28_code 80 = .ok (.iaload, 1) := by decide +kernel
theorem d_Mo_packet_81 : decode prog_9_method_28_code 81 = .ok (.ireturn, 1) := by decide +kernel
theorem d_Mo_packet_82 : decode prog_9_method_28_code 82 = .ok (.aload_n 0, 1) := by decide +kernel
theorem d_Mo_packet_83 : decode prog_9_method_28_code 83 = .ok (.getfield 71, 3) := by decide +kernel
theorem d_Mo_packet_86 : decode prog_9_method_28_code 86 = .ok (.iload_n 1, 1) := by decide +kernel
theorem d_Mo_packet_87 : decode prog_9_method_28_code 87 = .ok (.iaload, 1) := by decide +kernel
theorem d_Mo_packet_88 : decode prog_9_method_28_code 88 = .ok (.ireturn, 1) := by decide +kernel
theorem d_Mo_packet_89 : decode prog_9_method_28_code 89 = .ok (.aload_n 0, 1) := by decide +kernel
theorem d_Mo_packet_90 : decode prog_9_method_28_code 90 = .ok (.getfield 74, 3) := by decide +kernel
theorem d_Mo_packet_93 : decode prog_9_method_28_code 93 = .ok (.iload_n 1, 1) := by decide +kernel
theorem d_Mo_packet_94 : decode prog_9_method_28_code 94 = .ok (.iaload, 1) := by decide +kernel
theorem d_Mo_packet_95 : decode prog_9_method_28_code 95 = .ok (.ireturn, 1) := by decide +kernel
theorem d_Mo_packet_96 : decode prog_9_method_28_code 96 = .ok (.aload_n 0, 1) := by decide +kernel
theorem d_Mo_packet_97 : decode prog_9_method_28_code 97 = .ok (.getfield 77, 3) := by decide +kernel
theorem d_Mo_packet_100 : decode prog_9_method_28_code 100 = .ok (.iload_n 1, 1) := by decide +kernel
theorem d_Mo_packet_101 : decode prog_9_method_28_code 101 = .ok (.iaload, 1) := by decide +kernel
theorem d_Mo_packet_102 : decode prog_9_method_28_code 102 = .ok (.ireturn, 1) := by decide +kernel
theorem d_Mo_packet_103 : decode prog_9_method_28_code 103 = .ok (.aload_n 0, 1) := by decide +kernel
theorem d_Mo_packet_104 : decode prog_9_method_28_code 104 = .ok (.getfield 80, 3) := by decide +kernel
theorem d_Mo_packet_107 : decode prog_9_method_28_code 107 = .ok (.iload_n 1, 1) := by decide +kernel
theorem d_Mo_packet_108 : decode prog_9_method_28_code 108 = .ok (.iaload, 1) := by decide +kernel
theorem d_Mo_packet_109 : decode prog_9_method_28_code 109 = .ok (.ireturn, 1) := by decide +kernel
theorem d_Mo_deliver_0 : decode prog_9_method_29_code 0 = .ok (.aload_n 0, 1) := by decide +kernel
theorem d_Mo_deliver_1 : decode prog_9_method_29_code 1 = .ok (.aload_n 0, 1) := by decide +kernel
theorem d_Mo_deliver_2 : decode prog_9_method_29_code 2 = .ok (.iload_n 1, 1) := by decide +kernel
theorem d_Mo_deliver_3 : decode prog_9_method_29_code 3 = .ok (.invokevirtual 146, 3) := by decide +kernel
theorem d_Mo_deliver_6 : decode prog_9_method_29_code 6 = .ok (.ifCond .ne (7), 3) := by decide +kernel
theorem d_Mo_deliver_9 : decode prog_9_method_29_code 9 = .ok (.iconst 1, 1) := by decide +kernel
theorem d_Mo_deliver_10 : decode prog_9_method_29_code 10 = .ok (.goto (4), 3) := by decide +kernel
theorem d_Mo_deliver_13 : decode prog_9_method_29_code 13 = .ok (.iconst 0, 1) := by decide +kernel
theorem d_Mo_deliver_14 : decode prog_9_method_29_code 14 = .ok (.iconst 0, 1) := by decide +kernel
theorem d_Mo_deliver_15 : decode prog_9_method_29_code 15 = .ok (.iconst 0, 1) := by decide +kernel
theorem d_Mo_deliver_16 : decode prog_9_method_29_code 16 = .ok (.invokevirtual 129, 3) := by decide +kernel
theorem d_Mo_deliver_19 : decode prog_9_method_29_code 19 = .ok (.ifCond .eq (5), 3) := by decide +kernel
theorem d_Mo_deliver_22 : decode prog_9_method_29_code 22 = .ok (.iconst 0, 1) := by decide +kernel
theorem d_Mo_deliver_23 : decode prog_9_method_29_code 23 = .ok (.ireturn, 1) := by decide +kernel
theorem d_Mo_deliver_24 : decode prog_9_method_29_code 24 = .ok (.aload_n 0, 1) := by decide +kernel
theorem d_Mo_deliver_25 : decode prog_9_method_29_code 25 = .ok (.getfield 65, 3) := by decide +kernel
theorem d_Mo_deliver_28 : decode prog_9_method_29_code 28 = .ok (.iload_n 1, 1) := by decide +kernel
theorem d_Mo_deliver_29 : decode prog_9_method_29_code 29 = .ok (.iaload, 1) := by decide +kernel
theorem d_Mo_deliver_30 : decode prog_9_method_29_code 30 = .ok (.istore_n 2, 1) := by decide +kernel
theorem d_Mo_deliver_31 : decode prog_9_method_29_code 31 = .ok (.aload_n 0, 1) := by decide +kernel
theorem d_Mo_deliver_32 : decode prog_9_method_29_code 32 = .ok (.getfield 68, 3) := by decide +kernel
theorem d_Mo_deliver_35 : decode prog_9_method_29_code 35 = .ok (.iload_n 1, 1) := by decide +kernel
theorem d_Mo_deliver_36 : decode prog_9_method_29_code 36 = .ok (.iaload, 1) := by decide +kernel
theorem d_Mo_deliver_37 : decode prog_9_method_29_code 37 = .ok (.istore_n 3, 1) := by decide +kernel
theorem d_Mo_deliver_38 : decode prog_9_method_29_code 38 = .ok (.aload_n 0, 1) := by decide +kernel
theorem d_Mo_deliver_39 : decode prog_9_method_29_code 39 = .ok (.getfield 71, 3) := by decide +kernel
theorem d_Mo_deliver_42 : decode prog_9_method_29_code 42 = .ok (.iload_n 1, 1) := by decide +kernel
theorem d_Mo_deliver_43 : decode prog_9_method_29_code 43 = .ok (.iaload, 1) := by decide +kernel
theorem d_Mo_deliver_44 : decode prog_9_method_29_code 44 = .ok (.istore 4, 2) := by decide +kernel
theorem d_Mo_deliver_46 : decode prog_9_method_29_code 46 = .ok (.aload_n 0, 1) := by decide +kernel
theorem d_Mo_deliver_47 : decode prog_9_method_29_code 47 = .ok (.getfield 74, 3) := by decide +kernel
theorem d_Mo_deliver_50 : decode prog_9_method_29_code 50 = .ok (.iload_n 1, 1) := by decide +kernel
theorem d_Mo_deliver_51 : decode prog_9_method_29_code 51 = .ok (.iaload, 1) := by decide +kernel
theorem d_Mo_deliver_52 : decode prog_9_method_29_code 52 = .ok (.istore 5, 2) := by decide +kernel
theorem d_Mo_deliver_54 : decode prog_9_method_29_code 54 = .ok (.aload_n 0, 1) := by decide +kernel
theorem d_Mo_deliver_55 : decode prog_9_method_29_code 55 = .ok (.getfield 77, 3) := by decide +kernel
theorem d_Mo_deliver_58 : decode prog_9_method_29_code 58 = .ok (.iload_n 1, 1) := by decide +kernel
theorem d_Mo_deliver_59 : decode prog_9_method_29_code 59 = .ok (.iaload, 1) := by decide +kernel
theorem d_Mo_deliver_60 : decode prog_9_method_29_code 60 = .ok (.istore 6, 2) := by decide +kernel
theorem d_Mo_deliver_62 : decode prog_9_method_29_code 62 = .ok (.aload_n 0, 1) := by decide +kernel
theorem d_Mo_deliver_63 : decode prog_9_method_29_code 63 = .ok (.getfield 80, 3) := by decide +kernel
theorem d_Mo_deliver_66 : decode prog_9_method_29_code 66 = .ok (.iload_n 1, 1) := by decide +kernel
theorem d_Mo_deliver_67 : decode prog_9_method_29_code 67 = .ok (.iaload, 1) := by decide +kernel
theorem d_Mo_deliver_68 : decode prog_9_method_29_code 68 = .ok (.istore 7, 2) := by decide +kernel
theorem d_Mo_deliver_70 : decode prog_9_method_29_code 70 = .ok (.aload_n 0, 1) := by decide +kernel
theorem d_Mo_deliver_71 : decode prog_9_method_29_code 71 = .ok (.iload_n 1, 1) := by decide +kernel
theorem d_Mo_deliver_72 : decode prog_9_method_29_code 72 = .ok (.invokevirtual 149, 3) := by decide +kernel
theorem d_Mo_deliver_75 : decode prog_9_method_29_code 75 = .ok (.aload_n 0, 1) := by decide +kernel
theorem d_Mo_deliver_76 : decode prog_9_method_29_code 76 = .ok (.getfield 13, 3) := by decide +kernel
theorem d_Mo_deliver_79 : decode prog_9_method_29_code 79 = .ok (.iload 4, 2) := by decide +kernel
theorem d_Mo_deliver_81 : decode prog_9_method_29_code 81 = .ok (.baload, 1) := by decide +kernel
theorem d_Mo_deliver_82 : decode prog_9_method_29_code 82 = .ok (.ifCond .eq (5), 3) := by decide +kernel
theorem d_Mo_deliver_85 : decode prog_9_method_29_code 85 = .ok (.iconst 0, 1) := by decide +kernel
theorem d_Mo_deliver_86 : decode prog_9_method_29_code 86 = .ok (.ireturn, 1) := by decide +kernel
theorem d_Mo_deliver_87 : decode prog_9_method_29_code 87 = .ok (.iload_n 2, 1) := by decide +kernel
theorem d_Mo_deliver_88 : decode prog_9_method_29_code 88 = .ok (.iconst 1, 1) := by decide +kernel
theorem d_Mo_deliver_89 : decode prog_9_method_29_code 89 = .ok (.if_icmp .ne (80), 3) := by decide +kernel
theorem d_Mo_deliver_92 : decode prog_9_method_29_code 92 = .ok (.aload_n 0, 1) := by decide +kernel
theorem d_Mo_deliver_93 : decode prog_9_method_29_code 93 = .ok (.iload 4, 2) := by decide +kernel
theorem d_Mo_deliver_95 : decode prog_9_method_29_code 95 = .ok (.iload_n 3, 1) := by decide +kernel
theorem d_Mo_deliver_96 : decode prog_9_method_29_code 96 = .ok (.invokevirtual 104, 3) := by decide +kernel
theorem d_Mo_deliver_99 : decode prog_9_method_29_code 99 = .ok (.istore 8, 2) := by decide +kernel
theorem d_Mo_deliver_101 : decode prog_9_method_29_code 101 = .ok (.aload_n 0, 1) := by decide +kernel
theorem d_Mo_deliver_102 : decode prog_9_method_29_code 102 = .ok (.getfield 53, 3) := by decide +kernel
theorem d_Mo_deliver_105 : decode prog_9_method_29_code 105 = .ok (.iload 8, 2) := by decide +kernel
theorem d_Mo_deliver_107 : decode prog_9_method_29_code 107 = .ok (.iaload, 1) := by decide +kernel
theorem d_Mo_deliver_108 : decode prog_9_method_29_code 108 = .ok (.aload_n 0, 1) := by decide +kernel
theorem d_Mo_deliver_109 : decode prog_9_method_29_code 109 = .ok (.getfield 50, 3) := by decide +kernel
theorem d_Mo_deliver_112 : decode prog_9_method_29_code 112 = .ok (.iload 8, 2) := by decide +kernel
theorem d_Mo_deliver_114 : decode prog_9_method_29_code 114 = .ok (.iaload, 1) := by decide +kernel
theorem d_Mo_deliver_115 : decode prog_9_method_29_code 115 = .ok (.if_icmp .eq (15), 3) := by decide +kernel
theorem d_Mo_deliver_118 : decode prog_9_method_29_code 118 = .ok (.aload_n 0, 1) := by decide +kernel
theorem d_Mo_deliver_119 : decode prog_9_method_29_code 119 = .ok (.getfield 50, 3) := by decide +kernel
theorem d_Mo_deliver_122 : decode prog_9_method_29_code 122 = .ok (.iload 8, 2) := by decide +kernel
theorem d_Mo_deliver_124 : decode prog_9_method_29_code 124 = .ok (.iaload, 1) := by decide +kernel
theorem d_Mo_deliver_125 : decode prog_9_method_29_code 125 = .ok (.iload 5, 2) := by decide +kernel
theorem d_Mo_deliver_127 : decode prog_9_method_29_code 127 = .ok (.if_icmp .eq (5), 3) := by decide +kernel
theorem d_Mo_deliver_130 : decode prog_9_method_29_code 130 = .ok (.iconst 4, 1) := by decide +kernel
theorem d_Mo_deliver_131 : decode prog_9_method_29_code 131 = .ok (.ireturn, 1) := by decide +kernel
theorem d_Mo_deliver_132 : decode prog_9_method_29_code 132 = .ok (.aload_n 0, 1) := by decide +kernel
theorem d_Mo_deliver_133 : decode prog_9_method_29_code 133 = .ok (.getfield 50, 3) := by decide +kernel
theorem d_Mo_deliver_136 : decode prog_9_method_29_code 136 = .ok (.iload 8, 2) := by decide +kernel
theorem d_Mo_deliver_138 : decode prog_9_method_29_code 138 = .ok (.dup2, 1) := by decide +kernel
theorem d_Mo_deliver_139 : decode prog_9_method_29_code 139 = .ok (.iaload, 1) := by decide +kernel
theorem d_Mo_deliver_140 : decode prog_9_method_29_code 140 = .ok (.iconst 1, 1) := by decide +kernel
theorem d_Mo_deliver_141 : decode prog_9_method_29_code 141 = .ok (.iadd, 1) := by decide +kernel
theorem d_Mo_deliver_142 : decode prog_9_method_29_code 142 = .ok (.iastore, 1) := by decide +kernel
theorem d_Mo_deliver_143 : decode prog_9_method_29_code 143 = .ok (.aload_n 0, 1) := by decide +kernel
theorem d_Mo_deliver_144 : decode prog_9_method_29_code 144 = .ok (.getfield 53, 3) := by decide +kernel
theorem d_Mo_deliver_147 : decode prog_9_method_29_code 147 = .ok (.iload 8, 2) := by decide +kernel
theorem d_Mo_deliver_149 : decode prog_9_method_29_code 149 = .ok (.iaload, 1) := by decide +kernel
theorem d_Mo_deliver_150 : decode prog_9_method_29_code 150 = .ok (.aload_n 0, 1) := by decide +kernel
theorem d_Mo_deliver_151 : decode prog_9_method_29_code 151 = .ok (.getfield 50, 3) := by decide +kernel
theorem d_Mo_deliver_154 : decode prog_9_method_29_code 154 = .ok (.iload 8, 2) := by decide +kernel
theorem d_Mo_deliver_156 : decode prog_9_method_29_code 156 = .ok (.iaload, 1) := by decide +kernel
theorem d_Mo_deliver_157 : decode prog_9_method_29_code 157 = .ok (.if_icmp .le (10), 3) := by decide +kernel
theorem d_Mo_deliver_160 : decode prog_9_method_29_code 160 = .ok (.aload_n 0, 1) := by decide +kernel
theorem d_Mo_deliver_161 : decode prog_9_method_29_code 161 = .ok (.iload 4, 2) := by decide +kernel
theorem d_Mo_deliver_163 : decode prog_9_method_29_code 163 = .ok (.iload_n 3, 1) := by decide +kernel
theorem d_Mo_deliver_164 : decode prog_9_method_29_code 164 = .ok (.invokevirtual 112, 3) := by decide +kernel
theorem d_Mo_deliver_167 : decode prog_9_method_29_code 167 = .ok (.iconst 3, 1) := by decide +kernel
theorem d_Mo_deliver_168 : decode prog_9_method_29_code 168 = .ok (.ireturn, 1) := by decide +kernel
theorem d_Mo_deliver_169 : decode prog_9_method_29_code 169 = .ok (.aload_n 0, 1) := by decide +kernel
theorem d_Mo_deliver_170 : decode prog_9_method_29_code 170 = .ok (.iload_n 3, 1) := by decide +kernel
theorem d_Mo_deliver_171 : decode prog_9_method_29_code 171 = .ok (.iload 4, 2) := by decide +kernel
theorem d_Mo_deliver_173 : decode prog_9_method_29_code 173 = .ok (.invokevirtual 104, 3) := by decide +kernel
theorem d_Mo_deliver_176 : decode prog_9_method_29_code 176 = .ok (.istore 8, 2) := by decide +kernel
theorem d_Mo_deliver_178 : decode prog_9_method_29_code 178 = .ok (.iload 5, 2) := by decide +kernel
theorem d_Mo_deliver_180 : decode prog_9_method_29_code 180 = .ok (.aload_n 0, 1) := by decide +kernel
theorem d_Mo_deliver_181 : decode prog_9_method_29_code 181 = .ok (.getfield 56, 3) := by decide +kernel
theorem d_Mo_deliver_184 : decode prog_9_method_29_code 184 = .ok (.iload 8, 2) := by decide +kernel
theorem d_Mo_deliver_186 : decode prog_9_method_29_code 186 = .ok (.iaload, 1) := by decide +kernel
theorem d_Mo_deliver_187 : decode prog_9_method_29_code 187 = .ok (.if_icmp .ne (7), 3) := by decide +kernel
theorem d_Mo_deliver_190 : decode prog_9_method_29_code 190 = .ok (.iconst 1, 1) := by decide +kernel
theorem d_Mo_deliver_191 : decode prog_9_method_29_code 191 = .ok (.goto (4), 3) := by decide +kernel
theorem d_Mo_deliver_194 : decode prog_9_method_29_code 194 = .ok (.iconst 0, 1) := by decide +kernel
theorem d_Mo_deliver_195 : decode prog_9_method_29_code 195 = .ok (.istore 9, 2) := by decide +kernel
theorem d_Mo_deliver_197 : decode prog_9_method_29_code 197 = .ok (.iload 9, 2) := by decide +kernel
theorem d_Mo_deliver_199 : decode prog_9_method_29_code 199 = .ok (.ifCond .eq (25), 3) := by decide +kernel
theorem d_Mo_deliver_202 : decode prog_9_method_29_code 202 = .ok (.aload_n 0, 1) := by decide +kernel
theorem d_Mo_deliver_203 : decode prog_9_method_29_code 203 = .ok (.getfield 56, 3) := by decide +kernel
theorem d_Mo_deliver_206 : decode prog_9_method_29_code 206 = .ok (.iload 8, 2) := by decide +kernel
theorem d_Mo_deliver_208 : decode prog_9_method_29_code 208 = .ok (.dup2, 1) := by decide +kernel
theorem d_Mo_deliver_209 : decode prog_9_method_29_code 209 = .ok (.iaload, 1) := by decide +kernel
theorem d_Mo_deliver_210 : decode prog_9_method_29_code 210 = .ok (.iconst 1, 1) := by decide +kernel
theorem d_Mo_deliver_211 : decode prog_9_method_29_code 211 = .ok (.iadd, 1) := by decide +kernel
theorem d_Mo_deliver_212 : decode prog_9_method_29_code 212 = .ok (.iastore, 1) := by decide +kernel
theorem d_Mo_deliver_213 : decode prog_9_method_29_code 213 = .ok (.aload_n 0, 1) := by decide +kernel
theorem d_Mo_deliver_214 : decode prog_9_method_29_code 214 = .ok (.iload 4, 2) := by decide +kernel
theorem d_Mo_deliver_216 : decode prog_9_method_29_code 216 = .ok (.iload_n 3, 1) := by decide +kernel
theorem d_Mo_deliver_217 : decode prog_9_method_29_code 217 = .ok (.iload 6, 2) := by decide +kernel
theorem d_Mo_deliver_219 : decode prog_9_method_29_code 219 = .ok (.iload 7, 2) := by decide +kernel
theorem d_Mo_deliver_221 : decode prog_9_method_29_code 221 = .ok (.invokevirtual 153, 3) := by decide +kernel
theorem d_Mo_deliver_224 : decode prog_9_method_29_code 224 = .ok (.aload_n 0, 1) := by decide +kernel
theorem d_Mo_deliver_225 : decode prog_9_method_29_code 225 = .ok (.iconst 1, 1) := by decide +kernel
theorem d_Mo_deliver_226 : decode prog_9_method_29_code 226 = .ok (.iload 4, 2) := by decide +kernel
theorem d_Mo_deliver_228 : decode prog_9_method_29_code 228 = .ok (.iload_n 3, 1) := by decide +kernel
theorem d_Mo_deliver_229 : decode prog_9_method_29_code 229 = .ok (.iload 5, 2) := by decide +kernel
theorem d_Mo_deliver_231 : decode prog_9_method_29_code 231 = .ok (.iconst (-1), 1) := by decide +kernel
theorem d_Mo_deliver_232 : decode prog_9_method_29_code 232 = .ok (.iconst (-1), 1) := by decide +kernel
theorem d_Mo_deliver_233 : decode prog_9_method_29_code 233 = .ok (.invokevirtual 108, 3) := by decide +kernel
theorem d_Mo_deliver_236 : decode prog_9_method_29_code 236 = .ok (.pop, 1) := by decide +kernel
theorem d_Mo_deliver_237 : decode prog_9_method_29_code 237 = .ok (.iload 9, 2) := by decide +kernel
theorem d_Mo_deliver_239 : decode prog_9_method_29_code 239 = .ok (.ifCond .eq (7), 3) := by decide +kernel
theorem d_Mo_deliver_242 : decode prog_9_method_29_code 242 = .ok (.iconst 1, 1) := by decide +kernel
theorem d_Mo_deliver_243 : decode prog_9_method_29_code 243 = .ok (.goto (4), 3) := by decide +kernel
theorem d_Mo_deliver_246 : decode prog_9_method_29_code 246 = .ok (.iconst 2, 1) := by decide +kernel
theorem d_Mo_deliver_247 : decode prog_9_method_29_code 247 = .ok (.ireturn, 1) := by decide +kernel
theorem d_Mo_drop_0 : decode prog_9_method_30_code 0 = .ok (.aload_n 0, 1) := by decide +kernel
theorem d_Mo_drop_1 : decode prog_9_method_30_code 1 = .ok (.aload_n 0, 1) := by decide +kernel
theorem d_Mo_drop_2 : decode prog_9_method_30_code 2 = .ok (.iload_n 1, 1) := by decide +kernel
theorem d_Mo_drop_3 : decode prog_9_method_30_code 3 = .ok (.invokevirtual 146, 3) := by decide +kernel
theorem d_Mo_drop_6 : decode prog_9_method_30_code 6 = .ok (.ifCond .ne (7), 3) := by decide +kernel
theorem d_Mo_drop_9 : decode prog_9_method_30_code 9 = .ok (.iconst 1, 1) := by decide +kernel
theorem d_Mo_drop_10 : decode prog_9_method_30_code 10 = .ok (.goto (4), 3) := by decide +kernel
theorem d_Mo_drop_13 : decode prog_9_method_30_code 13 = .ok (.iconst 0, 1) := by decide +kernel
theorem d_Mo_drop_14 : decode prog_9_method_30_code 14 = .ok (.iconst 0, 1) := by decide +kernel
theorem d_Mo_drop_15 : decode prog_9_method_30_code 15 = .ok (.iconst 0, 1) := by decide +kernel
theorem d_Mo_drop_16 : decode prog_9_method_30_code 16 = .ok (.invokevirtual 129, 3) := by decide +kernel
theorem d_Mo_drop_19 : decode prog_9_method_30_code 19 = .ok (.ifCond .eq (5), 3) := by decide +kernel
theorem d_Mo_drop_22 : decode prog_9_method_30_code 22 = .ok (.iconst 0, 1) := by decide +kernel
theorem d_Mo_drop_23 : decode prog_9_method_30_code 23 = .ok (.ireturn, 1) := by decide +kernel
theorem d_Mo_drop_24 : decode prog_9_method_30_code 24 = .ok (.aload_n 0, 1) := by decide +kernel
theorem d_Mo_drop_25 : decode prog_9_method_30_code 25 = .ok (.iload_n 1, 1) := by decide +kernel
theorem d_Mo_drop_26 : decode prog_9_method_30_code 26 = .ok (.invokevirtual 149, 3) := by decide +kernel
theorem d_Mo_drop_29 : decode prog_9_method_30_code 29 = .ok (.aload_n 0, 1) := by decide +kernel
theorem d_Mo_drop_30 : decode prog_9_method_30_code 30 = .ok (.getfield 101, 3) := by decide +kernel
theorem d_Mo_drop_33 : decode prog_9_method_30_code 33 = .ok (.ireturn, 1) := by decide +kernel
theorem d_Mo_twin_0 : decode prog_9_method_31_code 0 = .ok (.aload_n 0, 1) := by decide +kernel
theorem d_Mo_twin_1 : decode prog_9_method_31_code 1 = .ok (.aload_n 0, 1) := by decide +kernel
theorem d_Mo_twin_2 : decode prog_9_method_31_code 2 = .ok (.iload_n 1, 1) := by decide +kernel
theorem d_Mo_twin_3 : decode prog_9_method_31_code 3 = .ok (.invokevirtual 146, 3) := by decide +kernel
theorem d_Mo_twin_6 : decode prog_9_method_31_code 6 = .ok (.ifCond .ne (7), 3) := by decide +kernel
theorem d_Mo_twin_9 : decode prog_9_method_31_code 9 = .ok (.iconst 1, 1) := by decide +kernel
theorem d_Mo_twin_10 : decode prog_9_method_31_code 10 = .ok (.goto (4), 3) := by decide +kernel
theorem d_Mo_twin_13 : decode prog_9_method_31_code 13 = .ok (.iconst 0, 1) := by decide +kernel
theorem d_Mo_twin_14 : decode prog_9_method_31_code 14 = .ok (.iconst 0, 1) := by decide +kernel
theorem d_Mo_twin_15 : decode prog_9_method_31_code 15 = .ok (.iconst 0, 1) := by decide +kernel
theorem d_Mo_twin_16 : decode prog_9_method_31_code 16 = .ok (.invokevirtual 129, 3) := by decide +kernel
theorem d_Mo_twin_19 : decode prog_9_method_31_code 19 = .ok (.ifCond .ne (50), 3) := by decide +kernel
theorem d_Mo_twin_22 : decode prog_9_method_31_code 22 = .ok (.aload_n 0, 1) := by decide +kernel
theorem d_Mo_twin_23 : decode prog_9_method_31_code 23 = .ok (.aload_n 0, 1) := by decide +kernel
theorem d_Mo_twin_24 : decode prog_9_method_31_code 24 = .ok (.getfield 65, 3) := by decide +kernel
theorem d_Mo_twin_27 : decode prog_9_method_31_code 27 = .ok (.iload_n 1, 1) := by decide +kernel
theorem d_Mo_twin_28 : decode prog_9_method_31_code 28 = .ok (.iaload, 1) := by decide +kernel
theorem d_Mo_twin_29 : decode prog_9_method_31_code 29 = .ok (.aload_n 0, 1) := by decide +kernel
theorem d_Mo_twin_30 : decode prog_9_method_31_code 30 = .ok (.getfield 68, 3) := by decide +kernel
theorem d_Mo_twin_33 : decode prog_9_method_31_code 33 = .ok (.iload_n 1, 1) := by decide +kernel
theorem d_Mo_twin_34 : decode prog_9_method_31_code 34 = .ok (.iaload, 1) := by decide +kernel
theorem d_Mo_twin_35 : decode prog_9_method_31_code 35 = .ok (.aload_n 0, 1) := by decide +kernel
theorem d_Mo_twin_36 : decode prog_9_method_31_code 36 = .ok (.getfield 71, 3) := by decide +kernel
theorem d_Mo_twin_39 : decode prog_9_method_31_code 39 = .ok (.iload_n 1, 1) := by decide +kernel
theorem d_Mo_twin_40 : decode prog_9_method_31_code 40 = .ok (.iaload, 1) := by decide +kernel
theorem d_Mo_twin_41 : decode prog_9_method_31_code 41 = .ok (.aload_n 0, 1) := by decide +kernel
theorem d_Mo_twin_42 : decode prog_9_method_31_code 42 = .ok (.getfield 74, 3) := by decide +kernel
theorem d_Mo_twin_45 : decode prog_9_method_31_code 45 = .ok (.iload_n 1, 1) := by decide +kernel
theorem d_Mo_twin_46 : decode prog_9_method_31_code 46 = .ok (.iaload, 1) := by decide +kernel
theorem d_Mo_twin_47 : decode prog_9_method_31_code 47 = .ok (.aload_n 0, 1) := by decide +kernel
theorem d_Mo_twin_48 : decode prog_9_method_31_code 48 = .ok (.getfield 77, 3) := by decide +kernel
theorem d_Mo_twin_51 : decode prog_9_method_31_code 51 = .ok (.iload_n 1, 1) := by decide +kernel
theorem d_Mo_twin_52 : decode prog_9_method_31_code 52 = .ok (.iaload, 1) := by decide +kernel
theorem d_Mo_twin_53 : decode prog_9_method_31_code 53 = .ok (.aload_n 0, 1) := by decide +kernel
theorem d_Mo_twin_54 : decode prog_9_method_31_code 54 = .ok (.getfield 80, 3) := by decide +kernel
theorem d_Mo_twin_57 : decode prog_9_method_31_code 57 = .ok (.iload_n 1, 1) := by decide +kernel
theorem d_Mo_twin_58 : decode prog_9_method_31_code 58 = .ok (.iaload, 1) := by decide +kernel
theorem d_Mo_twin_59 : decode prog_9_method_31_code 59 = .ok (.invokevirtual 108, 3) := by decide +kernel
theorem d_Mo_twin_62 : decode prog_9_method_31_code 62 = .ok (.ifCond .eq (7), 3) := by decide +kernel
theorem d_Mo_twin_65 : decode prog_9_method_31_code 65 = .ok (.iconst 1, 1) := by decide +kernel
theorem d_Mo_twin_66 : decode prog_9_method_31_code 66 = .ok (.goto (4), 3) := by decide +kernel
theorem d_Mo_twin_69 : decode prog_9_method_31_code 69 = .ok (.iconst 0, 1) := by decide +kernel
theorem d_Mo_twin_70 : decode prog_9_method_31_code 70 = .ok (.ireturn, 1) := by decide +kernel
theorem d_Mo_crash_0 : decode prog_9_method_32_code 0 = .ok (.aload_n 0, 1) := by decide +kernel
theorem d_Mo_crash_1 : decode prog_9_method_32_code 1 = .ok (.iload_n 1, 1) := by decide +kernel
theorem d_Mo_crash_2 : decode prog_9_method_32_code 2 = .ok (.invokevirtual 90, 3) := by decide +kernel
theorem d_Mo_crash_5 : decode prog_9_method_32_code 5 = .ok (.ifCond .ne (7), 3) := by decide +kernel
theorem d_Mo_crash_8 : decode prog_9_method_32_code 8 = .ok (.iconst 1, 1) := by decide +kernel
theorem d_Mo_crash_9 : decode prog_9_method_32_code 9 = .ok (.goto (4), 3) := by decide +kernel
theorem d_Mo_crash_12 : decode prog_9_method_32_code 12 = .ok (.iconst 0, 1) := by decide +kernel
theorem d_Mo_crash_13 : decode prog_9_method_32_code 13 = .ok (.istore_n 2, 1) := by decide +kernel
theorem d_Mo_crash_14 : decode prog_9_method_32_code 14 = .ok (.aload_n 0, 1) := by decide +kernel
theorem d_Mo_crash_15 : decode prog_9_method_32_code 15 = .ok (.iload_n 2, 1) := by decide +kernel
theorem d_Mo_crash_16 : decode prog_9_method_32_code 16 = .ok (.iload_n 2, 1) := by decide +kernel
theorem d_Mo_crash_17 : decode prog_9_method_32_code 17 = .ok (.ifCond .ne (16), 3) := by decide +kernel
theorem d_Mo_crash_20 : decode prog_9_method_32_code 20 = .ok (.aload_n 0, 1) := by decide +kernel
theorem d_Mo_crash_21 : decode prog_9_method_32_code 21 = .ok (.getfield 13, 3) := by decide +kernel
theorem d_Mo_crash_24 : decode prog_9_method_32_code 24 = .ok (.iload_n 1, 1) := by decide +kernel
theorem d_Mo_crash_25 : decode prog_9_method_32_code 25 = .ok (.baload, 1) := by decide +kernel
theorem d_Mo_crash_26 : decode prog_9_method_32_code 26 = .ok (.ifCond .eq (7), 3) := by decide +kernel
theorem d_Mo_crash_29 : decode prog_9_method_32_code 29 = .ok (.iconst 1, 1) := by decide +kernel
theorem d_Mo_crash_30 : decode prog_9_method_32_code 30 = .ok (.goto (4), 3) := by decide +kernel
theorem d_Mo_crash_33 : decode prog_9_method_32_code 33 = .ok (.iconst 0, 1) := by decide +kernel
theorem d_Mo_crash_34 : decode prog_9_method_32_code 34 = .ok (.iconst 0, 1) := by decide +kernel
theorem d_Mo_crash_35 : decode prog_9_method_32_code 35 = .ok (.invokevirtual 129, 3) := by decide +kernel
theorem d_Mo_crash_38 : decode prog_9_method_32_code 38 = .ok (.ifCond .ne (10), 3) := by decide +kernel
theorem d_Mo_crash_41 : decode prog_9_method_32_code 41 = .ok (.aload_n 0, 1) := by decide +kernel
theorem d_Mo_crash_42 : decode prog_9_method_32_code 42 = .ok (.getfield 13, 3) := by decide +kernel
theorem d_Mo_crash_45 : decode prog_9_method_32_code 45 = .ok (.iload_n 1, 1) := by decide +kernel
theorem d_Mo_crash_46 : decode prog_9_method_32_code 46 = .ok (.iconst 1, 1) := by decide +kernel
theorem d_Mo_crash_47 : decode prog_9_method_32_code 47 = .ok (.bastore, 1) := by decide +kernel
theorem d_Mo_crash_48 : decode prog_9_method_32_code 48 = .ok (.return_, 1) := by decide +kernel
theorem d_Mo_restart_0 : decode prog_9_method_33_code 0 = .ok (.aload_n 0, 1) := by decide +kernel
theorem d_Mo_restart_1 : decode prog_9_method_33_code 1 = .ok (.iload_n 1, 1) := by decide +kernel
theorem d_Mo_restart_2 : decode prog_9_method_33_code 2 = .ok (.invokevirtual 90, 3) := by decide +kernel
theorem d_Mo_restart_5 : decode prog_9_method_33_code 5 = .ok (.ifCond .ne (7), 3) := by decide +kernel
theorem d_Mo_restart_8 : decode prog_9_method_33_code 8 = .ok (.iconst 1, 1) := by decide +kernel
theorem d_Mo_restart_9 : decode prog_9_method_33_code 9 = .ok (.goto (4), 3) := by decide +kernel
theorem d_Mo_restart_12 : decode prog_9_method_33_code 12 = .ok (.iconst 0, 1) := by decide +kernel
theorem d_Mo_restart_13 : decode prog_9_method_33_code 13 = .ok (.istore_n 2, 1) := by decide +kernel
theorem d_Mo_restart_14 : decode prog_9_method_33_code 14 = .ok (.aload_n 0, 1) := by decide +kernel
theorem d_Mo_restart_15 : decode prog_9_method_33_code 15 = .ok (.iload_n 2, 1) := by decide +kernel
theorem d_Mo_restart_16 : decode prog_9_method_33_code 16 = .ok (.iload_n 2, 1) := by decide +kernel
theorem d_Mo_restart_17 : decode prog_9_method_33_code 17 = .ok (.ifCond .ne (16), 3) := by decide +kernel
theorem d_Mo_restart_20 : decode prog_9_method_33_code 20 = .ok (.aload_n 0, 1) := by decide +kernel
theorem d_Mo_restart_21 : decode prog_9_method_33_code 21 = .ok (.getfield 13, 3) := by decide +kernel
theorem d_Mo_restart_24 : decode prog_9_method_33_code 24 = .ok (.iload_n 1, 1) := by decide +kernel
theorem d_Mo_restart_25 : decode prog_9_method_33_code 25 = .ok (.baload, 1) := by decide +kernel
theorem d_Mo_restart_26 : decode prog_9_method_33_code 26 = .ok (.ifCond .ne (7), 3) := by decide +kernel
theorem d_Mo_restart_29 : decode prog_9_method_33_code 29 = .ok (.iconst 1, 1) := by decide +kernel
theorem d_Mo_restart_30 : decode prog_9_method_33_code 30 = .ok (.goto (4), 3) := by decide +kernel
theorem d_Mo_restart_33 : decode prog_9_method_33_code 33 = .ok (.iconst 0, 1) := by decide +kernel
theorem d_Mo_restart_34 : decode prog_9_method_33_code 34 = .ok (.iconst 0, 1) := by decide +kernel
theorem d_Mo_restart_35 : decode prog_9_method_33_code 35 = .ok (.invokevirtual 129, 3) := by decide +kernel
theorem d_Mo_restart_38 : decode prog_9_method_33_code 38 = .ok (.ifCond .eq (5), 3) := by decide +kernel
theorem d_Mo_restart_41 : decode prog_9_method_33_code 41 = .ok (.iconst 0, 1) := by decide +kernel
theorem d_Mo_restart_42 : decode prog_9_method_33_code 42 = .ok (.ireturn, 1) := by decide +kernel
theorem d_Mo_restart_43 : decode prog_9_method_33_code 43 = .ok (.aload_n 0, 1) := by decide +kernel
theorem d_Mo_restart_44 : decode prog_9_method_33_code 44 = .ok (.getfield 13, 3) := by decide +kernel
theorem d_Mo_restart_47 : decode prog_9_method_33_code 47 = .ok (.iload_n 1, 1) := by decide +kernel
theorem d_Mo_restart_48 : decode prog_9_method_33_code 48 = .ok (.iconst 0, 1) := by decide +kernel
theorem d_Mo_restart_49 : decode prog_9_method_33_code 49 = .ok (.bastore, 1) := by decide +kernel
theorem d_Mo_restart_50 : decode prog_9_method_33_code 50 = .ok (.aload_n 0, 1) := by decide +kernel
theorem d_Mo_restart_51 : decode prog_9_method_33_code 51 = .ok (.iload_n 1, 1) := by decide +kernel
theorem d_Mo_restart_52 : decode prog_9_method_33_code 52 = .ok (.invokevirtual 142, 3) := by decide +kernel
theorem d_Mo_restart_55 : decode prog_9_method_33_code 55 = .ok (.ireturn, 1) := by decide +kernel
theorem d_Mo_of1_0 : decode prog_9_method_34_code 0 = .ok (.aload_n 0, 1) := by decide +kernel
theorem d_Mo_of1_1 : decode prog_9_method_34_code 1 = .ok (.aload_n 0, 1) := by decide +kernel
theorem d_Mo_of1_2 : decode prog_9_method_34_code 2 = .ok (.iload_n 1, 1) := by decide +kernel
theorem d_Mo_of1_3 : decode prog_9_method_34_code 3 = .ok (.iload_n 2, 1) := by decide +kernel
theorem d_Mo_of1_4 : decode prog_9_method_34_code 4 = .ok (.invokevirtual 126, 3) := by decide +kernel
theorem d_Mo_of1_7 : decode prog_9_method_34_code 7 = .ok (.ifCond .eq (12), 3) := by decide +kernel
theorem d_Mo_of1_10 : decode prog_9_method_34_code 10 = .ok (.iload_n 3, 1) := by decide +kernel
theorem d_Mo_of1_11 : decode prog_9_method_34_code 11 = .ok (.ifCond .lt (8), 3) := by decide +kernel
theorem d_Mo_of1_14 : decode prog_9_method_34_code 14 = .ok (.iload_n 3, 1) := by decide +kernel
theorem d_Mo_of1_15 : decode prog_9_method_34_code 15 = .ok (.iconst 4, 1) := by decide +kernel
theorem d_Mo_of1_16 : decode prog_9_method_34_code 16 = .ok (.if_icmp .le (7), 3) := by decide +kernel
theorem d_Mo_of1_19 : decode prog_9_method_34_code 19 = .ok (.iconst 1, 1) := by decide +kernel
theorem d_Mo_of1_20 : decode prog_9_method_34_code 20 = .ok (.goto (4), 3) := by decide +kernel
theorem d_Mo_of1_23 : decode prog_9_method_34_code 23 = .ok (.iconst 0, 1) := by decide +kernel
theorem d_Mo_of1_24 : decode prog_9_method_34_code 24 = .ok (.iconst 0, 1) := by decide +kernel
theorem d_Mo_of1_25 : decode prog_9_method_34_code 25 = .ok (.iconst 0, 1) := by decide +kernel
theorem d_Mo_of1_26 : decode prog_9_method_34_code 26 = .ok (.invokevirtual 129, 3) := by decide +kernel
theorem d_Mo_of1_29 : decode prog_9_method_34_code 29 = .ok (.ifCond .eq (5), 3) := by decide +kernel
theorem d_Mo_of1_32 : decode prog_9_method_34_code 32 = .ok (.iconst 0, 1) := by decide +kernel
theorem d_Mo_of1_33 : decode prog_9_method_34_code 33 = .ok (.ireturn, 1) := by decide +kernel
theorem d_Mo_of1_34 : decode prog_9_method_34_code 34 = .ok (.iload_n 1, 1) := by decide +kernel
theorem d_Mo_of1_35 : decode prog_9_method_34_code 35 = .ok (.iload_n 2, 1) := by decide +kernel
theorem d_Mo_of1_36 : decode prog_9_method_34_code 36 = .ok (.invokestatic 116, 3) := by decide +kernel
theorem d_Mo_of1_39 : decode prog_9_method_34_code 39 = .ok (.istore 4, 2) := by decide +kernel
theorem d_Mo_of1_41 : decode prog_9_method_34_code 41 = .ok (.aload_n 0, 1) := by decide +kernel
theorem d_Mo_of1_42 : decode prog_9_method_34_code 42 = .ok (.getfield 17, 3) := by decide +kernel
theorem d_Mo_of1_45 : decode prog_9_method_34_code 45 = .ok (.iload_n 2, 1) := by decide +kernel
theorem d_Mo_of1_46 : decode prog_9_method_34_code 46 = .ok (.baload, 1) := by decide +kernel
theorem d_Mo_of1_47 : decode prog_9_method_34_code 47 = .ok (.ifCond .ne (5), 3) := by decide +kernel
theorem d_Mo_of1_50 : decode prog_9_method_34_code 50 = .ok (.iconst (-1), 1) := by decide +kernel
theorem d_Mo_of1_51 : decode prog_9_method_34_code 51 = .ok (.ireturn, 1) := by decide +kernel
theorem d_Mo_of1_52 : decode prog_9_method_34_code 52 = .ok (.iload_n 3, 1) := by decide +kernel
theorem d_Mo_of1_53 : decode prog_9_method_34_code 53 = .ok (.ifCond .ne (13), 3) := by decide +kernel
theorem d_Mo_of1_56 : decode prog_9_method_34_code 56 = .ok (.aload_n 0, 1) := by decide +kernel
theorem d_Mo_of1_57 : decode prog_9_method_34_code 57 = .ok (.getfield 20, 3) := by decide +kernel
theorem d_Mo_of1_60 : decode prog_9_method_34_code 60 = .ok (.iload 4, 2) := by decide +kernel
theorem d_Mo_of1_62 : decode prog_9_method_34_code 62 = .ok (.iaload, 1) := by decide +kernel
theorem d_Mo_of1_63 : decode prog_9_method_34_code 63 = .ok (.goto (55), 3) := by decide +kernel
theorem d_Mo_of1_66 : decode prog_9_method_34_code 66 = .ok (.iload_n 3, 1) := by decide +kernel
theorem d_Mo_of1_67 : decode prog_9_method_34_code 67 = .ok (.iconst 1, 1) := by decide +kernel
theorem d_Mo_of1_68 : decode prog_9_method_34_code 68 = .ok (.if_icmp .ne (13), 3) := by decide +kernel
theorem d_Mo_of1_71 : decode prog_9_method_34_code 71 = .ok (.aload_n 0, 1) := by decide +kernel
theorem d_Mo_of1_72 : decode prog_9_method_34_code 72 = .ok (.getfield 23, 3) := by decide +kernel
theorem d_Mo_of1_75 : decode prog_9_method_34_code 75 = .ok (.iload 4, 2) := by decide +kernel
theorem d_Mo_of1_77 : decode prog_9_method_34_code 77 = .ok (.iaload, 1) := by decide +kernel
theorem d_Mo_of1_78 : decode prog_9_method_34_code 78 = .ok (.goto (40), 3) := by decide +kernel
theorem d_Mo_of1_81 : decode prog_9_method_34_code 81 = .ok (.iload_n 3, 1) := by decide +kernel
theorem d_Mo_of1_82 : decode prog_9_method_34_code 82 = .ok (.iconst 2, 1) := by decide +kernel
theorem d_Mo_of1_83 : decode prog_9_method_34_code 83 = .ok (.if_icmp .ne (13), 3) := by decide +kernel
theorem d_Mo_of1_86 : decode prog_9_method_34_code 86 = .ok (.aload_n 0, 1) := by decide +kernel
theorem d_Mo_of1_87 : decode prog_9_method_34_code 87 = .ok (.getfield 26, 3) := by decide +kernel
theorem d_Mo_of1_90 : decode prog_9_method_34_code 90 = .ok (.iload 4, 2) := by decide +kernel
theorem d_Mo_of1_92 : decode prog_9_method_34_code 92 = .ok (.iaload, 1) := by decide +kernel
theorem d_Mo_of1_93 : decode prog_9_method_34_code 93 = .ok (.goto (25), 3) := by decide +kernel
theorem d_Mo_of1_96 : decode prog_9_method_34_code 96 = .ok (.iload_n 3, 1) := by decide +kernel
theorem d_Mo_of1_97 : decode prog_9_method_34_code 97 = .ok (.iconst 3, 1) := by decide +kernel
theorem d_Mo_of1_98 : decode prog_9_method_34_code 98 = .ok (.if_icmp .ne (13), 3) := by decide +kernel
theorem d_Mo_of1_101 : decode prog_9_method_34_code 101 = .ok (.aload_n 0, 1) := by decide +kernel
theorem d_Mo_of1_102 : decode prog_9_method_34_code 102 = .ok (.getfield 32, 3) := by decide +kernel
theorem d_Mo_of1_105 : decode prog_9_method_34_code 105 = .ok (.iload 4, 2) := by decide +kernel
theorem d_Mo_of1_107 : decode prog_9_method_34_code 107 = .ok (.iaload, 1) := by decide +kernel
theorem d_Mo_of1_108 : decode prog_9_method_34_code 108 = .ok (.goto (10), 3) := by decide +kernel
theorem d_Mo_of1_111 : decode prog_9_method_34_code 111 = .ok (.aload_n 0, 1) := by decide +kernel
theorem d_Mo_of1_112 : decode prog_9_method_34_code 112 = .ok (.getfield 29, 3) := by decide +kernel
theorem d_Mo_of1_115 : decode prog_9_method_34_code 115 = .ok (.iload 4, 2) := by decide +kernel
theorem d_Mo_of1_117 : decode prog_9_method_34_code 117 = .ok (.iaload, 1) := by decide +kernel
theorem d_Mo_of1_118 : decode prog_9_method_34_code 118 = .ok (.ireturn, 1) := by decide +kernel
theorem d_Mo_reader_0 : decode prog_9_method_35_code 0 = .ok (.aload_n 0, 1) := by decide +kernel
theorem d_Mo_reader_1 : decode prog_9_method_35_code 1 = .ok (.aload_n 0, 1) := by decide +kernel
theorem d_Mo_reader_2 : decode prog_9_method_35_code 2 = .ok (.iload_n 1, 1) := by decide +kernel
theorem d_Mo_reader_3 : decode prog_9_method_35_code 3 = .ok (.iload_n 2, 1) := by decide +kernel
theorem d_Mo_reader_4 : decode prog_9_method_35_code 4 = .ok (.invokevirtual 126, 3) := by decide +kernel
theorem d_Mo_reader_7 : decode prog_9_method_35_code 7 = .ok (.ifCond .ne (7), 3) := by decide +kernel
theorem d_Mo_reader_10 : decode prog_9_method_35_code 10 = .ok (.iconst 1, 1) := by decide +kernel
theorem d_Mo_reader_11 : decode prog_9_method_35_code 11 = .ok (.goto (4), 3) := by decide +kernel
theorem d_Mo_reader_14 : decode prog_9_method_35_code 14 = .ok (.iconst 0, 1) := by decide +kernel
theorem d_Mo_reader_15 : decode prog_9_method_35_code 15 = .ok (.iconst 0, 1) := by decide +kernel
theorem d_Mo_reader_16 : decode prog_9_method_35_code 16 = .ok (.iconst 0, 1) := by decide +kernel
theorem d_Mo_reader_17 : decode prog_9_method_35_code 17 = .ok (.invokevirtual 129, 3) := by decide +kernel
theorem d_Mo_reader_20 : decode prog_9_method_35_code 20 = .ok (.ifCond .eq (5), 3) := by decide +kernel
theorem d_Mo_reader_23 : decode prog_9_method_35_code 23 = .ok (.iconst 0, 1) := by decide +kernel
theorem d_Mo_reader_24 : decode prog_9_method_35_code 24 = .ok (.ireturn, 1) := by decide +kernel
theorem d_Mo_reader_25 : decode prog_9_method_35_code 25 = .ok (.iload_n 3, 1) := by decide +kernel
theorem d_Mo_reader_26 : decode prog_9_method_35_code 26 = .ok (.ifCond .lt (34), 3) := by decide +kernel
theorem d_Mo_reader_29 : decode prog_9_method_35_code 29 = .ok (.iload_n 3, 1) := by decide +kernel
theorem d_Mo_reader_30 : decode prog_9_method_35_code 30 = .ok (.aload_n 0, 1) := by decide +kernel
theorem d_Mo_reader_31 : decode prog_9_method_35_code 31 = .ok (.getfield 32, 3) := by decide +kernel
theorem d_Mo_reader_34 : decode prog_9_method_35_code 34 = .ok (.iload_n 1, 1) := by decide +kernel
theorem d_Mo_reader_35 : decode prog_9_method_35_code 35 = .ok (.iload_n 2, 1) := by decide +kernel
theorem d_Mo_reader_36 : decode prog_9_method_35_code 36 = .ok (.invokestatic 116, 3) := by decide +kernel
theorem d_Mo_reader_39 : decode prog_9_method_35_code 39 = .ok (.iaload, 1) := by decide +kernel
theorem d_Mo_reader_40 : decode prog_9_method_35_code 40 = .ok (.if_icmp .ge (20), 3) := by decide +kernel
theorem d_Mo_reader_43 : decode prog_9_method_35_code 43 = .ok (.aload_n 0, 1) := by decide +kernel
theorem d_Mo_reader_44 : decode prog_9_method_35_code 44 = .ok (.getfield 35, 3) := by decide +kernel
theorem d_Mo_reader_47 : decode prog_9_method_35_code 47 = .ok (.iconst 4, 1) := by decide +kernel
theorem d_Mo_reader_48 : decode prog_9_method_35_code 48 = .ok (.iload_n 1, 1) := by decide +kernel
theorem d_Mo_reader_49 : decode prog_9_method_35_code 49 = .ok (.iload_n 2, 1) := by decide +kernel
theorem d_Mo_reader_50 : decode prog_9_method_35_code 50 = .ok (.invokestatic 116, 3) := by decide +kernel
theorem d_Mo_reader_53 : decode prog_9_method_35_code 53 = .ok (.imul, 1) := by decide +kernel
theorem d_Mo_reader_54 : decode prog_9_method_35_code 54 = .ok (.iload_n 3, 1) := by decide +kernel
theorem d_Mo_reader_55 : decode prog_9_method_35_code 55 = .ok (.iadd, 1) := by decide +kernel
theorem d_Mo_reader_56 : decode prog_9_method_35_code 56 = .ok (.iaload, 1) := by decide +kernel
theorem d_Mo_reader_57 : decode prog_9_method_35_code 57 = .ok (.goto (4), 3) := by decide +kernel
theorem d_Mo_reader_60 : decode prog_9_method_35_code 60 = .ok (.iconst (-1), 1) := by decide +kernel
theorem d_Mo_reader_61 : decode prog_9_method_35_code 61 = .ok (.ireturn, 1) := by decide +kernel
theorem d_Mo_place_0 : decode prog_9_method_36_code 0 = .ok (.aload_n 0, 1) := by decide +kernel
theorem d_Mo_place_1 : decode prog_9_method_36_code 1 = .ok (.iload_n 1, 1) := by decide +kernel
theorem d_Mo_place_2 : decode prog_9_method_36_code 2 = .ok (.invokestatic 94, 3) := by decide +kernel
theorem d_Mo_place_5 : decode prog_9_method_36_code 5 = .ok (.ifCond .ne (7), 3) := by decide +kernel
theorem d_Mo_place_8 : decode prog_9_method_36_code 8 = .ok (.iconst 1, 1) := by decide +kernel
theorem d_Mo_place_9 : decode prog_9_method_36_code 9 = .ok (.goto (4), 3) := by decide +kernel
theorem d_Mo_place_12 : decode prog_9_method_36_code 12 = .ok (.iconst 0, 1) := by decide +kernel
theorem d_Mo_place_13 : decode prog_9_method_36_code 13 = .ok (.iconst 0, 1) := by decide +kernel
theorem d_Mo_place_14 : decode prog_9_method_36_code 14 = .ok (.iconst 0, 1) := by decide +kernel
theorem d_Mo_place_15 : decode prog_9_method_36_code 15 = .ok (.invokevirtual 129, 3) := by decide +kernel
theorem d_Mo_place_18 : decode prog_9_method_36_code 18 = .ok (.ifCond .eq (5), 3) := by decide +kernel
theorem d_Mo_place_21 : decode prog_9_method_36_code 21 = .ok (.iconst 0, 1) := by decide +kernel
theorem d_Mo_place_22 : decode prog_9_method_36_code 22 = .ok (.ireturn, 1) := by decide +kernel
theorem d_Mo_place_23 : decode prog_9_method_36_code 23 = .ok (.aload_n 0, 1) := by decide +kernel
theorem d_Mo_place_24 : decode prog_9_method_36_code 24 = .ok (.getfield 41, 3) := by decide +kernel
theorem d_Mo_place_27 : decode prog_9_method_36_code 27 = .ok (.iload_n 1, 1) := by decide +kernel
theorem d_Mo_place_28 : decode prog_9_method_36_code 28 = .ok (.baload, 1) := by decide +kernel
theorem d_Mo_place_29 : decode prog_9_method_36_code 29 = .ok (.ifCond .eq (15), 3) := by decide +kernel
theorem d_Mo_place_32 : decode prog_9_method_36_code 32 = .ok (.bipush 16, 2) := by decide +kernel
theorem d_Mo_place_34 : decode prog_9_method_36_code 34 = .ok (.aload_n 0, 1) := by decide +kernel
theorem d_Mo_place_35 : decode prog_9_method_36_code 35 = .ok (.getfield 38, 3) := by decide +kernel
theorem d_Mo_place_38 : decode prog_9_method_36_code 38 = .ok (.iload_n 1, 1) := by decide +kernel
theorem d_Mo_place_39 : decode prog_9_method_36_code 39 = .ok (.iaload, 1) := by decide +kernel
theorem d_Mo_place_40 : decode prog_9_method_36_code 40 = .ok (.iadd, 1) := by decide +kernel
theorem d_Mo_place_41 : decode prog_9_method_36_code 41 = .ok (.goto (9), 3) := by decide +kernel
theorem d_Mo_place_44 : decode prog_9_method_36_code 44 = .ok (.aload_n 0, 1) := by decide +kernel
theorem d_Mo_place_45 : decode prog_9_method_36_code 45 = .ok (.getfield 38, 3) := by decide +kernel
theorem d_Mo_place_48 : decode prog_9_method_36_code 48 = .ok (.iload_n 1, 1) := by decide +kernel
theorem d_Mo_place_49 : decode prog_9_method_36_code 49 = .ok (.iaload, 1) := by decide +kernel
theorem d_Mo_place_50 : decode prog_9_method_36_code 50 = .ok (.ireturn, 1) := by decide +kernel
theorem d_Mo_chain_0 : decode prog_9_method_37_code 0 = .ok (.aload_n 0, 1) := by decide +kernel
theorem d_Mo_chain_1 : decode prog_9_method_37_code 1 = .ok (.iload_n 1, 1) := by decide +kernel
theorem d_Mo_chain_2 : decode prog_9_method_37_code 2 = .ok (.invokestatic 94, 3) := by decide +kernel
theorem d_Mo_chain_5 : decode prog_9_method_37_code 5 = .ok (.ifCond .ne (7), 3) := by decide +kernel
theorem d_Mo_chain_8 : decode prog_9_method_37_code 8 = .ok (.iconst 1, 1) := by decide +kernel
theorem d_Mo_chain_9 : decode prog_9_method_37_code 9 = .ok (.goto (4), 3) := by decide +kernel
theorem d_Mo_chain_12 : decode prog_9_method_37_code 12 = .ok (.iconst 0, 1) := by decide +kernel
theorem d_Mo_chain_13 : decode prog_9_method_37_code 13 = .ok (.iconst 0, 1) := by decide +kernel
theorem d_Mo_chain_14 : decode prog_9_method_37_code 14 = .ok (.iconst 0, 1) := by decide +kernel
theorem d_Mo_chain_15 : decode prog_9_method_37_code 15 = .ok (.invokevirtual 129, 3) := by decide +kernel
theorem d_Mo_chain_18 : decode prog_9_method_37_code 18 = .ok (.ifCond .ne (7), 3) := by decide +kernel
theorem d_Mo_chain_21 : decode prog_9_method_37_code 21 = .ok (.iload_n 2, 1) := by decide +kernel
theorem d_Mo_chain_22 : decode prog_9_method_37_code 22 = .ok (.ifCond .ge (16), 3) := by decide +kernel
theorem d_Mo_chain_25 : decode prog_9_method_37_code 25 = .ok (.iload_n 1, 1) := by decide +kernel
theorem d_Mo_chain_26 : decode prog_9_method_37_code 26 = .ok (.invokestatic 94, 3) := by decide +kernel
theorem d_Mo_chain_29 : decode prog_9_method_37_code 29 = .ok (.ifCond .eq (7), 3) := by decide +kernel
theorem d_Mo_chain_32 : decode prog_9_method_37_code 32 = .ok (.iconst (-1), 1) := by decide +kernel
theorem d_Mo_chain_33 : decode prog_9_method_37_code 33 = .ok (.goto (4), 3) := by decide +kernel
theorem d_Mo_chain_36 : decode prog_9_method_37_code 36 = .ok (.iconst 0, 1) := by decide +kernel
theorem d_Mo_chain_37 : decode prog_9_method_37_code 37 = .ok (.ireturn, 1) := by decide +kernel
theorem d_Mo_chain_38 : decode prog_9_method_37_code 38 = .ok (.aload_n 0, 1) := by decide +kernel
theorem d_Mo_chain_39 : decode prog_9_method_37_code 39 = .ok (.getfield 38, 3) := by decide +kernel
theorem d_Mo_chain_42 : decode prog_9_method_37_code 42 = .ok (.iload_n 1, 1) := by decide +kernel
theorem d_Mo_chain_43 : decode prog_9_method_37_code 43 = .ok (.iaload, 1) := by decide +kernel
theorem d_Mo_chain_44 : decode prog_9_method_37_code 44 = .ok (.istore_n 3, 1) := by decide +kernel
theorem d_Mo_chain_45 : decode prog_9_method_37_code 45 = .ok (.iconst 0, 1) := by decide +kernel
theorem d_Mo_chain_46 : decode prog_9_method_37_code 46 = .ok (.istore 4, 2) := by decide +kernel
theorem d_Mo_chain_48 : decode prog_9_method_37_code 48 = .ok (.iload 4, 2) := by decide +kernel
theorem d_Mo_chain_50 : decode prog_9_method_37_code 50 = .ok (.iload_n 2, 1) := by decide +kernel
theorem d_Mo_chain_51 : decode prog_9_method_37_code 51 = .ok (.if_icmp .ge (31), 3) := by decide +kernel
theorem d_Mo_chain_54 : decode prog_9_method_37_code 54 = .ok (.iload 4, 2) := by decide +kernel
theorem d_Mo_chain_56 : decode prog_9_method_37_code 56 = .ok (.bipush 40, 2) := by decide +kernel
theorem d_Mo_chain_58 : decode prog_9_method_37_code 58 = .ok (.if_icmp .ge (24), 3) := by decide +kernel
theorem d_Mo_chain_61 : decode prog_9_method_37_code 61 = .ok (.iload_n 3, 1) := by decide +kernel
theorem d_Mo_chain_62 : decode prog_9_method_37_code 62 = .ok (.ifCond .lt (20), 3) := by decide +kernel
theorem d_Mo_chain_65 : decode prog_9_method_37_code 65 = .ok (.aload_n 0, 1) := by decide +kernel
theorem d_Mo_chain_66 : decode prog_9_method_37_code 66 = .ok (.getfield 23, 3) := by decide +kernel
theorem d_Mo_chain_69 : decode prog_9_method_37_code 69 = .ok (.iload_n 3, 1) := by decide +kernel
theorem d_Mo_chain_70 : decode prog_9_method_37_code 70 = .ok (.iload_n 1, 1) := by decide +kernel
theorem d_Mo_chain_71 : decode prog_9_method_37_code 71 = .ok (.invokestatic 116, 3) := by decide +kernel
theorem d_Mo_chain_74 : decode prog_9_method_37_code 74 = .ok (.iaload, 1) := by decide +kernel
theorem d_Mo_chain_75 : decode prog_9_method_37_code 75 = .ok (.istore_n 3, 1) := by decide +kernel
theorem d_Mo_chain_76 : decode prog_9_method_37_code 76 = .ok (.iinc 4 1, 3) := by decide +kernel
theorem d_Mo_chain_79 : decode prog_9_method_37_code 79 = .ok (.goto (-31), 3) := by decide +kernel
theorem d_Mo_chain_82 : decode prog_9_method_37_code 82 = .ok (.iload_n 2, 1) := by decide +kernel
theorem d_Mo_chain_83 : decode prog_9_method_37_code 83 = .ok (.bipush 40, 2) := by decide +kernel
theorem d_Mo_chain_85 : decode prog_9_method_37_code 85 = .ok (.if_icmp .le (7), 3) := by decide +kernel
theorem d_Mo_chain_88 : decode prog_9_method_37_code 88 = .ok (.iconst (-1), 1) := by decide +kernel
theorem d_Mo_chain_89 : decode prog_9_method_37_code 89 = .ok (.goto (4), 3) := by decide +kernel
theorem d_Mo_chain_92 : decode prog_9_method_37_code 92 = .ok (.iload_n 3, 1) := by decide +kernel
theorem d_Mo_chain_93 : decode prog_9_method_37_code 93 = .ok (.ireturn, 1) := by decide +kernel
theorem d_Mo_served_0 : decode prog_9_method_38_code 0 = .ok (.aload_n 0, 1) := by decide +kernel
theorem d_Mo_served_1 : decode prog_9_method_38_code 1 = .ok (.iload_n 1, 1) := by decide +kernel
theorem d_Mo_served_2 : decode prog_9_method_38_code 2 = .ok (.invokestatic 94, 3) := by decide +kernel
theorem d_Mo_served_5 : decode prog_9_method_38_code 5 = .ok (.ifCond .ne (7), 3) := by decide +kernel
theorem d_Mo_served_8 : decode prog_9_method_38_code 8 = .ok (.iconst 1, 1) := by decide +kernel
theorem d_Mo_served_9 : decode prog_9_method_38_code 9 = .ok (.goto (4), 3) := by decide +kernel
theorem d_Mo_served_12 : decode prog_9_method_38_code 12 = .ok (.iconst 0, 1) := by decide +kernel
theorem d_Mo_served_13 : decode prog_9_method_38_code 13 = .ok (.iconst 0, 1) := by decide +kernel
theorem d_Mo_served_14 : decode prog_9_method_38_code 14 = .ok (.iconst 0, 1) := by decide +kernel
theorem d_Mo_served_15 : decode prog_9_method_38_code 15 = .ok (.invokevirtual 129, 3) := by decide +kernel
theorem d_Mo_served_18 : decode prog_9_method_38_code 18 = .ok (.ifCond .eq (5), 3) := by decide +kernel
theorem d_Mo_served_21 : decode prog_9_method_38_code 21 = .ok (.iconst 0, 1) := by decide +kernel
theorem d_Mo_served_22 : decode prog_9_method_38_code 22 = .ok (.ireturn, 1) := by decide +kernel
theorem d_Mo_served_23 : decode prog_9_method_38_code 23 = .ok (.iload_n 2, 1) := by decide +kernel
theorem d_Mo_served_24 : decode prog_9_method_38_code 24 = .ok (.ifCond .lt (28), 3) := by decide +kernel
theorem d_Mo_served_27 : decode prog_9_method_38_code 27 = .ok (.iload_n 2, 1) := by decide +kernel
theorem d_Mo_served_28 : decode prog_9_method_38_code 28 = .ok (.aload_n 0, 1) := by decide +kernel
theorem d_Mo_served_29 : decode prog_9_method_38_code 29 = .ok (.getfield 44, 3) := by decide +kernel
theorem d_Mo_served_32 : decode prog_9_method_38_code 32 = .ok (.iload_n 1, 1) := by decide +kernel
theorem d_Mo_served_33 : decode prog_9_method_38_code 33 = .ok (.iaload, 1) := by decide +kernel
theorem d_Mo_served_34 : decode prog_9_method_38_code 34 = .ok (.if_icmp .ge (18), 3) := by decide +kernel
theorem d_Mo_served_37 : decode prog_9_method_38_code 37 = .ok (.aload_n 0, 1) := by decide +kernel
theorem d_Mo_served_38 : decode prog_9_method_38_code 38 = .ok (.getfield 47, 3) := by decide +kernel
theorem d_Mo_served_41 : decode prog_9_method_38_code 41 = .ok (.sipush 200, 3) := by decide +kernel
theorem d_Mo_served_44 : decode prog_9_method_38_code 44 = .ok (.iload_n 1, 1) := by decide +kernel
theorem d_Mo_served_45 : decode prog_9_method_38_code 45 = .ok (.imul, 1) := by decide +kernel
theorem d_Mo_served_46 : decode prog_9_method_38_code 46 = .ok (.iload_n 2, 1) := by decide +kernel
theorem d_Mo_served_47 : decode prog_9_method_38_code 47 = .ok (.iadd, 1) := by decide +kernel
theorem d_Mo_served_48 : decode prog_9_method_38_code 48 = .ok (.iaload, 1) := by decide +kernel
theorem d_Mo_served_49 : decode prog_9_method_38_code 49 = .ok (.goto (4), 3) := by decide +kernel
theorem d_Mo_served_52 : decode prog_9_method_38_code 52 = .ok (.iconst (-1), 1) := by decide +kernel
theorem d_Mo_served_53 : decode prog_9_method_38_code 53 = .ok (.ireturn, 1) := by decide +kernel
theorem d_Mo_leads_0 : decode prog_9_method_39_code 0 = .ok (.aload_n 0, 1) := by decide +kernel
theorem d_Mo_leads_1 : decode prog_9_method_39_code 1 = .ok (.iload_n 1, 1) := by decide +kernel
theorem d_Mo_leads_2 : decode prog_9_method_39_code 2 = .ok (.iload_n 2, 1) := by decide +kernel
theorem d_Mo_leads_3 : decode prog_9_method_39_code 3 = .ok (.invokevirtual 126, 3) := by decide +kernel
theorem d_Mo_leads_6 : decode prog_9_method_39_code 6 = .ok (.ifCond .ne (7), 3) := by decide +kernel
theorem d_Mo_leads_9 : decode prog_9_method_39_code 9 = .ok (.iconst 1, 1) := by decide +kernel
theorem d_Mo_leads_10 : decode prog_9_method_39_code 10 = .ok (.goto (4), 3) := by decide +kernel
theorem d_Mo_leads_13 : decode prog_9_method_39_code 13 = .ok (.iconst 0, 1) := by decide +kernel
theorem d_Mo_leads_14 : decode prog_9_method_39_code 14 = .ok (.istore_n 3, 1) := by decide +kernel
theorem d_Mo_leads_15 : decode prog_9_method_39_code 15 = .ok (.aload_n 0, 1) := by decide +kernel
theorem d_Mo_leads_16 : decode prog_9_method_39_code 16 = .ok (.iload_n 3, 1) := by decide +kernel
theorem d_Mo_leads_17 : decode prog_9_method_39_code 17 = .ok (.iload_n 3, 1) := by decide +kernel
theorem d_Mo_leads_18 : decode prog_9_method_39_code 18 = .ok (.ifCond .ne (16), 3) := by decide +kernel
theorem d_Mo_leads_21 : decode prog_9_method_39_code 21 = .ok (.aload_n 0, 1) := by decide +kernel
theorem d_Mo_leads_22 : decode prog_9_method_39_code 22 = .ok (.getfield 17, 3) := by decide +kernel
theorem d_Mo_leads_25 : decode prog_9_method_39_code 25 = .ok (.iload_n 2, 1) := by decide +kernel
theorem d_Mo_leads_26 : decode prog_9_method_39_code 26 = .ok (.baload, 1) := by decide +kernel
theorem d_Mo_leads_27 : decode prog_9_method_39_code 27 = .ok (.ifCond .ne (7), 3) := by decide +kernel
theorem d_Mo_leads_30 : decode prog_9_method_39_code 30 = .ok (.iconst 1, 1) := by decide +kernel
theorem d_Mo_leads_31 : decode prog_9_method_39_code 31 = .ok (.goto (4), 3) := by decide +kernel
theorem d_Mo_leads_34 : decode prog_9_method_39_code 34 = .ok (.iconst 0, 1) := by decide +kernel
theorem d_Mo_leads_35 : decode prog_9_method_39_code 35 = .ok (.iconst 0, 1) := by decide +kernel
theorem d_Mo_leads_36 : decode prog_9_method_39_code 36 = .ok (.invokevirtual 129, 3) := by decide +kernel
theorem d_Mo_leads_39 : decode prog_9_method_39_code 39 = .ok (.ifCond .eq (5), 3) := by decide +kernel
theorem d_Mo_leads_42 : decode prog_9_method_39_code 42 = .ok (.iconst 0, 1) := by decide +kernel
theorem d_Mo_leads_43 : decode prog_9_method_39_code 43 = .ok (.ireturn, 1) := by decide +kernel
theorem d_Mo_leads_44 : decode prog_9_method_39_code 44 = .ok (.iload_n 1, 1) := by decide +kernel
theorem d_Mo_leads_45 : decode prog_9_method_39_code 45 = .ok (.istore 4, 2) := by decide +kernel
theorem d_Mo_leads_47 : decode prog_9_method_39_code 47 = .ok (.iconst 0, 1) := by decide +kernel
theorem d_Mo_leads_48 : decode prog_9_method_39_code 48 = .ok (.istore 5, 2) := by decide +kernel
theorem d_Mo_leads_50 : decode prog_9_method_39_code 50 = .ok (.iload 5, 2) := by decide +kernel
theorem d_Mo_leads_52 : decode prog_9_method_39_code 52 = .ok (.bipush 40, 2) := by decide +kernel
theorem d_Mo_leads_54 : decode prog_9_method_39_code 54 = .ok (.if_icmp .ge (38), 3) := by decide +kernel
theorem d_Mo_leads_57 : decode prog_9_method_39_code 57 = .ok (.aload_n 0, 1) := by decide +kernel
theorem d_Mo_leads_58 : decode prog_9_method_39_code 58 = .ok (.getfield 20, 3) := by decide +kernel
theorem d_Mo_leads_61 : decode prog_9_method_39_code 61 = .ok (.iload 4, 2) := by decide +kernel
theorem d_Mo_leads_63 : decode prog_9_method_39_code 63 = .ok (.iload_n 2, 1) := by decide +kernel
theorem d_Mo_leads_64 : decode prog_9_method_39_code 64 = .ok (.invokestatic 116, 3) := by decide +kernel
theorem d_Mo_leads_67 : decode prog_9_method_39_code 67 = .ok (.iaload, 1) := by decide +kernel
theorem d_Mo_leads_68 : decode prog_9_method_39_code 68 = .ok (.iload 4, 2) := by decide +kernel
theorem d_Mo_leads_70 : decode prog_9_method_39_code 70 = .ok (.if_icmp .eq (22), 3) := by decide +kernel
theorem d_Mo_leads_73 : decode prog_9_method_39_code 73 = .ok (.aload_n 0, 1) := by decide +kernel
theorem d_Mo_leads_74 : decode prog_9_method_39_code 74 = .ok (.getfield 20, 3) := by decide +kernel
theorem d_Mo_leads_77 : decode prog_9_method_39_code 77 = .ok (.iload 4, 2) := by decide +kernel
theorem d_Mo_leads_79 : decode prog_9_method_39_code 79 = .ok (.iload_n 2, 1) := by decide +kernel
theorem d_Mo_leads_80 : decode prog_9_method_39_code 80 = .ok (.invokestatic 116, 3) := by decide +kernel
theorem d_Mo_leads_83 : decode prog_9_method_39_code 83 = .ok (.iaload, 1) := by decide +kernel
theorem d_Mo_leads_84 : decode prog_9_method_39_code 84 = .ok (.istore 4, 2) := by decide +kernel
theorem d_Mo_leads_86 : decode prog_9_method_39_code 86 = .ok (.iinc 5 1, 3) := by decide +kernel
theorem d_Mo_leads_89 : decode prog_9_method_39_code 89 = .ok (.goto (-39), 3) := by decide +kernel
theorem d_Mo_leads_92 : decode prog_9_method_39_code 92 = .ok (.aload_n 0, 1) := by decide +kernel
theorem d_Mo_leads_93 : decode prog_9_method_39_code 93 = .ok (.getfield 38, 3) := by decide +kernel
theorem d_Mo_leads_96 : decode prog_9_method_39_code 96 = .ok (.iload_n 2, 1) := by decide +kernel
theorem d_Mo_leads_97 : decode prog_9_method_39_code 97 = .ok (.iaload, 1) := by decide +kernel
theorem d_Mo_leads_98 : decode prog_9_method_39_code 98 = .ok (.istore 5, 2) := by decide +kernel
theorem d_Mo_leads_100 : decode prog_9_method_39_code 100 = .ok (.iconst 0, 1) := by decide +kernel
theorem d_Mo_leads_101 : decode prog_9_method_39_code 101 = .ok (.istore 6, 2) := by decide +kernel
theorem d_Mo_leads_103 : decode prog_9_method_39_code 103 = .ok (.iload 6, 2) := by decide +kernel
theorem d_Mo_leads_105 : decode prog_9_method_39_code 105 = .ok (.bipush 40, 2) := by decide +kernel
theorem d_Mo_leads_107 : decode prog_9_method_39_code 107 = .ok (.if_icmp .ge (36), 3) := by decide +kernel
theorem d_Mo_leads_110 : decode prog_9_method_39_code 110 = .ok (.aload_n 0, 1) := by decide +kernel
theorem d_Mo_leads_111 : decode prog_9_method_39_code 111 = .ok (.getfield 23, 3) := by decide +kernel
theorem d_Mo_leads_114 : decode prog_9_method_39_code 114 = .ok (.iload 5, 2) := by decide +kernel
theorem d_Mo_leads_116 : decode prog_9_method_39_code 116 = .ok (.iload_n 2, 1) := by decide +kernel
theorem d_Mo_leads_117 : decode prog_9_method_39_code 117 = .ok (.invokestatic 116, 3) := by decide +kernel
theorem d_Mo_leads_120 : decode prog_9_method_39_code 120 = .ok (.iaload, 1) := by decide +kernel
theorem d_Mo_leads_121 : decode prog_9_method_39_code 121 = .ok (.ifCond .lt (22), 3) := by decide +kernel
theorem d_Mo_leads_124 : decode prog_9_method_39_code 124 = .ok (.aload_n 0, 1) := by decide +kernel
theorem d_Mo_leads_125 : decode prog_9_method_39_code 125 = .ok (.getfield 23, 3) := by decide +kernel
theorem d_Mo_leads_128 : decode prog_9_method_39_code 128 = .ok (.iload 5, 2) := by decide +kernel
theorem d_Mo_leads_130 : decode prog_9_method_39_code 130 = .ok (.iload_n 2, 1) := by decide +kernel
theorem d_Mo_leads_131 : decode prog_9_method_39_code 131 = .ok (.invokestatic 116, 3) := by decide +kernel
theorem d_Mo_leads_134 : decode prog_9_method_39_code 134 = .ok (.iaload, 1) := by decide +kernel
theorem d_Mo_leads_135 : decode prog_9_method_39_code 135 = .ok (.istore 5, 2) := by decide +kernel
theorem d_Mo_leads_137 : decode prog_9_method_39_code 137 = .ok (.iinc 6 1, 3) := by decide +kernel
theorem d_Mo_leads_140 : decode prog_9_method_39_code 140 = .ok (.goto (-37), 3) := by decide +kernel
theorem d_Mo_leads_143 : decode prog_9_method_39_code 143 = .ok (.iload 4, 2) := by decide +kernel
theorem d_Mo_leads_145 : decode prog_9_method_39_code 145 = .ok (.iload 5, 2) := by decide +kernel
theorem d_Mo_leads_147 : decode prog_9_method_39_code 147 = .ok (.if_icmp .ne (7), 3) := by decide +kernel
theorem d_Mo_leads_150 : decode prog_9_method_39_code 150 = .ok (.iconst 1, 1) := by decide +kernel
theorem d_Mo_leads_151 : decode prog_9_method_39_code 151 = .ok (.goto (4), 3) := by decide +kernel
theorem d_Mo_leads_154 : decode prog_9_method_39_code 154 = .ok (.iconst 0, 1) := by decide +kernel
theorem d_Mo_leads_155 : decode prog_9_method_39_code 155 = .ok (.ireturn, 1) := by decide +kernel
theorem d_Mo_quiet_0 : decode prog_9_method_40_code 0 = .ok (.aload_n 0, 1) := by decide +kernel
theorem d_Mo_quiet_1 : decode prog_9_method_40_code 1 = .ok (.iconst 0, 1) := by decide +kernel
theorem d_Mo_quiet_2 : decode prog_9_method_40_code 2 = .ok (.putfield 87, 3) := by decide +kernel
theorem d_Mo_quiet_5 : decode prog_9_method_40_code 5 = .ok (.aload_n 0, 1) := by decide +kernel
theorem d_Mo_quiet_6 : decode prog_9_method_40_code 6 = .ok (.getfield 41, 3) := by decide +kernel
theorem d_Mo_quiet_9 : decode prog_9_method_40_code 9 = .ok (.iconst 0, 1) := by decide +kernel
theorem d_Mo_quiet_10 : decode prog_9_method_40_code 10 = .ok (.baload, 1) := by decide +kernel
theorem d_Mo_quiet_11 : decode prog_9_method_40_code 11 = .ok (.ifCond .ne (25), 3) := by decide +kernel
theorem d_Mo_quiet_14 : decode prog_9_method_40_code 14 = .ok (.aload_n 0, 1) := by decide +kernel
theorem d_Mo_quiet_15 : decode prog_9_method_40_code 15 = .ok (.getfield 41, 3) := by decide +kernel
theorem d_Mo_quiet_18 : decode prog_9_method_40_code 18 = .ok (.iconst 1, 1) := by decide +kernel
theorem d_Mo_quiet_19 : decode prog_9_method_40_code 19 = .ok (.baload, 1) := by decide +kernel
theorem d_Mo_quiet_20 : decode prog_9_method_40_code 20 = .ok (.ifCond .ne (16), 3) := by decide +kernel
theorem d_Mo_quiet_23 : decode prog_9_method_40_code 23 = .ok (.aload_n 0, 1) := by decide +kernel
theorem d_Mo_quiet_24 : decode prog_9_method_40_code 24 = .ok (.getfield 41, 3) := by decide +kernel
theorem d_Mo_quiet_27 : decode prog_9_method_40_code 27 = .ok (.iconst 2, 1) := by decide +kernel
theorem d_Mo_quiet_28 : decode prog_9_method_40_code 28 = .ok (.baload, 1) := by decide +kernel
theorem d_Mo_quiet_29 : decode prog_9_method_40_code 29 = .ok (.ifCond .ne (7), 3) := by decide +kernel
theorem d_Mo_quiet_32 : decode prog_9_method_40_code 32 = .ok (.iconst 1, 1) := by decide +kernel
theorem d_Mo_quiet_33 : decode prog_9_method_40_code 33 = .ok (.goto (4), 3) := by decide +kernel
theorem d_Mo_quiet_36 : decode prog_9_method_40_code 36 = .ok (.iconst 0, 1) := by decide +kernel
theorem d_Mo_quiet_37 : decode prog_9_method_40_code 37 = .ok (.istore_n 1, 1) := by decide +kernel
theorem d_Mo_quiet_38 : decode prog_9_method_40_code 38 = .ok (.iconst 0, 1) := by decide +kernel
theorem d_Mo_quiet_39 : decode prog_9_method_40_code 39 = .ok (.istore_n 2, 1) := by decide +kernel
theorem d_Mo_quiet_40 : decode prog_9_method_40_code 40 = .ok (.iload_n 2, 1) := by decide +kernel
theorem d_Mo_quiet_41 : decode prog_9_method_40_code 41 = .ok (.bipush 24, 2) := by decide +kernel
theorem d_Mo_quiet_43 : decode prog_9_method_40_code 43 = .ok (.if_icmp .ge (34), 3) := by decide +kernel
theorem d_Mo_quiet_46 : decode prog_9_method_40_code 46 = .ok (.iload_n 1, 1) := by decide +kernel
theorem d_Mo_quiet_47 : decode prog_9_method_40_code 47 = .ok (.ifCond .eq (22), 3) := by decide +kernel
theorem d_Mo_quiet_50 : decode prog_9_method_40_code 50 = .ok (.aload_n 0, 1) := by decide +kernel
theorem d_Mo_quiet_51 : decode prog_9_method_40_code 51 = .ok (.getfield 53, 3) := by decide +kernel
theorem d_Mo_quiet_54 : decode prog_9_method_40_code 54 = .ok (.iload_n 2, 1) := by decide +kernel
theorem d_Mo_quiet_55 : decode prog_9_method_40_code 55 = .ok (.iaload, 1) := by decide +kernel
theorem d_Mo_quiet_56 : decode prog_9_method_40_code 56 = .ok (.aload_n 0, 1) := by decide +kernel
theorem d_Mo_quiet_57 : decode prog_9_method_40_code 57 = .ok (.getfield 50, 3) := by decide +kernel
theorem d_Mo_quiet_60 : decode prog_9_method_40_code 60 = .ok (.iload_n 2, 1) := by decide +kernel
theorem d_Mo_quiet_61 : decode prog_9_method_40_code 61 = .ok (.iaload, 1) := by decide +kernel
theorem d_Mo_quiet_62 : decode prog_9_method_40_code 62 = .ok (.if_icmp .ne (7), 3) := by decide +kernel
theorem d_Mo_quiet_65 : decode prog_9_method_40_code 65 = .ok (.iconst 1, 1) := by decide +kernel
theorem d_Mo_quiet_66 : decode prog_9_method_40_code 66 = .ok (.goto (4), 3) := by decide +kernel
theorem d_Mo_quiet_69 : decode prog_9_method_40_code 69 = .ok (.iconst 0, 1) := by decide +kernel
theorem d_Mo_quiet_70 : decode prog_9_method_40_code 70 = .ok (.istore_n 1, 1) := by decide +kernel
theorem d_Mo_quiet_71 : decode prog_9_method_40_code 71 = .ok (.iinc 2 1, 3) := by decide +kernel
theorem d_Mo_quiet_74 : decode prog_9_method_40_code 74 = .ok (.goto (-34), 3) := by decide +kernel
theorem d_Mo_quiet_77 : decode prog_9_method_40_code 77 = .ok (.iload_n 1, 1) := by decide +kernel
theorem d_Mo_quiet_78 : decode prog_9_method_40_code 78 = .ok (.ireturn, 1) := by decide +kernel
