theorem d_Lw_copyAt_0 : decode method_3_code 0 = .ok (.aload_n 0, 1) := by decide +kernel
theorem d_Lw_copyAt_1 : decode method_3_code 1 = .ok (.iload_n 1, 1) := by decide +kernel
theorem d_Lw_copyAt_2 : decode method_3_code 2 = .ok (.iload_n 2, 1) := by decide +kernel
theorem d_Lw_copyAt_3 : decode method_3_code 3 = .ok (.invokevirtual 7, 3) := by decide +kernel
theorem d_Lw_copyAt_6 : decode method_3_code 6 = .ok (.goto (9), 3) := by decide +kernel
theorem d_Lw_copyAt_9 : decode method_3_code 9 = .ok (.astore_n 3, 1) := by decide +kernel
theorem d_Lw_copyAt_10 : decode method_3_code 10 = .ok (.iconst 1, 1) := by decide +kernel
theorem d_Lw_copyAt_11 : decode method_3_code 11 = .ok (.ireturn, 1) := by decide +kernel
theorem d_Lw_copyAt_12 : decode method_3_code 12 = .ok (.astore_n 3, 1) := by decide +kernel
theorem d_Lw_copyAt_13 : decode method_3_code 13 = .ok (.iconst 2, 1) := by decide +kernel
theorem d_Lw_copyAt_14 : decode method_3_code 14 = .ok (.ireturn, 1) := by decide +kernel
theorem d_Lw_copyAt_15 : decode method_3_code 15 = .ok (.iconst 0, 1) := by decide +kernel
theorem d_Lw_copyAt_16 : decode method_3_code 16 = .ok (.ireturn, 1) := by decide +kernel
theorem d_Lw_want_0 : decode method_4_code 0 = .ok (.aload 4, 2) := by decide +kernel
theorem d_Lw_want_2 : decode method_4_code 2 = .ok (.iconst 0, 1) := by decide +kernel
theorem d_Lw_want_3 : decode method_4_code 3 = .ok (.aload_n 0, 1) := by decide +kernel
theorem d_Lw_want_4 : decode method_4_code 4 = .ok (.iload_n 1, 1) := by decide +kernel
theorem d_Lw_want_5 : decode method_4_code 5 = .ok (.iload_n 2, 1) := by decide +kernel
theorem d_Lw_want_6 : decode method_4_code 6 = .ok (.iload_n 3, 1) := by decide +kernel
theorem d_Lw_want_7 : decode method_4_code 7 = .ok (.invokevirtual 17, 3) := by decide +kernel
theorem d_Lw_want_10 : decode method_4_code 10 = .ok (.i2l, 1) := by decide +kernel
theorem d_Lw_want_11 : decode method_4_code 11 = .ok (.lastore, 1) := by decide +kernel
theorem d_Lw_want_12 : decode method_4_code 12 = .ok (.goto (15), 3) := by decide +kernel
theorem d_Lw_want_15 : decode method_4_code 15 = .ok (.astore 5, 2) := by decide +kernel
theorem d_Lw_want_17 : decode method_4_code 17 = .ok (.iconst 1, 1) := by decide +kernel
theorem d_Lw_want_18 : decode method_4_code 18 = .ok (.ireturn, 1) := by decide +kernel
theorem d_Lw_want_19 : decode method_4_code 19 = .ok (.astore 5, 2) := by decide +kernel
theorem d_Lw_want_21 : decode method_4_code 21 = .ok (.iconst 2, 1) := by decide +kernel
theorem d_Lw_want_22 : decode method_4_code 22 = .ok (.ireturn, 1) := by decide +kernel
theorem d_Lw_want_23 : decode method_4_code 23 = .ok (.astore 5, 2) := by decide +kernel
theorem d_Lw_want_25 : decode method_4_code 25 = .ok (.iconst 3, 1) := by decide +kernel
theorem d_Lw_want_26 : decode method_4_code 26 = .ok (.ireturn, 1) := by decide +kernel
theorem d_Lw_want_27 : decode method_4_code 27 = .ok (.iconst 0, 1) := by decide +kernel
theorem d_Lw_want_28 : decode method_4_code 28 = .ok (.ireturn, 1) := by decide +kernel
theorem d_Lw_lend_0 : decode method_5_code 0 = .ok (.aload_n 3, 1) := by decide +kernel
theorem d_Lw_lend_1 : decode method_5_code 1 = .ok (.iconst 0, 1) := by decide +kernel
theorem d_Lw_lend_2 : decode method_5_code 2 = .ok (.aload_n 0, 1) := by decide +kernel
theorem d_Lw_lend_3 : decode method_5_code 3 = .ok (.iload_n 1, 1) := by decide +kernel
theorem d_Lw_lend_4 : decode method_5_code 4 = .ok (.iload_n 2, 1) := by decide +kernel
theorem d_Lw_lend_5 : decode method_5_code 5 = .ok (.invokevirtual 23, 3) := by decide +kernel
theorem d_Lw_lend_8 : decode method_5_code 8 = .ok (.i2l, 1) := by decide +kernel
theorem d_Lw_lend_9 : decode method_5_code 9 = .ok (.lastore, 1) := by decide +kernel
theorem d_Lw_lend_10 : decode method_5_code 10 = .ok (.goto (11), 3) := by decide +kernel
theorem d_Lw_lend_13 : decode method_5_code 13 = .ok (.astore 4, 2) := by decide +kernel
theorem d_Lw_lend_15 : decode method_5_code 15 = .ok (.iconst 1, 1) := by decide +kernel
theorem d_Lw_lend_16 : decode method_5_code 16 = .ok (.ireturn, 1) := by decide +kernel
theorem d_Lw_lend_17 : decode method_5_code 17 = .ok (.astore 4, 2) := by decide +kernel
theorem d_Lw_lend_19 : decode method_5_code 19 = .ok (.iconst 2, 1) := by decide +kernel
theorem d_Lw_lend_20 : decode method_5_code 20 = .ok (.ireturn, 1) := by decide +kernel
theorem d_Lw_lend_21 : decode method_5_code 21 = .ok (.iconst 0, 1) := by decide +kernel
theorem d_Lw_lend_22 : decode method_5_code 22 = .ok (.ireturn, 1) := by decide +kernel
theorem d_Lw_giveBack_0 : decode method_6_code 0 = .ok (.aload_n 3, 1) := by decide +kernel
theorem d_Lw_giveBack_1 : decode method_6_code 1 = .ok (.iconst 0, 1) := by decide +kernel
theorem d_Lw_giveBack_2 : decode method_6_code 2 = .ok (.aload_n 0, 1) := by decide +kernel
theorem d_Lw_giveBack_3 : decode method_6_code 3 = .ok (.iload_n 1, 1) := by decide +kernel
theorem d_Lw_giveBack_4 : decode method_6_code 4 = .ok (.iload_n 2, 1) := by decide +kernel
theorem d_Lw_giveBack_5 : decode method_6_code 5 = .ok (.invokevirtual 27, 3) := by decide +kernel
theorem d_Lw_giveBack_8 : decode method_6_code 8 = .ok (.i2l, 1) := by decide +kernel
theorem d_Lw_giveBack_9 : decode method_6_code 9 = .ok (.lastore, 1) := by decide +kernel
theorem d_Lw_giveBack_10 : decode method_6_code 10 = .ok (.goto (11), 3) := by decide +kernel
theorem d_Lw_giveBack_13 : decode method_6_code 13 = .ok (.astore 4, 2) := by decide +kernel
theorem d_Lw_giveBack_15 : decode method_6_code 15 = .ok (.iconst 1, 1) := by decide +kernel
theorem d_Lw_giveBack_16 : decode method_6_code 16 = .ok (.ireturn, 1) := by decide +kernel
theorem d_Lw_giveBack_17 : decode method_6_code 17 = .ok (.astore 4, 2) := by decide +kernel
theorem d_Lw_giveBack_19 : decode method_6_code 19 = .ok (.iconst 2, 1) := by decide +kernel
theorem d_Lw_giveBack_20 : decode method_6_code 20 = .ok (.ireturn, 1) := by decide +kernel
theorem d_Lw_giveBack_21 : decode method_6_code 21 = .ok (.iconst 0, 1) := by decide +kernel
theorem d_Lw_giveBack_22 : decode method_6_code 22 = .ok (.ireturn, 1) := by decide +kernel
theorem d_Lw_van_0 : decode method_7_code 0 = .ok (.aload_n 2, 1) := by decide +kernel
theorem d_Lw_van_1 : decode method_7_code 1 = .ok (.iconst 0, 1) := by decide +kernel
theorem d_Lw_van_2 : decode method_7_code 2 = .ok (.aload_n 0, 1) := by decide +kernel
theorem d_Lw_van_3 : decode method_7_code 3 = .ok (.iload_n 1, 1) := by decide +kernel
theorem d_Lw_van_4 : decode method_7_code 4 = .ok (.invokevirtual 30, 3) := by decide +kernel
theorem d_Lw_van_7 : decode method_7_code 7 = .ok (.i2l, 1) := by decide +kernel
theorem d_Lw_van_8 : decode method_7_code 8 = .ok (.lastore, 1) := by decide +kernel
theorem d_Lw_van_9 : decode method_7_code 9 = .ok (.goto (9), 3) := by decide +kernel
theorem d_Lw_van_12 : decode method_7_code 12 = .ok (.astore_n 3, 1) := by decide +kernel
theorem d_Lw_van_13 : decode method_7_code 13 = .ok (.iconst 1, 1) := by decide +kernel
theorem d_Lw_van_14 : decode method_7_code 14 = .ok (.ireturn, 1) := by decide +kernel
theorem d_Lw_van_15 : decode method_7_code 15 = .ok (.astore_n 3, 1) := by decide +kernel
theorem d_Lw_van_16 : decode method_7_code 16 = .ok (.iconst 2, 1) := by decide +kernel
theorem d_Lw_van_17 : decode method_7_code 17 = .ok (.ireturn, 1) := by decide +kernel
theorem d_Lw_van_18 : decode method_7_code 18 = .ok (.iconst 0, 1) := by decide +kernel
theorem d_Lw_van_19 : decode method_7_code 19 = .ok (.ireturn, 1) := by decide +kernel
theorem d_Lw_sendAll_0 : decode method_8_code 0 = .ok (.aload_n 2, 1) := by decide +kernel
theorem d_Lw_sendAll_1 : decode method_8_code 1 = .ok (.iconst 0, 1) := by decide +kernel
theorem d_Lw_sendAll_2 : decode method_8_code 2 = .ok (.aload_n 0, 1) := by decide +kernel
theorem d_Lw_sendAll_3 : decode method_8_code 3 = .ok (.iload_n 1, 1) := by decide +kernel
theorem d_Lw_sendAll_4 : decode method_8_code 4 = .ok (.invokevirtual 34, 3) := by decide +kernel
theorem d_Lw_sendAll_7 : decode method_8_code 7 = .ok (.i2l, 1) := by decide +kernel
theorem d_Lw_sendAll_8 : decode method_8_code 8 = .ok (.lastore, 1) := by decide +kernel
theorem d_Lw_sendAll_9 : decode method_8_code 9 = .ok (.goto (9), 3) := by decide +kernel
theorem d_Lw_sendAll_12 : decode method_8_code 12 = .ok (.astore_n 3, 1) := by decide +kernel
theorem d_Lw_sendAll_13 : decode method_8_code 13 = .ok (.iconst 1, 1) := by decide +kernel
theorem d_Lw_sendAll_14 : decode method_8_code 14 = .ok (.ireturn, 1) := by decide +kernel
theorem d_Lw_sendAll_15 : decode method_8_code 15 = .ok (.astore_n 3, 1) := by decide +kernel
theorem d_Lw_sendAll_16 : decode method_8_code 16 = .ok (.iconst 2, 1) := by decide +kernel
theorem d_Lw_sendAll_17 : decode method_8_code 17 = .ok (.ireturn, 1) := by decide +kernel
theorem d_Lw_sendAll_18 : decode method_8_code 18 = .ok (.iconst 0, 1) := by decide +kernel
theorem d_Lw_sendAll_19 : decode method_8_code 19 = .ok (.ireturn, 1) := by decide +kernel
theorem d_Lw_packet_0 : decode method_9_code 0 = .ok (.aload_n 3, 1) := by decide +kernel
theorem d_Lw_packet_1 : decode method_9_code 1 = .ok (.iconst 0, 1) := by decide +kernel
theorem d_Lw_packet_2 : decode method_9_code 2 = .ok (.aload_n 0, 1) := by decide +kernel
theorem d_Lw_packet_3 : decode method_9_code 3 = .ok (.iload_n 1, 1) := by decide +kernel
theorem d_Lw_packet_4 : decode method_9_code 4 = .ok (.iload_n 2, 1) := by decide +kernel
theorem d_Lw_packet_5 : decode method_9_code 5 = .ok (.invokevirtual 37, 3) := by decide +kernel
theorem d_Lw_packet_8 : decode method_9_code 8 = .ok (.i2l, 1) := by decide +kernel
theorem d_Lw_packet_9 : decode method_9_code 9 = .ok (.lastore, 1) := by decide +kernel
theorem d_Lw_packet_10 : decode method_9_code 10 = .ok (.goto (7), 3) := by decide +kernel
theorem d_Lw_packet_13 : decode method_9_code 13 = .ok (.astore 4, 2) := by decide +kernel
theorem d_Lw_packet_15 : decode method_9_code 15 = .ok (.iconst 1, 1) := by decide +kernel
theorem d_Lw_packet_16 : decode method_9_code 16 = .ok (.ireturn, 1) := by decide +kernel
theorem d_Lw_packet_17 : decode method_9_code 17 = .ok (.iconst 0, 1) := by decide +kernel
theorem d_Lw_packet_18 : decode method_9_code 18 = .ok (.ireturn, 1) := by decide +kernel
theorem d_Lw_deliver_0 : decode method_10_code 0 = .ok (.aload_n 2, 1) := by decide +kernel
theorem d_Lw_deliver_1 : decode method_10_code 1 = .ok (.iconst 0, 1) := by decide +kernel
theorem d_Lw_deliver_2 : decode method_10_code 2 = .ok (.aload_n 0, 1) := by decide +kernel
theorem d_Lw_deliver_3 : decode method_10_code 3 = .ok (.iload_n 1, 1) := by decide +kernel
theorem d_Lw_deliver_4 : decode method_10_code 4 = .ok (.invokevirtual 40, 3) := by decide +kernel
theorem d_Lw_deliver_7 : decode method_10_code 7 = .ok (.i2l, 1) := by decide +kernel
theorem d_Lw_deliver_8 : decode method_10_code 8 = .ok (.lastore, 1) := by decide +kernel
theorem d_Lw_deliver_9 : decode method_10_code 9 = .ok (.goto (6), 3) := by decide +kernel
theorem d_Lw_deliver_12 : decode method_10_code 12 = .ok (.astore_n 3, 1) := by decide +kernel
theorem d_Lw_deliver_13 : decode method_10_code 13 = .ok (.iconst 1, 1) := by decide +kernel
theorem d_Lw_deliver_14 : decode method_10_code 14 = .ok (.ireturn, 1) := by decide +kernel
theorem d_Lw_deliver_15 : decode method_10_code 15 = .ok (.iconst 0, 1) := by decide +kernel
theorem d_Lw_deliver_16 : decode method_10_code 16 = .ok (.ireturn, 1) := by decide +kernel
theorem d_Lw_drop_0 : decode method_11_code 0 = .ok (.aload_n 2, 1) := by decide +kernel
theorem d_Lw_drop_1 : decode method_11_code 1 = .ok (.iconst 0, 1) := by decide +kernel
theorem d_Lw_drop_2 : decode method_11_code 2 = .ok (.aload_n 0, 1) := by decide +kernel
theorem d_Lw_drop_3 : decode method_11_code 3 = .ok (.iload_n 1, 1) := by decide +kernel
theorem d_Lw_drop_4 : decode method_11_code 4 = .ok (.invokevirtual 43, 3) := by decide +kernel
theorem d_Lw_drop_7 : decode method_11_code 7 = .ok (.i2l, 1) := by decide +kernel
theorem d_Lw_drop_8 : decode method_11_code 8 = .ok (.lastore, 1) := by decide +kernel
theorem d_Lw_drop_9 : decode method_11_code 9 = .ok (.goto (6), 3) := by decide +kernel
theorem d_Lw_drop_12 : decode method_11_code 12 = .ok (.astore_n 3, 1) := by decide +kernel
theorem d_Lw_drop_13 : decode method_11_code 13 = .ok (.iconst 1, 1) := by decide +kernel
theorem d_Lw_drop_14 : decode method_11_code 14 = .ok (.ireturn, 1) := by decide +kernel
theorem d_Lw_drop_15 : decode method_11_code 15 = .ok (.iconst 0, 1) := by decide +kernel
theorem d_Lw_drop_16 : decode method_11_code 16 = .ok (.ireturn, 1) := by decide +kernel
theorem d_Lw_twin_0 : decode method_12_code 0 = .ok (.aload_n 2, 1) := by decide +kernel
theorem d_Lw_twin_1 : decode method_12_code 1 = .ok (.iconst 0, 1) := by decide +kernel
theorem d_Lw_twin_2 : decode method_12_code 2 = .ok (.aload_n 0, 1) := by decide +kernel
theorem d_Lw_twin_3 : decode method_12_code 3 = .ok (.iload_n 1, 1) := by decide +kernel
theorem d_Lw_twin_4 : decode method_12_code 4 = .ok (.invokevirtual 46, 3) := by decide +kernel
theorem d_Lw_twin_7 : decode method_12_code 7 = .ok (.ifCond .eq (7), 3) := by decide +kernel
theorem d_Lw_twin_10 : decode method_12_code 10 = .ok (.lconst 1, 1) := by decide +kernel
theorem d_Lw_twin_11 : decode method_12_code 11 = .ok (.goto (4), 3) := by decide +kernel
theorem d_Lw_twin_14 : decode method_12_code 14 = .ok (.lconst 0, 1) := by decide +kernel
theorem d_Lw_twin_15 : decode method_12_code 15 = .ok (.lastore, 1) := by decide +kernel
theorem d_Lw_twin_16 : decode method_12_code 16 = .ok (.goto (6), 3) := by decide +kernel
theorem d_Lw_twin_19 : decode method_12_code 19 = .ok (.astore_n 3, 1) := by decide +kernel
theorem d_Lw_twin_20 : decode method_12_code 20 = .ok (.iconst 1, 1) := by decide +kernel
theorem d_Lw_twin_21 : decode method_12_code 21 = .ok (.ireturn, 1) := by decide +kernel
theorem d_Lw_twin_22 : decode method_12_code 22 = .ok (.iconst 0, 1) := by decide +kernel
theorem d_Lw_twin_23 : decode method_12_code 23 = .ok (.ireturn, 1) := by decide +kernel
theorem d_Lw_crash_0 : decode method_13_code 0 = .ok (.aload_n 0, 1) := by decide +kernel
theorem d_Lw_crash_1 : decode method_13_code 1 = .ok (.iload_n 1, 1) := by decide +kernel
theorem d_Lw_crash_2 : decode method_13_code 2 = .ok (.invokevirtual 50, 3) := by decide +kernel
theorem d_Lw_crash_5 : decode method_13_code 5 = .ok (.goto (9), 3) := by decide +kernel
theorem d_Lw_crash_8 : decode method_13_code 8 = .ok (.astore_n 2, 1) := by decide +kernel
theorem d_Lw_crash_9 : decode method_13_code 9 = .ok (.iconst 1, 1) := by decide +kernel
theorem d_Lw_crash_10 : decode method_13_code 10 = .ok (.ireturn, 1) := by decide +kernel
theorem d_Lw_crash_11 : decode method_13_code 11 = .ok (.astore_n 2, 1) := by decide +kernel
theorem d_Lw_crash_12 : decode method_13_code 12 = .ok (.iconst 2, 1) := by decide +kernel
theorem d_Lw_crash_13 : decode method_13_code 13 = .ok (.ireturn, 1) := by decide +kernel
theorem d_Lw_crash_14 : decode method_13_code 14 = .ok (.iconst 0, 1) := by decide +kernel
theorem d_Lw_crash_15 : decode method_13_code 15 = .ok (.ireturn, 1) := by decide +kernel
theorem d_Lw_restart_0 : decode method_14_code 0 = .ok (.aload_n 2, 1) := by decide +kernel
theorem d_Lw_restart_1 : decode method_14_code 1 = .ok (.iconst 0, 1) := by decide +kernel
theorem d_Lw_restart_2 : decode method_14_code 2 = .ok (.aload_n 0, 1) := by decide +kernel
theorem d_Lw_restart_3 : decode method_14_code 3 = .ok (.iload_n 1, 1) := by decide +kernel
theorem d_Lw_restart_4 : decode method_14_code 4 = .ok (.invokevirtual 54, 3) := by decide +kernel
theorem d_Lw_restart_7 : decode method_14_code 7 = .ok (.i2l, 1) := by decide +kernel
theorem d_Lw_restart_8 : decode method_14_code 8 = .ok (.lastore, 1) := by decide +kernel
theorem d_Lw_restart_9 : decode method_14_code 9 = .ok (.goto (9), 3) := by decide +kernel
theorem d_Lw_restart_12 : decode method_14_code 12 = .ok (.astore_n 3, 1) := by decide +kernel
theorem d_Lw_restart_13 : decode method_14_code 13 = .ok (.iconst 1, 1) := by decide +kernel
theorem d_Lw_restart_14 : decode method_14_code 14 = .ok (.ireturn, 1) := by decide +kernel
theorem d_Lw_restart_15 : decode method_14_code 15 = .ok (.astore_n 3, 1) := by decide +kernel
theorem d_Lw_restart_16 : decode method_14_code 16 = .ok (.iconst 2, 1) := by decide +kernel
theorem d_Lw_restart_17 : decode method_14_code 17 = .ok (.ireturn, 1) := by decide +kernel
theorem d_Lw_restart_18 : decode method_14_code 18 = .ok (.iconst 0, 1) := by decide +kernel
theorem d_Lw_restart_19 : decode method_14_code 19 = .ok (.ireturn, 1) := by decide +kernel
theorem d_Lw_of1_0 : decode method_15_code 0 = .ok (.aload 4, 2) := by decide +kernel
theorem d_Lw_of1_2 : decode method_15_code 2 = .ok (.iconst 0, 1) := by decide +kernel
theorem d_Lw_of1_3 : decode method_15_code 3 = .ok (.aload_n 0, 1) := by decide +kernel
theorem d_Lw_of1_4 : decode method_15_code 4 = .ok (.iload_n 1, 1) := by decide +kernel
theorem d_Lw_of1_5 : decode method_15_code 5 = .ok (.iload_n 2, 1) := by decide +kernel
theorem d_Lw_of1_6 : decode method_15_code 6 = .ok (.iload_n 3, 1) := by decide +kernel
theorem d_Lw_of1_7 : decode method_15_code 7 = .ok (.invokevirtual 57, 3) := by decide +kernel
theorem d_Lw_of1_10 : decode method_15_code 10 = .ok (.i2l, 1) := by decide +kernel
theorem d_Lw_of1_11 : decode method_15_code 11 = .ok (.lastore, 1) := by decide +kernel
theorem d_Lw_of1_12 : decode method_15_code 12 = .ok (.goto (7), 3) := by decide +kernel
theorem d_Lw_of1_15 : decode method_15_code 15 = .ok (.astore 5, 2) := by decide +kernel
theorem d_Lw_of1_17 : decode method_15_code 17 = .ok (.iconst 1, 1) := by decide +kernel
theorem d_Lw_of1_18 : decode method_15_code 18 = .ok (.ireturn, 1) := by decide +kernel
theorem d_Lw_of1_19 : decode method_15_code 19 = .ok (.iconst 0, 1) := by decide +kernel
theorem d_Lw_of1_20 : decode method_15_code 20 = .ok (.ireturn, 1) := by decide +kernel
theorem d_Lw_reader_0 : decode method_16_code 0 = .ok (.aload 4, 2) := by decide +kernel
theorem d_Lw_reader_2 : decode method_16_code 2 = .ok (.iconst 0, 1) := by decide +kernel
theorem d_Lw_reader_3 : decode method_16_code 3 = .ok (.aload_n 0, 1) := by decide +kernel
theorem d_Lw_reader_4 : decode method_16_code 4 = .ok (.iload_n 1, 1) := by decide +kernel
theorem d_Lw_reader_5 : decode method_16_code 5 = .ok (.iload_n 2, 1) := by decide +kernel
theorem d_Lw_reader_6 : decode method_16_code 6 = .ok (.iload_n 3, 1) := by decide +kernel
theorem d_Lw_reader_7 : decode method_16_code 7 = .ok (.invokevirtual 60, 3) := by decide +kernel
theorem d_Lw_reader_10 : decode method_16_code 10 = .ok (.i2l, 1) := by decide +kernel
theorem d_Lw_reader_11 : decode method_16_code 11 = .ok (.lastore, 1) := by decide +kernel
theorem d_Lw_reader_12 : decode method_16_code 12 = .ok (.goto (7), 3) := by decide +kernel
theorem d_Lw_reader_15 : decode method_16_code 15 = .ok (.astore 5, 2) := by decide +kernel
theorem d_Lw_reader_17 : decode method_16_code 17 = .ok (.iconst 1, 1) := by decide +kernel
theorem d_Lw_reader_18 : decode method_16_code 18 = .ok (.ireturn, 1) := by decide +kernel
theorem d_Lw_reader_19 : decode method_16_code 19 = .ok (.iconst 0, 1) := by decide +kernel
theorem d_Lw_reader_20 : decode method_16_code 20 = .ok (.ireturn, 1) := by decide +kernel
theorem d_Lw_place_0 : decode method_17_code 0 = .ok (.aload_n 2, 1) := by decide +kernel
theorem d_Lw_place_1 : decode method_17_code 1 = .ok (.iconst 0, 1) := by decide +kernel
theorem d_Lw_place_2 : decode method_17_code 2 = .ok (.aload_n 0, 1) := by decide +kernel
theorem d_Lw_place_3 : decode method_17_code 3 = .ok (.iload_n 1, 1) := by decide +kernel
theorem d_Lw_place_4 : decode method_17_code 4 = .ok (.invokevirtual 63, 3) := by decide +kernel
theorem d_Lw_place_7 : decode method_17_code 7 = .ok (.i2l, 1) := by decide +kernel
theorem d_Lw_place_8 : decode method_17_code 8 = .ok (.lastore, 1) := by decide +kernel
theorem d_Lw_place_9 : decode method_17_code 9 = .ok (.goto (6), 3) := by decide +kernel
theorem d_Lw_place_12 : decode method_17_code 12 = .ok (.astore_n 3, 1) := by decide +kernel
theorem d_Lw_place_13 : decode method_17_code 13 = .ok (.iconst 1, 1) := by decide +kernel
theorem d_Lw_place_14 : decode method_17_code 14 = .ok (.ireturn, 1) := by decide +kernel
theorem d_Lw_place_15 : decode method_17_code 15 = .ok (.iconst 0, 1) := by decide +kernel
theorem d_Lw_place_16 : decode method_17_code 16 = .ok (.ireturn, 1) := by decide +kernel
theorem d_Lw_chain_0 : decode method_18_code 0 = .ok (.aload_n 3, 1) := by decide +kernel
theorem d_Lw_chain_1 : decode method_18_code 1 = .ok (.iconst 0, 1) := by decide +kernel
theorem d_Lw_chain_2 : decode method_18_code 2 = .ok (.aload_n 0, 1) := by decide +kernel
theorem d_Lw_chain_3 : decode method_18_code 3 = .ok (.iload_n 1, 1) := by decide +kernel
theorem d_Lw_chain_4 : decode method_18_code 4 = .ok (.iload_n 2, 1) := by decide +kernel
theorem d_Lw_chain_5 : decode method_18_code 5 = .ok (.invokevirtual 66, 3) := by decide +kernel
theorem d_Lw_chain_8 : decode method_18_code 8 = .ok (.i2l, 1) := by decide +kernel
theorem d_Lw_chain_9 : decode method_18_code 9 = .ok (.lastore, 1) := by decide +kernel
theorem d_Lw_chain_10 : decode method_18_code 10 = .ok (.goto (7), 3) := by decide +kernel
theorem d_Lw_chain_13 : decode method_18_code 13 = .ok (.astore 4, 2) := by decide +kernel
theorem d_Lw_chain_15 : decode method_18_code 15 = .ok (.iconst 1, 1) := by decide +kernel
theorem d_Lw_chain_16 : decode method_18_code 16 = .ok (.ireturn, 1) := by decide +kernel
theorem d_Lw_chain_17 : decode method_18_code 17 = .ok (.iconst 0, 1) := by decide +kernel
theorem d_Lw_chain_18 : decode method_18_code 18 = .ok (.ireturn, 1) := by decide +kernel
theorem d_Lw_served_0 : decode method_19_code 0 = .ok (.aload_n 3, 1) := by decide +kernel
theorem d_Lw_served_1 : decode method_19_code 1 = .ok (.iconst 0, 1) := by decide +kernel
theorem d_Lw_served_2 : decode method_19_code 2 = .ok (.aload_n 0, 1) := by decide +kernel
theorem d_Lw_served_3 : decode method_19_code 3 = .ok (.iload_n 1, 1) := by decide +kernel
theorem d_Lw_served_4 : decode method_19_code 4 = .ok (.iload_n 2, 1) := by decide +kernel
theorem d_Lw_served_5 : decode method_19_code 5 = .ok (.invokevirtual 69, 3) := by decide +kernel
theorem d_Lw_served_8 : decode method_19_code 8 = .ok (.i2l, 1) := by decide +kernel
theorem d_Lw_served_9 : decode method_19_code 9 = .ok (.lastore, 1) := by decide +kernel
theorem d_Lw_served_10 : decode method_19_code 10 = .ok (.goto (7), 3) := by decide +kernel
theorem d_Lw_served_13 : decode method_19_code 13 = .ok (.astore 4, 2) := by decide +kernel
theorem d_Lw_served_15 : decode method_19_code 15 = .ok (.iconst 1, 1) := by decide +kernel
theorem d_Lw_served_16 : decode method_19_code 16 = .ok (.ireturn, 1) := by decide +kernel
theorem d_Lw_served_17 : decode method_19_code 17 = .ok (.iconst 0, 1) := by decide +kernel
theorem d_Lw_served_18 : decode method_19_code 18 = .ok (.ireturn, 1) := by decide +kernel
theorem d_Lw_leads_0 : decode method_20_code 0 = .ok (.aload_n 3, 1) := by decide +kernel
theorem d_Lw_leads_1 : decode method_20_code 1 = .ok (.iconst 0, 1) := by decide +kernel
theorem d_Lw_leads_2 : decode method_20_code 2 = .ok (.aload_n 0, 1) := by decide +kernel
theorem d_Lw_leads_3 : decode method_20_code 3 = .ok (.iload_n 1, 1) := by decide +kernel
theorem d_Lw_leads_4 : decode method_20_code 4 = .ok (.iload_n 2, 1) := by decide +kernel
theorem d_Lw_leads_5 : decode method_20_code 5 = .ok (.invokevirtual 72, 3) := by decide +kernel
theorem d_Lw_leads_8 : decode method_20_code 8 = .ok (.ifCond .eq (7), 3) := by decide +kernel
theorem d_Lw_leads_11 : decode method_20_code 11 = .ok (.lconst 1, 1) := by decide +kernel
theorem d_Lw_leads_12 : decode method_20_code 12 = .ok (.goto (4), 3) := by decide +kernel
theorem d_Lw_leads_15 : decode method_20_code 15 = .ok (.lconst 0, 1) := by decide +kernel
theorem d_Lw_leads_16 : decode method_20_code 16 = .ok (.lastore, 1) := by decide +kernel
theorem d_Lw_leads_17 : decode method_20_code 17 = .ok (.goto (11), 3) := by decide +kernel
theorem d_Lw_leads_20 : decode method_20_code 20 = .ok (.astore 4, 2) := by decide +kernel
theorem d_Lw_leads_22 : decode method_20_code 22 = .ok (.iconst 1, 1) := by decide +kernel
theorem d_Lw_leads_23 : decode method_20_code 23 = .ok (.ireturn, 1) := by decide +kernel
theorem d_Lw_leads_24 : decode method_20_code 24 = .ok (.astore 4, 2) := by decide +kernel
theorem d_Lw_leads_26 : decode method_20_code 26 = .ok (.iconst 2, 1) := by decide +kernel
theorem d_Lw_leads_27 : decode method_20_code 27 = .ok (.ireturn, 1) := by decide +kernel
theorem d_Lw_leads_28 : decode method_20_code 28 = .ok (.iconst 0, 1) := by decide +kernel
theorem d_Lw_leads_29 : decode method_20_code 29 = .ok (.ireturn, 1) := by decide +kernel
