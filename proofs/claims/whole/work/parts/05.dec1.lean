theorem d_De_isFull_0 : decode prog_3_method_2_code 0 = .ok (.aload_n 0, 1) := by decide +kernel
theorem d_De_isFull_1 : decode prog_3_method_2_code 1 = .ok (.getfield 25, 3) := by decide +kernel
theorem d_De_isFull_4 : decode prog_3_method_2_code 4 = .ok (.iconst 4, 1) := by decide +kernel
theorem d_De_isFull_5 : decode prog_3_method_2_code 5 = .ok (.if_icmp .ne (7), 3) := by decide +kernel
theorem d_De_isFull_8 : decode prog_3_method_2_code 8 = .ok (.iconst 1, 1) := by decide +kernel
theorem d_De_isFull_9 : decode prog_3_method_2_code 9 = .ok (.goto (4), 3) := by decide +kernel
theorem d_De_isFull_12 : decode prog_3_method_2_code 12 = .ok (.iconst 0, 1) := by decide +kernel
theorem d_De_isFull_13 : decode prog_3_method_2_code 13 = .ok (.ireturn, 1) := by decide +kernel
theorem d_De_hasInQueue_0 : decode prog_3_method_3_code 0 = .ok (.iconst 0, 1) := by decide +kernel
theorem d_De_hasInQueue_1 : decode prog_3_method_3_code 1 = .ok (.istore_n 2, 1) := by decide +kernel
theorem d_De_hasInQueue_2 : decode prog_3_method_3_code 2 = .ok (.iload_n 2, 1) := by decide +kernel
theorem d_De_hasInQueue_3 : decode prog_3_method_3_code 3 = .ok (.aload_n 0, 1) := by decide +kernel
theorem d_De_hasInQueue_4 : decode prog_3_method_3_code 4 = .ok (.getfield 25, 3) := by decide +kernel
theorem d_De_hasInQueue_7 : decode prog_3_method_3_code 7 = .ok (.if_icmp .ge (21), 3) := by decide +kernel
theorem d_De_hasInQueue_10 : decode prog_3_method_3_code 10 = .ok (.aload_n 0, 1) := by decide +kernel
theorem d_De_hasInQueue_11 : decode prog_3_method_3_code 11 = .ok (.getfield 11, 3) := by decide +kernel
theorem d_De_hasInQueue_14 : decode prog_3_method_3_code 14 = .ok (.iload_n 2, 1) := by decide +kernel
theorem d_De_hasInQueue_15 : decode prog_3_method_3_code 15 = .ok (.iaload, 1) := by decide +kernel
theorem d_De_hasInQueue_16 : decode prog_3_method_3_code 16 = .ok (.iload_n 1, 1) := by decide +kernel
theorem d_De_hasInQueue_17 : decode prog_3_method_3_code 17 = .ok (.if_icmp .ne (5), 3) := by decide +kernel
theorem d_De_hasInQueue_20 : decode prog_3_method_3_code 20 = .ok (.iconst 1, 1) := by decide +kernel
theorem d_De_hasInQueue_21 : decode prog_3_method_3_code 21 = .ok (.ireturn, 1) := by decide +kernel
theorem d_De_hasInQueue_22 : decode prog_3_method_3_code 22 = .ok (.iinc 2 1, 3) := by decide +kernel
theorem d_De_hasInQueue_25 : decode prog_3_method_3_code 25 = .ok (.goto (-23), 3) := by decide +kernel
theorem d_De_hasInQueue_28 : decode prog_3_method_3_code 28 = .ok (.iconst 0, 1) := by decide +kernel
theorem d_De_hasInQueue_29 : decode prog_3_method_3_code 29 = .ok (.ireturn, 1) := by decide +kernel
theorem d_De_queuedAt_0 : decode prog_3_method_4_code 0 = .ok (.iload_n 1, 1) := by decide +kernel
theorem d_De_queuedAt_1 : decode prog_3_method_4_code 1 = .ok (.ifCond .lt (20), 3) := by decide +kernel
theorem d_De_queuedAt_4 : decode prog_3_method_4_code 4 = .ok (.iload_n 1, 1) := by decide +kernel
theorem d_De_queuedAt_5 : decode prog_3_method_4_code 5 = .ok (.aload_n 0, 1) := by decide +kernel
theorem d_De_queuedAt_6 : decode prog_3_method_4_code 6 = .ok (.getfield 25, 3) := by decide +kernel
theorem d_De_queuedAt_9 : decode prog_3_method_4_code 9 = .ok (.if_icmp .ge (12), 3) := by decide +kernel
theorem d_De_queuedAt_12 : decode prog_3_method_4_code 12 = .ok (.aload_n 0, 1) := by decide +kernel
theorem d_De_queuedAt_13 : decode prog_3_method_4_code 13 = .ok (.getfield 11, 3) := by decide +kernel
theorem d_De_queuedAt_16 : decode prog_3_method_4_code 16 = .ok (.iload_n 1, 1) := by decide +kernel
theorem d_De_queuedAt_17 : decode prog_3_method_4_code 17 = .ok (.iaload, 1) := by decide +kernel
theorem d_De_queuedAt_18 : decode prog_3_method_4_code 18 = .ok (.goto (4), 3) := by decide +kernel
theorem d_De_queuedAt_21 : decode prog_3_method_4_code 21 = .ok (.iconst (-1), 1) := by decide +kernel
theorem d_De_queuedAt_22 : decode prog_3_method_4_code 22 = .ok (.ireturn, 1) := by decide +kernel
theorem d_De_enqueue_0 : decode prog_3_method_5_code 0 = .ok (.aload_n 0, 1) := by decide +kernel
theorem d_De_enqueue_1 : decode prog_3_method_5_code 1 = .ok (.getfield 25, 3) := by decide +kernel
theorem d_De_enqueue_4 : decode prog_3_method_5_code 4 = .ok (.iconst 4, 1) := by decide +kernel
theorem d_De_enqueue_5 : decode prog_3_method_5_code 5 = .ok (.if_icmp .ge (23), 3) := by decide +kernel
theorem d_De_enqueue_8 : decode prog_3_method_5_code 8 = .ok (.aload_n 0, 1) := by decide +kernel
theorem d_De_enqueue_9 : decode prog_3_method_5_code 9 = .ok (.getfield 11, 3) := by decide +kernel
theorem d_De_enqueue_12 : decode prog_3_method_5_code 12 = .ok (.aload_n 0, 1) := by decide +kernel
theorem d_De_enqueue_13 : decode prog_3_method_5_code 13 = .ok (.getfield 25, 3) := by decide +kernel
theorem d_De_enqueue_16 : decode prog_3_method_5_code 16 = .ok (.iload_n 1, 1) := by decide +kernel
theorem d_De_enqueue_17 : decode prog_3_method_5_code 17 = .ok (.iastore, 1) := by decide +kernel
theorem d_De_enqueue_18 : decode prog_3_method_5_code 18 = .ok (.aload_n 0, 1) := by decide +kernel
theorem d_De_enqueue_19 : decode prog_3_method_5_code 19 = .ok (.dup, 1) := by decide +kernel
theorem d_De_enqueue_20 : decode prog_3_method_5_code 20 = .ok (.getfield 25, 3) := by decide +kernel
theorem d_De_enqueue_23 : decode prog_3_method_5_code 23 = .ok (.iconst 1, 1) := by decide +kernel
theorem d_De_enqueue_24 : decode prog_3_method_5_code 24 = .ok (.iadd, 1) := by decide +kernel
theorem d_De_enqueue_25 : decode prog_3_method_5_code 25 = .ok (.putfield 25, 3) := by decide +kernel
theorem d_De_enqueue_28 : decode prog_3_method_5_code 28 = .ok (.return_, 1) := by decide +kernel
theorem d_De_dequeue_0 : decode prog_3_method_6_code 0 = .ok (.aload_n 0, 1) := by decide +kernel
theorem d_De_dequeue_1 : decode prog_3_method_6_code 1 = .ok (.iconst 0, 1) := by decide +kernel
theorem d_De_dequeue_2 : decode prog_3_method_6_code 2 = .ok (.invokevirtual 28, 3) := by decide +kernel
theorem d_De_dequeue_5 : decode prog_3_method_6_code 5 = .ok (.istore_n 1, 1) := by decide +kernel
theorem d_De_dequeue_6 : decode prog_3_method_6_code 6 = .ok (.iconst 1, 1) := by decide +kernel
theorem d_De_dequeue_7 : decode prog_3_method_6_code 7 = .ok (.istore_n 2, 1) := by decide +kernel
theorem d_De_dequeue_8 : decode prog_3_method_6_code 8 = .ok (.iload_n 2, 1) := by decide +kernel
theorem d_De_dequeue_9 : decode prog_3_method_6_code 9 = .ok (.aload_n 0, 1) := by decide +kernel
theorem d_De_dequeue_10 : decode prog_3_method_6_code 10 = .ok (.getfield 25, 3) := by decide +kernel
theorem d_De_dequeue_13 : decode prog_3_method_6_code 13 = .ok (.if_icmp .ge (23), 3) := by decide +kernel
theorem d_De_dequeue_16 : decode prog_3_method_6_code 16 = .ok (.aload_n 0, 1) := by decide +kernel
theorem d_De_dequeue_17 : decode prog_3_method_6_code 17 = .ok (.getfield 11, 3) := by decide +kernel
theorem d_De_dequeue_20 : decode prog_3_method_6_code 20 = .ok (.iload_n 2, 1) := by decide +kernel
theorem d_De_dequeue_21 : decode prog_3_method_6_code 21 = .ok (.iconst 1, 1) := by decide +kernel
theorem d_De_dequeue_22 : decode prog_3_method_6_code 22 = .ok (.isub, 1) := by decide +kernel
theorem d_De_dequeue_23 : decode prog_3_method_6_code 23 = .ok (.aload_n 0, 1) := by decide +kernel
theorem d_De_dequeue_24 : decode prog_3_method_6_code 24 = .ok (.getfield 11, 3) := by decide +kernel
theorem d_De_dequeue_27 : decode prog_3_method_6_code 27 = .ok (.iload_n 2, 1) := by decide +kernel
theorem d_De_dequeue_28 : decode prog_3_method_6_code 28 = .ok (.iaload, 1) := by decide +kernel
theorem d_De_dequeue_29 : decode prog_3_method_6_code 29 = .ok (.iastore, 1) := by decide +kernel
theorem d_De_dequeue_30 : decode prog_3_method_6_code 30 = .ok (.iinc 2 1, 3) := by decide +kernel
theorem d_De_dequeue_33 : decode prog_3_method_6_code 33 = .ok (.goto (-25), 3) := by decide +kernel
theorem d_De_dequeue_36 : decode prog_3_method_6_code 36 = .ok (.aload_n 0, 1) := by decide +kernel
theorem d_De_dequeue_37 : decode prog_3_method_6_code 37 = .ok (.iconst 0, 1) := by decide +kernel
theorem d_De_dequeue_38 : decode prog_3_method_6_code 38 = .ok (.aload_n 0, 1) := by decide +kernel
theorem d_De_dequeue_39 : decode prog_3_method_6_code 39 = .ok (.getfield 25, 3) := by decide +kernel
theorem d_De_dequeue_42 : decode prog_3_method_6_code 42 = .ok (.iconst 1, 1) := by decide +kernel
theorem d_De_dequeue_43 : decode prog_3_method_6_code 43 = .ok (.isub, 1) := by decide +kernel
theorem d_De_dequeue_44 : decode prog_3_method_6_code 44 = .ok (.invokestatic 32, 3) := by decide +kernel
theorem d_De_dequeue_47 : decode prog_3_method_6_code 47 = .ok (.putfield 25, 3) := by decide +kernel
theorem d_De_dequeue_50 : decode prog_3_method_6_code 50 = .ok (.iload_n 1, 1) := by decide +kernel
theorem d_De_dequeue_51 : decode prog_3_method_6_code 51 = .ok (.ireturn, 1) := by decide +kernel
theorem d_Li_isEmpty_0 : decode prog_4_method_2_code 0 = .ok (.aload_n 0, 1) := by decide +kernel
theorem d_Li_isEmpty_1 : decode prog_4_method_2_code 1 = .ok (.getfield 18, 3) := by decide +kernel
theorem d_Li_isEmpty_4 : decode prog_4_method_2_code 4 = .ok (.aload_n 0, 1) := by decide +kernel
theorem d_Li_isEmpty_5 : decode prog_4_method_2_code 5 = .ok (.getfield 22, 3) := by decide +kernel
theorem d_Li_isEmpty_8 : decode prog_4_method_2_code 8 = .ok (.if_icmp .ne (7), 3) := by decide +kernel
theorem d_Li_isEmpty_11 : decode prog_4_method_2_code 11 = .ok (.iconst 1, 1) := by decide +kernel
theorem d_Li_isEmpty_12 : decode prog_4_method_2_code 12 = .ok (.goto (4), 3) := by decide +kernel
theorem d_Li_isEmpty_15 : decode prog_4_method_2_code 15 = .ok (.iconst 0, 1) := by decide +kernel
theorem d_Li_isEmpty_16 : decode prog_4_method_2_code 16 = .ok (.ireturn, 1) := by decide +kernel
theorem d_Li_append_0 : decode prog_4_method_3_code 0 = .ok (.aload_n 0, 1) := by decide +kernel
theorem d_Li_append_1 : decode prog_4_method_3_code 1 = .ok (.getfield 22, 3) := by decide +kernel
theorem d_Li_append_4 : decode prog_4_method_3_code 4 = .ok (.iconst 4, 1) := by decide +kernel
theorem d_Li_append_5 : decode prog_4_method_3_code 5 = .ok (.irem, 1) := by decide +kernel
theorem d_Li_append_6 : decode prog_4_method_3_code 6 = .ok (.istore_n 3, 1) := by decide +kernel
theorem d_Li_append_7 : decode prog_4_method_3_code 7 = .ok (.aload_n 0, 1) := by decide +kernel
theorem d_Li_append_8 : decode prog_4_method_3_code 8 = .ok (.getfield 11, 3) := by decide +kernel
theorem d_Li_append_11 : decode prog_4_method_3_code 11 = .ok (.iload_n 3, 1) := by decide +kernel
theorem d_Li_append_12 : decode prog_4_method_3_code 12 = .ok (.iload_n 1, 1) := by decide +kernel
theorem d_Li_append_13 : decode prog_4_method_3_code 13 = .ok (.iastore, 1) := by decide +kernel
theorem d_Li_append_14 : decode prog_4_method_3_code 14 = .ok (.aload_n 0, 1) := by decide +kernel
theorem d_Li_append_15 : decode prog_4_method_3_code 15 = .ok (.getfield 15, 3) := by decide +kernel
theorem d_Li_append_18 : decode prog_4_method_3_code 18 = .ok (.iload_n 3, 1) := by decide +kernel
theorem d_Li_append_19 : decode prog_4_method_3_code 19 = .ok (.iload_n 2, 1) := by decide +kernel
theorem d_Li_append_20 : decode prog_4_method_3_code 20 = .ok (.iastore, 1) := by decide +kernel
theorem d_Li_append_21 : decode prog_4_method_3_code 21 = .ok (.aload_n 0, 1) := by decide +kernel
theorem d_Li_append_22 : decode prog_4_method_3_code 22 = .ok (.dup, 1) := by decide +kernel
theorem d_Li_append_23 : decode prog_4_method_3_code 23 = .ok (.getfield 22, 3) := by decide +kernel
theorem d_Li_append_26 : decode prog_4_method_3_code 26 = .ok (.iconst 1, 1) := by decide +kernel
theorem d_Li_append_27 : decode prog_4_method_3_code 27 = .ok (.iadd, 1) := by decide +kernel
theorem d_Li_append_28 : decode prog_4_method_3_code 28 = .ok (.putfield 22, 3) := by decide +kernel
theorem d_Li_append_31 : decode prog_4_method_3_code 31 = .ok (.return_, 1) := by decide +kernel
theorem d_Li_firstCopy_0 : decode prog_4_method_4_code 0 = .ok (.aload_n 0, 1) := by decide +kernel
theorem d_Li_firstCopy_1 : decode prog_4_method_4_code 1 = .ok (.getfield 11, 3) := by decide +kernel
theorem d_Li_firstCopy_4 : decode prog_4_method_4_code 4 = .ok (.aload_n 0, 1) := by decide +kernel
theorem d_Li_firstCopy_5 : decode prog_4_method_4_code 5 = .ok (.getfield 18, 3) := by decide +kernel
theorem d_Li_firstCopy_8 : decode prog_4_method_4_code 8 = .ok (.iconst 4, 1) := by decide +kernel
theorem d_Li_firstCopy_9 : decode prog_4_method_4_code 9 = .ok (.irem, 1) := by decide +kernel
theorem d_Li_firstCopy_10 : decode prog_4_method_4_code 10 = .ok (.iaload, 1) := by decide +kernel
theorem d_Li_firstCopy_11 : decode prog_4_method_4_code 11 = .ok (.ireturn, 1) := by decide +kernel
theorem d_Li_firstAsker_0 : decode prog_4_method_5_code 0 = .ok (.aload_n 0, 1) := by decide +kernel
theorem d_Li_firstAsker_1 : decode prog_4_method_5_code 1 = .ok (.getfield 15, 3) := by decide +kernel
theorem d_Li_firstAsker_4 : decode prog_4_method_5_code 4 = .ok (.aload_n 0, 1) := by decide +kernel
theorem d_Li_firstAsker_5 : decode prog_4_method_5_code 5 = .ok (.getfield 18, 3) := by decide +kernel
theorem d_Li_firstAsker_8 : decode prog_4_method_5_code 8 = .ok (.iconst 4, 1) := by decide +kernel
theorem d_Li_firstAsker_9 : decode prog_4_method_5_code 9 = .ok (.irem, 1) := by decide +kernel
theorem d_Li_firstAsker_10 : decode prog_4_method_5_code 10 = .ok (.iaload, 1) := by decide +kernel
theorem d_Li_firstAsker_11 : decode prog_4_method_5_code 11 = .ok (.ireturn, 1) := by decide +kernel
theorem d_Li_removeFirst_0 : decode prog_4_method_6_code 0 = .ok (.aload_n 0, 1) := by decide +kernel
theorem d_Li_removeFirst_1 : decode prog_4_method_6_code 1 = .ok (.invokevirtual 25, 3) := by decide +kernel
theorem d_Li_removeFirst_4 : decode prog_4_method_6_code 4 = .ok (.ifCond .ne (11), 3) := by decide +kernel
theorem d_Li_removeFirst_7 : decode prog_4_method_6_code 7 = .ok (.iload_n 1, 1) := by decide +kernel
theorem d_Li_removeFirst_8 : decode prog_4_method_6_code 8 = .ok (.aload_n 0, 1) := by decide +kernel
theorem d_Li_removeFirst_9 : decode prog_4_method_6_code 9 = .ok (.getfield 18, 3) := by decide +kernel
theorem d_Li_removeFirst_12 : decode prog_4_method_6_code 12 = .ok (.if_icmp .eq (5), 3) := by decide +kernel
theorem d_Li_removeFirst_15 : decode prog_4_method_6_code 15 = .ok (.iconst 0, 1) := by decide +kernel
theorem d_Li_removeFirst_16 : decode prog_4_method_6_code 16 = .ok (.ireturn, 1) := by decide +kernel
theorem d_Li_removeFirst_17 : decode prog_4_method_6_code 17 = .ok (.aload_n 0, 1) := by decide +kernel
theorem d_Li_removeFirst_18 : decode prog_4_method_6_code 18 = .ok (.dup, 1) := by decide +kernel
theorem d_Li_removeFirst_19 : decode prog_4_method_6_code 19 = .ok (.getfield 18, 3) := by decide +kernel
theorem d_Li_removeFirst_22 : decode prog_4_method_6_code 22 = .ok (.iconst 1, 1) := by decide +kernel
theorem d_Li_removeFirst_23 : decode prog_4_method_6_code 23 = .ok (.iadd, 1) := by decide +kernel
theorem d_Li_removeFirst_24 : decode prog_4_method_6_code 24 = .ok (.putfield 18, 3) := by decide +kernel
theorem d_Li_removeFirst_27 : decode prog_4_method_6_code 27 = .ok (.iconst 1, 1) := by decide +kernel
theorem d_Li_removeFirst_28 : decode prog_4_method_6_code 28 = .ok (.ireturn, 1) := by decide +kernel
theorem d_Li_takesNext_0 : decode prog_4_method_7_code 0 = .ok (.iload_n 1, 1) := by decide +kernel
theorem d_Li_takesNext_1 : decode prog_4_method_7_code 1 = .ok (.aload_n 0, 1) := by decide +kernel
theorem d_Li_takesNext_2 : decode prog_4_method_7_code 2 = .ok (.getfield 29, 3) := by decide +kernel
theorem d_Li_takesNext_5 : decode prog_4_method_7_code 5 = .ok (.if_icmp .eq (5), 3) := by decide +kernel
theorem d_Li_takesNext_8 : decode prog_4_method_7_code 8 = .ok (.iconst 0, 1) := by decide +kernel
theorem d_Li_takesNext_9 : decode prog_4_method_7_code 9 = .ok (.ireturn, 1) := by decide +kernel
theorem d_Li_takesNext_10 : decode prog_4_method_7_code 10 = .ok (.aload_n 0, 1) := by decide +kernel
theorem d_Li_takesNext_11 : decode prog_4_method_7_code 11 = .ok (.dup, 1) := by decide +kernel
theorem d_Li_takesNext_12 : decode prog_4_method_7_code 12 = .ok (.getfield 29, 3) := by decide +kernel
theorem d_Li_takesNext_15 : decode prog_4_method_7_code 15 = .ok (.iconst 1, 1) := by decide +kernel
theorem d_Li_takesNext_16 : decode prog_4_method_7_code 16 = .ok (.iadd, 1) := by decide +kernel
theorem d_Li_takesNext_17 : decode prog_4_method_7_code 17 = .ok (.putfield 29, 3) := by decide +kernel
theorem d_Li_takesNext_20 : decode prog_4_method_7_code 20 = .ok (.iconst 1, 1) := by decide +kernel
theorem d_Li_takesNext_21 : decode prog_4_method_7_code 21 = .ok (.ireturn, 1) := by decide +kernel
theorem d_Po_part_0 : decode prog_6_method_2_code 0 = .ok (.aload_n 0, 1) := by decide +kernel
theorem d_Po_part_1 : decode prog_6_method_2_code 1 = .ok (.getfield 9, 3) := by decide +kernel
theorem d_Po_part_4 : decode prog_6_method_2_code 4 = .ok (.iload_n 1, 1) := by decide +kernel
theorem d_Po_part_5 : decode prog_6_method_2_code 5 = .ok (.bipush 6, 2) := by decide +kernel
theorem d_Po_part_7 : decode prog_6_method_2_code 7 = .ok (.imul, 1) := by decide +kernel
theorem d_Po_part_8 : decode prog_6_method_2_code 8 = .ok (.iload_n 2, 1) := by decide +kernel
theorem d_Po_part_9 : decode prog_6_method_2_code 9 = .ok (.iadd, 1) := by decide +kernel
theorem d_Po_part_10 : decode prog_6_method_2_code 10 = .ok (.iaload, 1) := by decide +kernel
theorem d_Po_part_11 : decode prog_6_method_2_code 11 = .ok (.ireturn, 1) := by decide +kernel
theorem d_Po_put_0 : decode prog_6_method_3_code 0 = .ok (.aload_n 0, 1) := by decide +kernel
theorem d_Po_put_1 : decode prog_6_method_3_code 1 = .ok (.getfield 13, 3) := by decide +kernel
theorem d_Po_put_4 : decode prog_6_method_3_code 4 = .ok (.bipush 40, 2) := by decide +kernel
theorem d_Po_put_6 : decode prog_6_method_3_code 6 = .ok (.if_icmp .ne (4), 3) := by decide +kernel
theorem d_Po_put_9 : decode prog_6_method_3_code 9 = .ok (.return_, 1) := by decide +kernel
theorem d_Po_put_10 : decode prog_6_method_3_code 10 = .ok (.aload_n 0, 1) := by decide +kernel
theorem d_Po_put_11 : decode prog_6_method_3_code 11 = .ok (.getfield 13, 3) := by decide +kernel
theorem d_Po_put_14 : decode prog_6_method_3_code 14 = .ok (.bipush 6, 2) := by decide +kernel
theorem d_Po_put_16 : decode prog_6_method_3_code 16 = .ok (.imul, 1) := by decide +kernel
theorem d_Po_put_17 : decode prog_6_method_3_code 17 = .ok (.istore 7, 2) := by decide +kernel
theorem d_Po_put_19 : decode prog_6_method_3_code 19 = .ok (.aload_n 0, 1) := by decide +kernel
theorem d_Po_put_20 : decode prog_6_method_3_code 20 = .ok (.getfield 9, 3) := by decide +kernel
theorem d_Po_put_23 : decode prog_6_method_3_code 23 = .ok (.iload 7, 2) := by decide +kernel
theorem d_Po_put_25 : decode prog_6_method_3_code 25 = .ok (.iconst 0, 1) := by decide +kernel
theorem d_Po_put_26 : decode prog_6_method_3_code 26 = .ok (.iadd, 1) := by decide +kernel
theorem d_Po_put_27 : decode prog_6_method_3_code 27 = .ok (.iload_n 1, 1) := by decide +kernel
theorem d_Po_put_28 : decode prog_6_method_3_code 28 = .ok (.iastore, 1) := by decide +kernel
theorem d_Po_put_29 : decode prog_6_method_3_code 29 = .ok (.aload_n 0, 1) := by decide +kernel
theorem d_Po_put_30 : decode prog_6_method_3_code 30 = .ok (.getfield 9, 3) := by decide +kernel
theorem d_Po_put_33 : decode prog_6_method_3_code 33 = .ok (.iload 7, 2) := by decide +kernel
theorem d_Po_put_35 : decode prog_6_method_3_code 35 = .ok (.iconst 1, 1) := by decide +kernel
theorem d_Po_put_36 : decode prog_6_method_3_code 36 = .ok (.iadd, 1) := by decide +kernel
theorem d_Po_put_37 : decode prog_6_method_3_code 37 = .ok (.iload_n 2, 1) := by decide +kernel
theorem d_Po_put_38 : decode prog_6_method_3_code 38 = .ok (.iastore, 1) := by decide +kernel
theorem d_Po_put_39 : decode prog_6_method_3_code 39 = .ok (.aload_n 0, 1) := by decide +kernel
theorem d_Po_put_40 : decode prog_6_method_3_code 40 = .ok (.getfield 9, 3) := by decide +kernel
theorem d_Po_put_43 : decode prog_6_method_3_code 43 = .ok (.iload 7, 2) := by decide +kernel
theorem d_Po_put_45 : decode prog_6_method_3_code 45 = .ok (.iconst 2, 1) := by decide +kernel
theorem d_Po_put_46 : decode prog_6_method_3_code 46 = .ok (.iadd, 1) := by decide +kernel
theorem d_Po_put_47 : decode prog_6_method_3_code 47 = .ok (.iload_n 3, 1) := by decide +kernel
theorem d_Po_put_48 : decode prog_6_method_3_code 48 = .ok (.iastore, 1) := by decide +kernel
theorem d_Po_put_49 : decode prog_6_method_3_code 49 = .ok (.aload_n 0, 1) := by decide +kernel
theorem d_Po_put_50 : decode prog_6_method_3_code 50 = .ok (.getfield 9, 3) := by decide +kernel
theorem d_Po_put_53 : decode prog_6_method_3_code 53 = .ok (.iload 7, 2) := by decide +kernel
theorem d_Po_put_55 : decode prog_6_method_3_code 55 = .ok (.iconst 3, 1) := by decide +kernel
theorem d_Po_put_56 : decode prog_6_method_3_code 56 = .ok (.iadd, 1) := by decide +kernel
theorem d_Po_put_57 : decode prog_6_method_3_code 57 = .ok (.iload 4, 2) := by decide +kernel
theorem d_Po_put_59 : decode prog_6_method_3_code 59 = .ok (.iastore, 1) := by decide +kernel
theorem d_Po_put_60 : decode prog_6_method_3_code 60 = .ok (.aload_n 0, 1) := by decide +kernel
theorem d_Po_put_61 : decode prog_6_method_3_code 61 = .ok (.getfield 9, 3) := by decide +kernel
theorem d_Po_put_64 : decode prog_6_method_3_code 64 = .ok (.iload 7, 2) := by decide +kernel
theorem d_Po_put_66 : decode prog_6_method_3_code 66 = .ok (.iconst 4, 1) := by decide +kernel
theorem d_Po_put_67 : decode prog_6_method_3_code 67 = .ok (.iadd, 1) := by decide +kernel
theorem d_Po_put_68 : decode prog_6_method_3_code 68 = .ok (.iload 5, 2) := by decide +kernel
theorem d_Po_put_70 : decode prog_6_method_3_code 70 = .ok (.iastore, 1) := by decide +kernel
theorem d_Po_put_71 : decode prog_6_method_3_code 71 = .ok (.aload_n 0, 1) := by decide +kernel
theorem d_Po_put_72 : decode prog_6_method_3_code 72 = .ok (.getfield 9, 3) := by decide +kernel
theorem d_Po_put_75 : decode prog_6_method_3_code 75 = .ok (.iload 7, 2) := by decide +kernel
theorem d_Po_put_77 : decode prog_6_method_3_code 77 = .ok (.iconst 5, 1) := by decide +kernel
theorem d_Po_put_78 : decode prog_6_method_3_code 78 = .ok (.iadd, 1) := by decide +kernel
theorem d_Po_put_79 : decode prog_6_method_3_code 79 = .ok (.iload 6, 2) := by decide +kernel
theorem d_Po_put_81 : decode prog_6_method_3_code 81 = .ok (.iastore, 1) := by decide +kernel
theorem d_Po_put_82 : decode prog_6_method_3_code 82 = .ok (.aload_n 0, 1) := by decide +kernel
theorem d_Po_put_83 : decode prog_6_method_3_code 83 = .ok (.dup, 1) := by decide +kernel
theorem d_Po_put_84 : decode prog_6_method_3_code 84 = .ok (.getfield 13, 3) := by decide +kernel
theorem d_Po_put_87 : decode prog_6_method_3_code 87 = .ok (.iconst 1, 1) := by decide +kernel
theorem d_Po_put_88 : decode prog_6_method_3_code 88 = .ok (.iadd, 1) := by decide +kernel
theorem d_Po_put_89 : decode prog_6_method_3_code 89 = .ok (.putfield 13, 3) := by decide +kernel
theorem d_Po_put_92 : decode prog_6_method_3_code 92 = .ok (.return_, 1) := by decide +kernel
theorem d_Po_putAgain_0 : decode prog_6_method_4_code 0 = .ok (.aload_n 0, 1) := by decide +kernel
theorem d_Po_putAgain_1 : decode prog_6_method_4_code 1 = .ok (.getfield 13, 3) := by decide +kernel
theorem d_Po_putAgain_4 : decode prog_6_method_4_code 4 = .ok (.bipush 40, 2) := by decide +kernel
theorem d_Po_putAgain_6 : decode prog_6_method_4_code 6 = .ok (.if_icmp .ne (5), 3) := by decide +kernel
theorem d_Po_putAgain_9 : decode prog_6_method_4_code 9 = .ok (.iconst 0, 1) := by decide +kernel
theorem d_Po_putAgain_10 : decode prog_6_method_4_code 10 = .ok (.ireturn, 1) := by decide +kernel
theorem d_Po_putAgain_11 : decode prog_6_method_4_code 11 = .ok (.aload_n 0, 1) := by decide +kernel
theorem d_Po_putAgain_12 : decode prog_6_method_4_code 12 = .ok (.getfield 9, 3) := by decide +kernel
theorem d_Po_putAgain_15 : decode prog_6_method_4_code 15 = .ok (.iload_n 1, 1) := by decide +kernel
theorem d_Po_putAgain_16 : decode prog_6_method_4_code 16 = .ok (.bipush 6, 2) := by decide +kernel
theorem d_Po_putAgain_18 : decode prog_6_method_4_code 18 = .ok (.imul, 1) := by decide +kernel
theorem d_Po_putAgain_19 : decode prog_6_method_4_code 19 = .ok (.aload_n 0, 1) := by decide +kernel
theorem d_Po_putAgain_20 : decode prog_6_method_4_code 20 = .ok (.getfield 9, 3) := by decide +kernel
theorem d_Po_putAgain_23 : decode prog_6_method_4_code 23 = .ok (.aload_n 0, 1) := by decide +kernel
theorem d_Po_putAgain_24 : decode prog_6_method_4_code 24 = .ok (.getfield 13, 3) := by decide +kernel
theorem d_Po_putAgain_27 : decode prog_6_method_4_code 27 = .ok (.bipush 6, 2) := by decide +kernel
theorem d_Po_putAgain_29 : decode prog_6_method_4_code 29 = .ok (.imul, 1) := by decide +kernel
theorem d_Po_putAgain_30 : decode prog_6_method_4_code 30 = .ok (.bipush 6, 2) := by decide +kernel
theorem d_Po_putAgain_32 : decode prog_6_method_4_code 32 = .ok (.invokestatic 17, 3) := by decide +kernel
theorem d_Po_putAgain_35 : decode prog_6_method_4_code 35 = .ok (.aload_n 0, 1) := by decide +kernel
theorem d_Po_putAgain_36 : decode prog_6_method_4_code 36 = .ok (.dup, 1) := by decide +kernel
theorem d_Po_putAgain_37 : decode prog_6_method_4_code 37 = .ok (.getfield 13, 3) := by decide +kernel
theorem d_Po_putAgain_40 : decode prog_6_method_4_code 40 = .ok (.iconst 1, 1) := by decide +kernel
theorem d_Po_putAgain_41 : decode prog_6_method_4_code 41 = .ok (.iadd, 1) := by decide +kernel
theorem d_Po_putAgain_42 : decode prog_6_method_4_code 42 = .ok (.putfield 13, 3) := by decide +kernel
theorem d_Po_putAgain_45 : decode prog_6_method_4_code 45 = .ok (.iconst 1, 1) := by decide +kernel
theorem d_Po_putAgain_46 : decode prog_6_method_4_code 46 = .ok (.ireturn, 1) := by decide +kernel
theorem d_Po_remove_0 : decode prog_6_method_5_code 0 = .ok (.iload_n 1, 1) := by decide +kernel
theorem d_Po_remove_1 : decode prog_6_method_5_code 1 = .ok (.bipush 6, 2) := by decide +kernel
theorem d_Po_remove_3 : decode prog_6_method_5_code 3 = .ok (.imul, 1) := by decide +kernel
theorem d_Po_remove_4 : decode prog_6_method_5_code 4 = .ok (.istore_n 2, 1) := by decide +kernel
theorem d_Po_remove_5 : decode prog_6_method_5_code 5 = .ok (.aload_n 0, 1) := by decide +kernel
theorem d_Po_remove_6 : decode prog_6_method_5_code 6 = .ok (.getfield 9, 3) := by decide +kernel
theorem d_Po_remove_9 : decode prog_6_method_5_code 9 = .ok (.iload_n 2, 1) := by decide +kernel
theorem d_Po_remove_10 : decode prog_6_method_5_code 10 = .ok (.bipush 6, 2) := by decide +kernel
theorem d_Po_remove_12 : decode prog_6_method_5_code 12 = .ok (.iadd, 1) := by decide +kernel
theorem d_Po_remove_13 : decode prog_6_method_5_code 13 = .ok (.aload_n 0, 1) := by decide +kernel
theorem d_Po_remove_14 : decode prog_6_method_5_code 14 = .ok (.getfield 9, 3) := by decide +kernel
theorem d_Po_remove_17 : decode prog_6_method_5_code 17 = .ok (.iload_n 2, 1) := by decide +kernel
theorem d_Po_remove_18 : decode prog_6_method_5_code 18 = .ok (.aload_n 0, 1) := by decide +kernel
theorem d_Po_remove_19 : decode prog_6_method_5_code 19 = .ok (.getfield 13, 3) := by decide +kernel
theorem d_Po_remove_22 : decode prog_6_method_5_code 22 = .ok (.iload_n 1, 1) := by decide +kernel
theorem d_Po_remove_23 : decode prog_6_method_5_code 23 = .ok (.isub, 1) := by decide +kernel
theorem d_Po_remove_24 : decode prog_6_method_5_code 24 = .ok (.iconst 1, 1) := by decide +kernel
theorem d_Po_remove_25 : decode prog_6_method_5_code 25 = .ok (.isub, 1) := by decide +kernel
theorem d_Po_remove_26 : decode prog_6_method_5_code 26 = .ok (.bipush 6, 2) := by decide +kernel
theorem d_Po_remove_28 : decode prog_6_method_5_code 28 = .ok (.imul, 1) := by decide +kernel
theorem d_Po_remove_29 : decode prog_6_method_5_code 29 = .ok (.invokestatic 17, 3) := by decide +kernel
theorem d_Po_remove_32 : decode prog_6_method_5_code 32 = .ok (.aload_n 0, 1) := by decide +kernel
theorem d_Po_remove_33 : decode prog_6_method_5_code 33 = .ok (.dup, 1) := by decide +kernel
theorem d_Po_remove_34 : decode prog_6_method_5_code 34 = .ok (.getfield 13, 3) := by decide +kernel
theorem d_Po_remove_37 : decode prog_6_method_5_code 37 = .ok (.iconst 1, 1) := by decide +kernel
theorem d_Po_remove_38 : decode prog_6_method_5_code 38 = .ok (.isub, 1) := by decide +kernel
theorem d_Po_remove_39 : decode prog_6_method_5_code 39 = .ok (.putfield 13, 3) := by decide +kernel
theorem d_Po_remove_42 : decode prog_6_method_5_code 42 = .ok (.return_, 1) := by decide +kernel
theorem d_Tr_parentByShape_0 : decode prog_7_method_2_code 0 = .ok (.iload_n 1, 1) := by decide +kernel
theorem d_Tr_parentByShape_1 : decode prog_7_method_2_code 1 = .ok (.ifCond .ne (9), 3) := by decide +kernel
theorem d_Tr_parentByShape_4 : decode prog_7_method_2_code 4 = .ok (.iload_n 0, 1) := by decide +kernel
theorem d_Tr_parentByShape_5 : decode prog_7_method_2_code 5 = .ok (.iconst 1, 1) := by decide +kernel
theorem d_Tr_parentByShape_6 : decode prog_7_method_2_code 6 = .ok (.isub, 1) := by decide +kernel
theorem d_Tr_parentByShape_7 : decode prog_7_method_2_code 7 = .ok (.iconst 2, 1) := by decide +kernel
theorem d_Tr_parentByShape_8 : decode prog_7_method_2_code 8 = .ok (.idiv, 1) := by decide +kernel
theorem d_Tr_parentByShape_9 : decode prog_7_method_2_code 9 = .ok (.ireturn, 1) := by decide +kernel
theorem d_Tr_parentByShape_10 : decode prog_7_method_2_code 10 = .ok (.iload_n 1, 1) := by decide +kernel
theorem d_Tr_parentByShape_11 : decode prog_7_method_2_code 11 = .ok (.iconst 1, 1) := by decide +kernel
theorem d_Tr_parentByShape_12 : decode prog_7_method_2_code 12 = .ok (.if_icmp .ne (9), 3) := by decide +kernel
theorem d_Tr_parentByShape_15 : decode prog_7_method_2_code 15 = .ok (.iload_n 0, 1) := by decide +kernel
theorem d_Tr_parentByShape_16 : decode prog_7_method_2_code 16 = .ok (.iconst 1, 1) := by decide +kernel
theorem d_Tr_parentByShape_17 : decode prog_7_method_2_code 17 = .ok (.isub, 1) := by decide +kernel
theorem d_Tr_parentByShape_18 : decode prog_7_method_2_code 18 = .ok (.goto (4), 3) := by decide +kernel
theorem d_Tr_parentByShape_21 : decode prog_7_method_2_code 21 = .ok (.iconst 0, 1) := by decide +kernel
theorem d_Tr_parentByShape_22 : decode prog_7_method_2_code 22 = .ok (.ireturn, 1) := by decide +kernel
theorem d_Tr_isParent_0 : decode prog_7_method_3_code 0 = .ok (.aload_n 0, 1) := by decide +kernel
theorem d_Tr_isParent_1 : decode prog_7_method_3_code 1 = .ok (.getfield 9, 3) := by decide +kernel
theorem d_Tr_isParent_4 : decode prog_7_method_3_code 4 = .ok (.iload_n 2, 1) := by decide +kernel
theorem d_Tr_isParent_5 : decode prog_7_method_3_code 5 = .ok (.iaload, 1) := by decide +kernel
theorem d_Tr_isParent_6 : decode prog_7_method_3_code 6 = .ok (.iload_n 1, 1) := by decide +kernel
theorem d_Tr_isParent_7 : decode prog_7_method_3_code 7 = .ok (.if_icmp .ne (7), 3) := by decide +kernel
theorem d_Tr_isParent_10 : decode prog_7_method_3_code 10 = .ok (.iconst 1, 1) := by decide +kernel
theorem d_Tr_isParent_11 : decode prog_7_method_3_code 11 = .ok (.goto (4), 3) := by decide +kernel
theorem d_Tr_isParent_14 : decode prog_7_method_3_code 14 = .ok (.iconst 0, 1) := by decide +kernel
theorem d_Tr_isParent_15 : decode prog_7_method_3_code 15 = .ok (.ireturn, 1) := by decide +kernel
theorem d_Tr_areNeighbours_0 : decode prog_7_method_4_code 0 = .ok (.aload_n 0, 1) := by decide +kernel
theorem d_Tr_areNeighbours_1 : decode prog_7_method_4_code 1 = .ok (.iload_n 1, 1) := by decide +kernel
theorem d_Tr_areNeighbours_2 : decode prog_7_method_4_code 2 = .ok (.iload_n 2, 1) := by decide +kernel
theorem d_Tr_areNeighbours_3 : decode prog_7_method_4_code 3 = .ok (.invokevirtual 19, 3) := by decide +kernel
theorem d_Tr_areNeighbours_6 : decode prog_7_method_4_code 6 = .ok (.ifCond .ne (12), 3) := by decide +kernel
theorem d_Tr_areNeighbours_9 : decode prog_7_method_4_code 9 = .ok (.aload_n 0, 1) := by decide +kernel
theorem d_Tr_areNeighbours_10 : decode prog_7_method_4_code 10 = .ok (.iload_n 2, 1) := by decide +kernel
theorem d_Tr_areNeighbours_11 : decode prog_7_method_4_code 11 = .ok (.iload_n 1, 1) := by decide +kernel
theorem d_Tr_areNeighbours_12 : decode prog_7_method_4_code 12 = .ok (.invokevirtual 19, 3) := by decide +kernel
theorem d_Tr_areNeighbours_15 : decode prog_7_method_4_code 15 = .ok (.ifCond .eq (7), 3) := by decide +kernel
theorem d_Tr_areNeighbours_18 : decode prog_7_method_4_code 18 = .ok (.iconst 1, 1) := by decide +kernel
theorem d_Tr_areNeighbours_19 : decode prog_7_method_4_code 19 = .ok (.goto (4), 3) := by decide +kernel
theorem d_Tr_areNeighbours_22 : decode prog_7_method_4_code 22 = .ok (.iconst 0, 1) := by decide +kernel
theorem d_Tr_areNeighbours_23 : decode prog_7_method_4_code 23 = .ok (.ireturn, 1) := by decide +kernel
theorem d_Tr_stepTowards_0 : decode prog_7_method_5_code 0 = .ok (.iload_n 1, 1) := by decide +kernel
theorem d_Tr_stepTowards_1 : decode prog_7_method_5_code 1 = .ok (.iload_n 2, 1) := by decide +kernel
theorem d_Tr_stepTowards_2 : decode prog_7_method_5_code 2 = .ok (.if_icmp .ne (5), 3) := by decide +kernel
theorem d_Tr_stepTowards_5 : decode prog_7_method_5_code 5 = .ok (.iload_n 1, 1) := by decide +kernel
theorem d_Tr_stepTowards_6 : decode prog_7_method_5_code 6 = .ok (.ireturn, 1) := by decide +kernel
theorem d_Tr_stepTowards_7 : decode prog_7_method_5_code 7 = .ok (.iload_n 2, 1) := by decide +kernel
theorem d_Tr_stepTowards_8 : decode prog_7_method_5_code 8 = .ok (.istore_n 3, 1) := by decide +kernel
theorem d_Tr_stepTowards_9 : decode prog_7_method_5_code 9 = .ok (.iconst 0, 1) := by decide +kernel
theorem d_Tr_stepTowards_10 : decode prog_7_method_5_code 10 = .ok (.istore 4, 2) := by decide +kernel
theorem d_Tr_stepTowards_12 : decode prog_7_method_5_code 12 = .ok (.iload 4, 2) := by decide +kernel
theorem d_Tr_stepTowards_14 : decode prog_7_method_5_code 14 = .ok (.aload_n 0, 1) := by decide +kernel
theorem d_Tr_stepTowards_15 : decode prog_7_method_5_code 15 = .ok (.getfield 9, 3) := by decide +kernel
theorem d_Tr_stepTowards_18 : decode prog_7_method_5_code 18 = .ok (.arraylength, 1) := by decide +kernel
theorem d_Tr_stepTowards_19 : decode prog_7_method_5_code 19 = .ok (.if_icmp .ge (33), 3) := by decide +kernel
theorem d_Tr_stepTowards_22 : decode prog_7_method_5_code 22 = .ok (.iload_n 3, 1) := by decide +kernel
theorem d_Tr_stepTowards_23 : decode prog_7_method_5_code 23 = .ok (.iload_n 1, 1) := by decide +kernel
theorem d_Tr_stepTowards_24 : decode prog_7_method_5_code 24 = .ok (.if_icmp .le (28), 3) := by decide +kernel
theorem d_Tr_stepTowards_27 : decode prog_7_method_5_code 27 = .ok (.aload_n 0, 1) := by decide +kernel
theorem d_Tr_stepTowards_28 : decode prog_7_method_5_code 28 = .ok (.getfield 9, 3) := by decide +kernel
theorem d_Tr_stepTowards_31 : decode prog_7_method_5_code 31 = .ok (.iload_n 3, 1) := by decide +kernel
theorem d_Tr_stepTowards_32 : decode prog_7_method_5_code 32 = .ok (.iaload, 1) := by decide +kernel
theorem d_Tr_stepTowards_33 : decode prog_7_method_5_code 33 = .ok (.iload_n 1, 1) := by decide +kernel
theorem d_Tr_stepTowards_34 : decode prog_7_method_5_code 34 = .ok (.if_icmp .ne (5), 3) := by decide +kernel
theorem d_Tr_stepTowards_37 : decode prog_7_method_5_code 37 = .ok (.iload_n 3, 1) := by decide +kernel
theorem d_Tr_stepTowards_38 : decode prog_7_method_5_code 38 = .ok (.ireturn, 1) := by decide +kernel
theorem d_Tr_stepTowards_39 : decode prog_7_method_5_code 39 = .ok (.aload_n 0, 1) := by decide +kernel
theorem d_Tr_stepTowards_40 : decode prog_7_method_5_code 40 = .ok (.getfield 9, 3) := by decide +kernel
theorem d_Tr_stepTowards_43 : decode prog_7_method_5_code 43 = .ok (.iload_n 3, 1) := by decide +kernel
theorem d_Tr_stepTowards_44 : decode prog_7_method_5_code 44 = .ok (.iaload, 1) := by decide +kernel
theorem d_Tr_stepTowards_45 : decode prog_7_method_5_code 45 = .ok (.istore_n 3, 1) := by decide +kernel
theorem d_Tr_stepTowards_46 : decode prog_7_method_5_code 46 = .ok (.iinc 4 1, 3) := by decide +kernel
theorem d_Tr_stepTowards_49 : decode prog_7_method_5_code 49 = .ok (.goto (-37), 3) := by decide +kernel
theorem d_Tr_stepTowards_52 : decode prog_7_method_5_code 52 = .ok (.aload_n 0, 1) := by decide +kernel
theorem d_Tr_stepTowards_53 : decode prog_7_method_5_code 53 = .ok (.getfield 9, 3) := by decide +kernel
theorem d_Tr_stepTowards_56 : decode prog_7_method_5_code 56 = .ok (.iload_n 1, 1) := by decide +kernel
theorem d_Tr_stepTowards_57 : decode prog_7_method_5_code 57 = .ok (.iaload, 1) := by decide +kernel
theorem d_Tr_stepTowards_58 : decode prog_7_method_5_code 58 = .ok (.ireturn, 1) := by decide +kernel
theorem d_Co_isPlaced_0 : decode prog_2_method_2_code 0 = .ok (.aload_n 0, 1) := by decide +kernel
theorem d_Co_isPlaced_1 : decode prog_2_method_2_code 1 = .ok (.getfield 15, 3) := by decide +kernel
theorem d_Co_isPlaced_4 : decode prog_2_method_2_code 4 = .ok (.iconst (-1), 1) := by decide +kernel
theorem d_Co_isPlaced_5 : decode prog_2_method_2_code 5 = .ok (.if_icmp .eq (7), 3) := by decide +kernel
theorem d_Co_isPlaced_8 : decode prog_2_method_2_code 8 = .ok (.iconst 1, 1) := by decide +kernel
theorem d_Co_isPlaced_9 : decode prog_2_method_2_code 9 = .ok (.goto (4), 3) := by decide +kernel
theorem d_Co_isPlaced_12 : decode prog_2_method_2_code 12 = .ok (.iconst 0, 1) := by decide +kernel
theorem d_Co_isPlaced_13 : decode prog_2_method_2_code 13 = .ok (.ireturn, 1) := by decide +kernel
theorem d_Co_settle_0 : decode prog_2_method_3_code 0 = .ok (.iconst 0, 1) := by decide +kernel
theorem d_Co_settle_1 : decode prog_2_method_3_code 1 = .ok (.istore_n 3, 1) := by decide +kernel
theorem d_Co_settle_2 : decode prog_2_method_3_code 2 = .ok (.iload_n 3, 1) := by decide +kernel
theorem d_Co_settle_3 : decode prog_2_method_3_code 3 = .ok (.aload_n 0, 1) := by decide +kernel
theorem d_Co_settle_4 : decode prog_2_method_3_code 4 = .ok (.getfield 21, 3) := by decide +kernel
theorem d_Co_settle_7 : decode prog_2_method_3_code 7 = .ok (.arraylength, 1) := by decide +kernel
theorem d_Co_settle_8 : decode prog_2_method_3_code 8 = .ok (.if_icmp .ge (24), 3) := by decide +kernel
theorem d_Co_settle_11 : decode prog_2_method_3_code 11 = .ok (.aload_n 0, 1) := by decide +kernel
theorem d_Co_settle_12 : decode prog_2_method_3_code 12 = .ok (.getfield 21, 3) := by decide +kernel
theorem d_Co_settle_15 : decode prog_2_method_3_code 15 = .ok (.iload_n 3, 1) := by decide +kernel
theorem d_Co_settle_16 : decode prog_2_method_3_code 16 = .ok (.aaload, 1) := by decide +kernel
theorem d_Co_settle_17 : decode prog_2_method_3_code 17 = .ok (.aload_n 2, 1) := by decide +kernel
theorem d_Co_settle_18 : decode prog_2_method_3_code 18 = .ok (.iload_n 3, 1) := by decide +kernel
theorem d_Co_settle_19 : decode prog_2_method_3_code 19 = .ok (.iload_n 1, 1) := by decide +kernel
theorem d_Co_settle_20 : decode prog_2_method_3_code 20 = .ok (.invokevirtual 26, 3) := by decide +kernel
theorem d_Co_settle_23 : decode prog_2_method_3_code 23 = .ok (.putfield 32, 3) := by decide +kernel
theorem d_Co_settle_26 : decode prog_2_method_3_code 26 = .ok (.iinc 3 1, 3) := by decide +kernel
theorem d_Co_settle_29 : decode prog_2_method_3_code 29 = .ok (.goto (-27), 3) := by decide +kernel
theorem d_Co_settle_32 : decode prog_2_method_3_code 32 = .ok (.aload_n 0, 1) := by decide +kernel
theorem d_Co_settle_33 : decode prog_2_method_3_code 33 = .ok (.getfield 21, 3) := by decide +kernel
theorem d_Co_settle_36 : decode prog_2_method_3_code 36 = .ok (.iload_n 1, 1) := by decide +kernel
theorem d_Co_settle_37 : decode prog_2_method_3_code 37 = .ok (.aaload, 1) := by decide +kernel
theorem d_Co_settle_38 : decode prog_2_method_3_code 38 = .ok (.iconst 4, 1) := by decide +kernel
theorem d_Co_settle_39 : decode prog_2_method_3_code 39 = .ok (.putfield 35, 3) := by decide +kernel
theorem d_Co_settle_42 : decode prog_2_method_3_code 42 = .ok (.aload_n 0, 1) := by decide +kernel
theorem d_Co_settle_43 : decode prog_2_method_3_code 43 = .ok (.iload_n 1, 1) := by decide +kernel
theorem d_Co_settle_44 : decode prog_2_method_3_code 44 = .ok (.putfield 15, 3) := by decide +kernel
theorem d_Co_settle_47 : decode prog_2_method_3_code 47 = .ok (.return_, 1) := by decide +kernel
theorem d_Co_sendOn_0 : decode prog_2_method_4_code 0 = .ok (.aload_n 0, 1) := by decide +kernel
theorem d_Co_sendOn_1 : decode prog_2_method_4_code 1 = .ok (.getfield 21, 3) := by decide +kernel
theorem d_Co_sendOn_4 : decode prog_2_method_4_code 4 = .ok (.iload_n 1, 1) := by decide +kernel
theorem d_Co_sendOn_5 : decode prog_2_method_4_code 5 = .ok (.aaload, 1) := by decide +kernel
theorem d_Co_sendOn_6 : decode prog_2_method_4_code 6 = .ok (.astore_n 2, 1) := by decide +kernel
theorem d_Co_sendOn_7 : decode prog_2_method_4_code 7 = .ok (.aload_n 0, 1) := by decide +kernel
theorem d_Co_sendOn_8 : decode prog_2_method_4_code 8 = .ok (.aload_n 2, 1) := by decide +kernel
theorem d_Co_sendOn_9 : decode prog_2_method_4_code 9 = .ok (.getfield 38, 3) := by decide +kernel
theorem d_Co_sendOn_12 : decode prog_2_method_4_code 12 = .ok (.putfield 15, 3) := by decide +kernel
theorem d_Co_sendOn_15 : decode prog_2_method_4_code 15 = .ok (.aload_n 0, 1) := by decide +kernel
theorem d_Co_sendOn_16 : decode prog_2_method_4_code 16 = .ok (.iconst 1, 1) := by decide +kernel
theorem d_Co_sendOn_17 : decode prog_2_method_4_code 17 = .ok (.putfield 41, 3) := by decide +kernel
theorem d_Co_sendOn_20 : decode prog_2_method_4_code 20 = .ok (.aload_n 2, 1) := by decide +kernel
theorem d_Co_sendOn_21 : decode prog_2_method_4_code 21 = .ok (.iconst (-1), 1) := by decide +kernel
theorem d_Co_sendOn_22 : decode prog_2_method_4_code 22 = .ok (.putfield 38, 3) := by decide +kernel
theorem d_Co_sendOn_25 : decode prog_2_method_4_code 25 = .ok (.aload_n 2, 1) := by decide +kernel
theorem d_Co_sendOn_26 : decode prog_2_method_4_code 26 = .ok (.iconst 0, 1) := by decide +kernel
theorem d_Co_sendOn_27 : decode prog_2_method_4_code 27 = .ok (.putfield 35, 3) := by decide +kernel
theorem d_Co_sendOn_30 : decode prog_2_method_4_code 30 = .ok (.return_, 1) := by decide +kernel
theorem d_Co_arrive_0 : decode prog_2_method_5_code 0 = .ok (.aload_n 0, 1) := by decide +kernel
theorem d_Co_arrive_1 : decode prog_2_method_5_code 1 = .ok (.iconst 0, 1) := by decide +kernel
theorem d_Co_arrive_2 : decode prog_2_method_5_code 2 = .ok (.putfield 41, 3) := by decide +kernel
theorem d_Co_arrive_5 : decode prog_2_method_5_code 5 = .ok (.aload_n 0, 1) := by decide +kernel
theorem d_Co_arrive_6 : decode prog_2_method_5_code 6 = .ok (.getfield 21, 3) := by decide +kernel
theorem d_Co_arrive_9 : decode prog_2_method_5_code 9 = .ok (.aload_n 0, 1) := by decide +kernel
theorem d_Co_arrive_10 : decode prog_2_method_5_code 10 = .ok (.getfield 15, 3) := by decide +kernel
theorem d_Co_arrive_13 : decode prog_2_method_5_code 13 = .ok (.aaload, 1) := by decide +kernel
theorem d_Co_arrive_14 : decode prog_2_method_5_code 14 = .ok (.iconst 2, 1) := by decide +kernel
theorem d_Co_arrive_15 : decode prog_2_method_5_code 15 = .ok (.putfield 35, 3) := by decide +kernel
theorem d_Co_arrive_18 : decode prog_2_method_5_code 18 = .ok (.aload_n 0, 1) := by decide +kernel
theorem d_Co_arrive_19 : decode prog_2_method_5_code 19 = .ok (.getfield 15, 3) := by decide +kernel
theorem d_Co_arrive_22 : decode prog_2_method_5_code 22 = .ok (.ireturn, 1) := by decide +kernel
theorem d_Co_recordLoan_0 : decode prog_2_method_6_code 0 = .ok (.aload_n 0, 1) := by decide +kernel
theorem d_Co_recordLoan_1 : decode prog_2_method_6_code 1 = .ok (.getfield 45, 3) := by decide +kernel
theorem d_Co_recordLoan_4 : decode prog_2_method_6_code 4 = .ok (.sipush 200, 3) := by decide +kernel
theorem d_Co_recordLoan_7 : decode prog_2_method_6_code 7 = .ok (.if_icmp .ge (23), 3) := by decide +kernel
theorem d_Co_recordLoan_10 : decode prog_2_method_6_code 10 = .ok (.aload_n 0, 1) := by decide +kernel
theorem d_Co_recordLoan_11 : decode prog_2_method_6_code 11 = .ok (.getfield 11, 3) := by decide +kernel
theorem d_Co_recordLoan_14 : decode prog_2_method_6_code 14 = .ok (.aload_n 0, 1) := by decide +kernel
theorem d_Co_recordLoan_15 : decode prog_2_method_6_code 15 = .ok (.getfield 45, 3) := by decide +kernel
theorem d_Co_recordLoan_18 : decode prog_2_method_6_code 18 = .ok (.iload_n 1, 1) := by decide +kernel
theorem d_Co_recordLoan_19 : decode prog_2_method_6_code 19 = .ok (.iastore, 1) := by decide +kernel
theorem d_Co_recordLoan_20 : decode prog_2_method_6_code 20 = .ok (.aload_n 0, 1) := by decide +kernel
theorem d_Co_recordLoan_21 : decode prog_2_method_6_code 21 = .ok (.dup, 1) := by decide +kernel
theorem d_Co_recordLoan_22 : decode prog_2_method_6_code 22 = .ok (.getfield 45, 3) := by decide +kernel
theorem d_Co_recordLoan_25 : decode prog_2_method_6_code 25 = .ok (.iconst 1, 1) := by decide +kernel
theorem d_Co_recordLoan_26 : decode prog_2_method_6_code 26 = .ok (.iadd, 1) := by decide +kernel
theorem d_Co_recordLoan_27 : decode prog_2_method_6_code 27 = .ok (.putfield 45, 3) := by decide +kernel
theorem d_Co_recordLoan_30 : decode prog_2_method_6_code 30 = .ok (.return_, 1) := by decide +kernel
theorem d_Co_loanAt_0 : decode prog_2_method_7_code 0 = .ok (.iload_n 1, 1) := by decide +kernel
theorem d_Co_loanAt_1 : decode prog_2_method_7_code 1 = .ok (.ifCond .lt (20), 3) := by decide +kernel
theorem d_Co_loanAt_4 : decode prog_2_method_7_code 4 = .ok (.iload_n 1, 1) := by decide +kernel
theorem d_Co_loanAt_5 : decode prog_2_method_7_code 5 = .ok (.aload_n 0, 1) := by decide +kernel
theorem d_Co_loanAt_6 : decode prog_2_method_7_code 6 = .ok (.getfield 45, 3) := by decide +kernel
theorem d_Co_loanAt_9 : decode prog_2_method_7_code 9 = .ok (.if_icmp .ge (12), 3) := by decide +kernel
theorem d_Co_loanAt_12 : decode prog_2_method_7_code 12 = .ok (.aload_n 0, 1) := by decide +kernel
theorem d_Co_loanAt_13 : decode prog_2_method_7_code 13 = .ok (.getfield 11, 3) := by decide +kernel
theorem d_Co_loanAt_16 : decode prog_2_method_7_code 16 = .ok (.iload_n 1, 1) := by decide +kernel
theorem d_Co_loanAt_17 : decode prog_2_method_7_code 17 = .ok (.iaload, 1) := by decide +kernel
theorem d_Co_loanAt_18 : decode prog_2_method_7_code 18 = .ok (.goto (4), 3) := by decide +kernel
theorem d_Co_loanAt_21 : decode prog_2_method_7_code 21 = .ok (.iconst (-1), 1) := by decide +kernel
theorem d_Co_loanAt_22 : decode prog_2_method_7_code 22 = .ok (.ireturn, 1) := by decide +kernel
theorem d_Co_chainMember_0 : decode prog_2_method_8_code 0 = .ok (.iload_n 1, 1) := by decide +kernel
theorem d_Co_chainMember_1 : decode prog_2_method_8_code 1 = .ok (.ifCond .ge (5), 3) := by decide +kernel
theorem d_Co_chainMember_4 : decode prog_2_method_8_code 4 = .ok (.iconst (-1), 1) := by decide +kernel
theorem d_Co_chainMember_5 : decode prog_2_method_8_code 5 = .ok (.ireturn, 1) := by decide +kernel
theorem d_Co_chainMember_6 : decode prog_2_method_8_code 6 = .ok (.aload_n 0, 1) := by decide +kernel
theorem d_Co_chainMember_7 : decode prog_2_method_8_code 7 = .ok (.getfield 15, 3) := by decide +kernel
theorem d_Co_chainMember_10 : decode prog_2_method_8_code 10 = .ok (.istore_n 2, 1) := by decide +kernel
theorem d_Co_chainMember_11 : decode prog_2_method_8_code 11 = .ok (.iconst 0, 1) := by decide +kernel
theorem d_Co_chainMember_12 : decode prog_2_method_8_code 12 = .ok (.istore_n 3, 1) := by decide +kernel
theorem d_Co_chainMember_13 : decode prog_2_method_8_code 13 = .ok (.iload_n 3, 1) := by decide +kernel
theorem d_Co_chainMember_14 : decode prog_2_method_8_code 14 = .ok (.iload_n 1, 1) := by decide +kernel
theorem d_Co_chainMember_15 : decode prog_2_method_8_code 15 = .ok (.if_icmp .ge (33), 3) := by decide +kernel
theorem d_Co_chainMember_18 : decode prog_2_method_8_code 18 = .ok (.iload_n 3, 1) := by decide +kernel
theorem d_Co_chainMember_19 : decode prog_2_method_8_code 19 = .ok (.aload_n 0, 1) := by decide +kernel
theorem d_Co_chainMember_20 : decode prog_2_method_8_code 20 = .ok (.getfield 21, 3) := by decide +kernel
theorem d_Co_chainMember_23 : decode prog_2_method_8_code 23 = .ok (.arraylength, 1) := by decide +kernel
theorem d_Co_chainMember_24 : decode prog_2_method_8_code 24 = .ok (.if_icmp .ge (24), 3) := by decide +kernel
theorem d_Co_chainMember_27 : decode prog_2_method_8_code 27 = .ok (.iload_n 2, 1) := by decide +kernel
theorem d_Co_chainMember_28 : decode prog_2_method_8_code 28 = .ok (.iconst (-1), 1) := by decide +kernel
theorem d_Co_chainMember_29 : decode prog_2_method_8_code 29 = .ok (.if_icmp .eq (19), 3) := by decide +kernel
theorem d_Co_chainMember_32 : decode prog_2_method_8_code 32 = .ok (.aload_n 0, 1) := by decide +kernel
theorem d_Co_chainMember_33 : decode prog_2_method_8_code 33 = .ok (.getfield 21, 3) := by decide +kernel
theorem d_Co_chainMember_36 : decode prog_2_method_8_code 36 = .ok (.iload_n 2, 1) := by decide +kernel
theorem d_Co_chainMember_37 : decode prog_2_method_8_code 37 = .ok (.aaload, 1) := by decide +kernel
theorem d_Co_chainMember_38 : decode prog_2_method_8_code 38 = .ok (.getfield 38, 3) := by decide +kernel
theorem d_Co_chainMember_41 : decode prog_2_method_8_code 41 = .ok (.istore_n 2, 1) := by decide +kernel
theorem d_Co_chainMember_42 : decode prog_2_method_8_code 42 = .ok (.iinc 3 1, 3) := by decide +kernel
theorem d_Co_chainMember_45 : decode prog_2_method_8_code 45 = .ok (.goto (-32), 3) := by decide +kernel
theorem d_Co_chainMember_48 : decode prog_2_method_8_code 48 = .ok (.iload_n 2, 1) := by decide +kernel
theorem d_Co_chainMember_49 : decode prog_2_method_8_code 49 = .ok (.ireturn, 1) := by decide +kernel
theorem d_Co_chainEnd_0 : decode prog_2_method_9_code 0 = .ok (.aload_n 0, 1) := by decide +kernel
theorem d_Co_chainEnd_1 : decode prog_2_method_9_code 1 = .ok (.getfield 15, 3) := by decide +kernel
theorem d_Co_chainEnd_4 : decode prog_2_method_9_code 4 = .ok (.istore_n 1, 1) := by decide +kernel
theorem d_Co_chainEnd_5 : decode prog_2_method_9_code 5 = .ok (.iconst 0, 1) := by decide +kernel
theorem d_Co_chainEnd_6 : decode prog_2_method_9_code 6 = .ok (.istore_n 2, 1) := by decide +kernel
theorem d_Co_chainEnd_7 : decode prog_2_method_9_code 7 = .ok (.iload_n 2, 1) := by decide +kernel
theorem d_Co_chainEnd_8 : decode prog_2_method_9_code 8 = .ok (.aload_n 0, 1) := by decide +kernel
theorem d_Co_chainEnd_9 : decode prog_2_method_9_code 9 = .ok (.getfield 21, 3) := by decide +kernel
theorem d_Co_chainEnd_12 : decode prog_2_method_9_code 12 = .ok (.arraylength, 1) := by decide +kernel
theorem d_Co_chainEnd_13 : decode prog_2_method_9_code 13 = .ok (.if_icmp .ge (32), 3) := by decide +kernel
theorem d_Co_chainEnd_16 : decode prog_2_method_9_code 16 = .ok (.aload_n 0, 1) := by decide +kernel
theorem d_Co_chainEnd_17 : decode prog_2_method_9_code 17 = .ok (.getfield 21, 3) := by decide +kernel
theorem d_Co_chainEnd_20 : decode prog_2_method_9_code 20 = .ok (.iload_n 1, 1) := by decide +kernel
theorem d_Co_chainEnd_21 : decode prog_2_method_9_code 21 = .ok (.aaload, 1) := by decide +kernel
theorem d_Co_chainEnd_22 : decode prog_2_method_9_code 22 = .ok (.getfield 38, 3) := by decide +kernel
theorem d_Co_chainEnd_25 : decode prog_2_method_9_code 25 = .ok (.iconst (-1), 1) := by decide +kernel
theorem d_Co_chainEnd_26 : decode prog_2_method_9_code 26 = .ok (.if_icmp .eq (19), 3) := by decide +kernel
theorem d_Co_chainEnd_29 : decode prog_2_method_9_code 29 = .ok (.aload_n 0, 1) := by decide +kernel
theorem d_Co_chainEnd_30 : decode prog_2_method_9_code 30 = .ok (.getfield 21, 3) := by decide +kernel
theorem d_Co_chainEnd_33 : decode prog_2_method_9_code 33 = .ok (.iload_n 1, 1) := by decide +kernel
theorem d_Co_chainEnd_34 : decode prog_2_method_9_code 34 = .ok (.aaload, 1) := by decide +kernel
theorem d_Co_chainEnd_35 : decode prog_2_method_9_code 35 = .ok (.getfield 38, 3) := by decide +kernel
theorem d_Co_chainEnd_38 : decode prog_2_method_9_code 38 = .ok (.istore_n 1, 1) := by decide +kernel
theorem d_Co_chainEnd_39 : decode prog_2_method_9_code 39 = .ok (.iinc 2 1, 3) := by decide +kernel
theorem d_Co_chainEnd_42 : decode prog_2_method_9_code 42 = .ok (.goto (-35), 3) := by decide +kernel
theorem d_Co_chainEnd_45 : decode prog_2_method_9_code 45 = .ok (.iload_n 1, 1) := by decide +kernel
theorem d_Co_chainEnd_46 : decode prog_2_method_9_code 46 = .ok (.ireturn, 1) := by decide +kernel
theorem d_Co_arrowsEnd_0 : decode prog_2_method_10_code 0 = .ok (.iload_n 1, 1) := by decide +kernel
theorem d_Co_arrowsEnd_1 : decode prog_2_method_10_code 1 = .ok (.istore_n 2, 1) := by decide +kernel
theorem d_Co_arrowsEnd_2 : decode prog_2_method_10_code 2 = .ok (.iconst 0, 1) := by decide +kernel
theorem d_Co_arrowsEnd_3 : decode prog_2_method_10_code 3 = .ok (.istore_n 3, 1) := by decide +kernel
theorem d_Co_arrowsEnd_4 : decode prog_2_method_10_code 4 = .ok (.iload_n 3, 1) := by decide +kernel
theorem d_Co_arrowsEnd_5 : decode prog_2_method_10_code 5 = .ok (.aload_n 0, 1) := by decide +kernel
theorem d_Co_arrowsEnd_6 : decode prog_2_method_10_code 6 = .ok (.getfield 21, 3) := by decide +kernel
theorem d_Co_arrowsEnd_9 : decode prog_2_method_10_code 9 = .ok (.arraylength, 1) := by decide +kernel
theorem d_Co_arrowsEnd_10 : decode prog_2_method_10_code 10 = .ok (.if_icmp .ge (32), 3) := by decide +kernel
theorem d_Co_arrowsEnd_13 : decode prog_2_method_10_code 13 = .ok (.aload_n 0, 1) := by decide +kernel
theorem d_Co_arrowsEnd_14 : decode prog_2_method_10_code 14 = .ok (.getfield 21, 3) := by decide +kernel
theorem d_Co_arrowsEnd_17 : decode prog_2_method_10_code 17 = .ok (.iload_n 2, 1) := by decide +kernel
theorem d_Co_arrowsEnd_18 : decode prog_2_method_10_code 18 = .ok (.aaload, 1) := by decide +kernel
theorem d_Co_arrowsEnd_19 : decode prog_2_method_10_code 19 = .ok (.getfield 32, 3) := by decide +kernel
theorem d_Co_arrowsEnd_22 : decode prog_2_method_10_code 22 = .ok (.iload_n 2, 1) := by decide +kernel
theorem d_Co_arrowsEnd_23 : decode prog_2_method_10_code 23 = .ok (.if_icmp .eq (19), 3) := by decide +kernel
theorem d_Co_arrowsEnd_26 : decode prog_2_method_10_code 26 = .ok (.aload_n 0, 1) := by decide +kernel
theorem d_Co_arrowsEnd_27 : decode prog_2_method_10_code 27 = .ok (.getfield 21, 3) := by decide +kernel
theorem d_Co_arrowsEnd_30 : decode prog_2_method_10_code 30 = .ok (.iload_n 2, 1) := by decide +kernel
theorem d_Co_arrowsEnd_31 : decode prog_2_method_10_code 31 = .ok (.aaload, 1) := by decide +kernel
theorem d_Co_arrowsEnd_32 : decode prog_2_method_10_code 32 = .ok (.getfield 32, 3) := by decide +kernel
theorem d_Co_arrowsEnd_35 : decode prog_2_method_10_code 35 = .ok (.istore_n 2, 1) := by decide +kernel
theorem d_Co_arrowsEnd_36 : decode prog_2_method_10_code 36 = .ok (.iinc 3 1, 3) := by decide +kernel
theorem d_Co_arrowsEnd_39 : decode prog_2_method_10_code 39 = .ok (.goto (-35), 3) := by decide +kernel
theorem d_Co_arrowsEnd_42 : decode prog_2_method_10_code 42 = .ok (.iload_n 2, 1) := by decide +kernel
theorem d_Co_arrowsEnd_43 : decode prog_2_method_10_code 43 = .ok (.ireturn, 1) := by decide +kernel
theorem d_Ma_lineBetween_0 : decode prog_5_method_2_code 0 = .ok (.aload_n 0, 1) := by decide +kernel
theorem d_Ma_lineBetween_1 : decode prog_5_method_2_code 1 = .ok (.getfield 13, 3) := by decide +kernel
theorem d_Ma_lineBetween_4 : decode prog_5_method_2_code 4 = .ok (.iload_n 2, 1) := by decide +kernel
theorem d_Ma_lineBetween_5 : decode prog_5_method_2_code 5 = .ok (.iload_n 1, 1) := by decide +kernel
theorem d_Ma_lineBetween_6 : decode prog_5_method_2_code 6 = .ok (.invokevirtual 28, 3) := by decide +kernel
theorem d_Ma_lineBetween_9 : decode prog_5_method_2_code 9 = .ok (.ifCond .eq (14), 3) := by decide +kernel
theorem d_Ma_lineBetween_12 : decode prog_5_method_2_code 12 = .ok (.aload_n 0, 1) := by decide +kernel
theorem d_Ma_lineBetween_13 : decode prog_5_method_2_code 13 = .ok (.getfield 23, 3) := by decide +kernel
theorem d_Ma_lineBetween_16 : decode prog_5_method_2_code 16 = .ok (.iconst 2, 1) := by decide +kernel
theorem d_Ma_lineBetween_17 : decode prog_5_method_2_code 17 = .ok (.iload_n 1, 1) := by decide +kernel
theorem d_Ma_lineBetween_18 : decode prog_5_method_2_code 18 = .ok (.imul, 1) := by decide +kernel
theorem d_Ma_lineBetween_19 : decode prog_5_method_2_code 19 = .ok (.aaload, 1) := by decide +kernel
theorem d_Ma_lineBetween_20 : decode prog_5_method_2_code 20 = .ok (.goto (13), 3) := by decide +kernel
theorem d_Ma_lineBetween_23 : decode prog_5_method_2_code 23 = .ok (.aload_n 0, 1) := by decide +kernel
theorem d_Ma_lineBetween_24 : decode prog_5_method_2_code 24 = .ok (.getfield 23, 3) := by decide +kernel
theorem d_Ma_lineBetween_27 : decode prog_5_method_2_code 27 = .ok (.iconst 2, 1) := by decide +kernel
theorem d_Ma_lineBetween_28 : decode prog_5_method_2_code 28 = .ok (.iload_n 2, 1) := by decide +kernel
theorem d_Ma_lineBetween_29 : decode prog_5_method_2_code 29 = .ok (.imul, 1) := by decide +kernel
theorem d_Ma_lineBetween_30 : decode prog_5_method_2_code 30 = .ok (.iconst 1, 1) := by decide +kernel
theorem d_Ma_lineBetween_31 : decode prog_5_method_2_code 31 = .ok (.iadd, 1) := by decide +kernel
theorem d_Ma_lineBetween_32 : decode prog_5_method_2_code 32 = .ok (.aaload, 1) := by decide +kernel
theorem d_Ma_lineBetween_33 : decode prog_5_method_2_code 33 = .ok (.areturn, 1) := by decide +kernel
theorem d_Ma_postFirst_0 : decode prog_5_method_8_code 0 = .ok (.aload_n 0, 1) := by decide +kernel
theorem d_Ma_postFirst_1 : decode prog_5_method_8_code 1 = .ok (.getfield 17, 3) := by decide +kernel
theorem d_Ma_postFirst_4 : decode prog_5_method_8_code 4 = .ok (.iconst 0, 1) := by decide +kernel
theorem d_Ma_postFirst_5 : decode prog_5_method_8_code 5 = .ok (.iload_n 2, 1) := by decide +kernel
theorem d_Ma_postFirst_6 : decode prog_5_method_8_code 6 = .ok (.iload_n 3, 1) := by decide +kernel
theorem d_Ma_postFirst_7 : decode prog_5_method_8_code 7 = .ok (.aload_n 1, 1) := by decide +kernel
theorem d_Ma_postFirst_8 : decode prog_5_method_8_code 8 = .ok (.getfield 62, 3) := by decide +kernel
theorem d_Ma_postFirst_11 : decode prog_5_method_8_code 11 = .ok (.aload_n 1, 1) := by decide +kernel
theorem d_Ma_postFirst_12 : decode prog_5_method_8_code 12 = .ok (.invokevirtual 65, 3) := by decide +kernel
theorem d_Ma_postFirst_15 : decode prog_5_method_8_code 15 = .ok (.aload_n 1, 1) := by decide +kernel
theorem d_Ma_postFirst_16 : decode prog_5_method_8_code 16 = .ok (.invokevirtual 69, 3) := by decide +kernel
theorem d_Ma_postFirst_19 : decode prog_5_method_8_code 19 = .ok (.invokevirtual 72, 3) := by decide +kernel
theorem d_Ma_postFirst_22 : decode prog_5_method_8_code 22 = .ok (.return_, 1) := by decide +kernel
theorem d_Ma_sendLetter_0 : decode prog_5_method_3_code 0 = .ok (.aload_n 0, 1) := by decide +kernel
theorem d_Ma_sendLetter_1 : decode prog_5_method_3_code 1 = .ok (.iload_n 1, 1) := by decide +kernel
theorem d_Ma_sendLetter_2 : decode prog_5_method_3_code 2 = .ok (.iload_n 2, 1) := by decide +kernel
theorem d_Ma_sendLetter_3 : decode prog_5_method_3_code 3 = .ok (.invokevirtual 34, 3) := by decide +kernel
theorem d_Ma_sendLetter_6 : decode prog_5_method_3_code 6 = .ok (.astore 5, 2) := by decide +kernel
theorem d_Ma_sendLetter_8 : decode prog_5_method_3_code 8 = .ok (.aload 5, 2) := by decide +kernel
theorem d_Ma_sendLetter_10 : decode prog_5_method_3_code 10 = .ok (.invokevirtual 38, 3) := by decide +kernel
theorem d_Ma_sendLetter_13 : decode prog_5_method_3_code 13 = .ok (.istore 6, 2) := by decide +kernel
theorem d_Ma_sendLetter_15 : decode prog_5_method_3_code 15 = .ok (.aload 5, 2) := by decide +kernel
theorem d_Ma_sendLetter_17 : decode prog_5_method_3_code 17 = .ok (.iload_n 3, 1) := by decide +kernel
theorem d_Ma_sendLetter_18 : decode prog_5_method_3_code 18 = .ok (.iload 4, 2) := by decide +kernel
theorem d_Ma_sendLetter_20 : decode prog_5_method_3_code 20 = .ok (.invokevirtual 42, 3) := by decide +kernel
theorem d_Ma_sendLetter_23 : decode prog_5_method_3_code 23 = .ok (.iload 6, 2) := by decide +kernel
theorem d_Ma_sendLetter_25 : decode prog_5_method_3_code 25 = .ok (.ifCond .eq (11), 3) := by decide +kernel
theorem d_Ma_sendLetter_28 : decode prog_5_method_3_code 28 = .ok (.aload_n 0, 1) := by decide +kernel
theorem d_Ma_sendLetter_29 : decode prog_5_method_3_code 29 = .ok (.aload 5, 2) := by decide +kernel
theorem d_Ma_sendLetter_31 : decode prog_5_method_3_code 31 = .ok (.iload_n 1, 1) := by decide +kernel
theorem d_Ma_sendLetter_32 : decode prog_5_method_3_code 32 = .ok (.iload_n 2, 1) := by decide +kernel
theorem d_Ma_sendLetter_33 : decode prog_5_method_3_code 33 = .ok (.invokevirtual 46, 3) := by decide +kernel
theorem d_Ma_sendLetter_36 : decode prog_5_method_3_code 36 = .ok (.return_, 1) := by decide +kernel
theorem d_Ma_repeatFirstLetters_0 : decode prog_5_method_4_code 0 = .ok (.iconst 0, 1) := by decide +kernel
theorem d_Ma_repeatFirstLetters_1 : decode prog_5_method_4_code 1 = .ok (.istore_n 2, 1) := by decide +kernel
theorem d_Ma_repeatFirstLetters_2 : decode prog_5_method_4_code 2 = .ok (.iconst 0, 1) := by decide +kernel
theorem d_Ma_repeatFirstLetters_3 : decode prog_5_method_4_code 3 = .ok (.istore_n 3, 1) := by decide +kernel
theorem d_Ma_repeatFirstLetters_4 : decode prog_5_method_4_code 4 = .ok (.iload_n 3, 1) := by decide +kernel
theorem d_Ma_repeatFirstLetters_5 : decode prog_5_method_4_code 5 = .ok (.aload_n 0, 1) := by decide +kernel
theorem d_Ma_repeatFirstLetters_6 : decode prog_5_method_4_code 6 = .ok (.getfield 7, 3) := by decide +kernel
theorem d_Ma_repeatFirstLetters_9 : decode prog_5_method_4_code 9 = .ok (.if_icmp .ge (48), 3) := by decide +kernel
theorem d_Ma_repeatFirstLetters_12 : decode prog_5_method_4_code 12 = .ok (.aload_n 0, 1) := by decide +kernel
theorem d_Ma_repeatFirstLetters_13 : decode prog_5_method_4_code 13 = .ok (.getfield 13, 3) := by decide +kernel
theorem d_Ma_repeatFirstLetters_16 : decode prog_5_method_4_code 16 = .ok (.iload_n 1, 1) := by decide +kernel
theorem d_Ma_repeatFirstLetters_17 : decode prog_5_method_4_code 17 = .ok (.iload_n 3, 1) := by decide +kernel
theorem d_Ma_repeatFirstLetters_18 : decode prog_5_method_4_code 18 = .ok (.invokevirtual 50, 3) := by decide +kernel
theorem d_Ma_repeatFirstLetters_21 : decode prog_5_method_4_code 21 = .ok (.ifCond .eq (30), 3) := by decide +kernel
theorem d_Ma_repeatFirstLetters_24 : decode prog_5_method_4_code 24 = .ok (.aload_n 0, 1) := by decide +kernel
theorem d_Ma_repeatFirstLetters_25 : decode prog_5_method_4_code 25 = .ok (.iload_n 1, 1) := by decide +kernel
theorem d_Ma_repeatFirstLetters_26 : decode prog_5_method_4_code 26 = .ok (.iload_n 3, 1) := by decide +kernel
theorem d_Ma_repeatFirstLetters_27 : decode prog_5_method_4_code 27 = .ok (.invokevirtual 34, 3) := by decide +kernel
theorem d_Ma_repeatFirstLetters_30 : decode prog_5_method_4_code 30 = .ok (.invokevirtual 38, 3) := by decide +kernel
theorem d_Ma_repeatFirstLetters_33 : decode prog_5_method_4_code 33 = .ok (.ifCond .ne (18), 3) := by decide +kernel
theorem d_Ma_repeatFirstLetters_36 : decode prog_5_method_4_code 36 = .ok (.aload_n 0, 1) := by decide +kernel
theorem d_Ma_repeatFirstLetters_37 : decode prog_5_method_4_code 37 = .ok (.aload_n 0, 1) := by decide +kernel
theorem d_Ma_repeatFirstLetters_38 : decode prog_5_method_4_code 38 = .ok (.iload_n 1, 1) := by decide +kernel
theorem d_Ma_repeatFirstLetters_39 : decode prog_5_method_4_code 39 = .ok (.iload_n 3, 1) := by decide +kernel
theorem d_Ma_repeatFirstLetters_40 : decode prog_5_method_4_code 40 = .ok (.invokevirtual 34, 3) := by decide +kernel
theorem d_Ma_repeatFirstLetters_43 : decode prog_5_method_4_code 43 = .ok (.iload_n 1, 1) := by decide +kernel
theorem d_Ma_repeatFirstLetters_44 : decode prog_5_method_4_code 44 = .ok (.iload_n 3, 1) := by decide +kernel
theorem d_Ma_repeatFirstLetters_45 : decode prog_5_method_4_code 45 = .ok (.invokevirtual 46, 3) := by decide +kernel
theorem d_Ma_repeatFirstLetters_48 : decode prog_5_method_4_code 48 = .ok (.iinc 2 1, 3) := by decide +kernel
theorem d_Ma_repeatFirstLetters_51 : decode prog_5_method_4_code 51 = .ok (.iinc 3 1, 3) := by decide +kernel
theorem d_Ma_repeatFirstLetters_54 : decode prog_5_method_4_code 54 = .ok (.goto (-50), 3) := by decide +kernel
theorem d_Ma_repeatFirstLetters_57 : decode prog_5_method_4_code 57 = .ok (.iload_n 2, 1) := by decide +kernel
theorem d_Ma_repeatFirstLetters_58 : decode prog_5_method_4_code 58 = .ok (.ireturn, 1) := by decide +kernel
theorem d_Ma_takesNext_0 : decode prog_5_method_5_code 0 = .ok (.aload_n 0, 1) := by decide +kernel
theorem d_Ma_takesNext_1 : decode prog_5_method_5_code 1 = .ok (.iload_n 1, 1) := by decide +kernel
theorem d_Ma_takesNext_2 : decode prog_5_method_5_code 2 = .ok (.iload_n 2, 1) := by decide +kernel
theorem d_Ma_takesNext_3 : decode prog_5_method_5_code 3 = .ok (.invokevirtual 34, 3) := by decide +kernel
theorem d_Ma_takesNext_6 : decode prog_5_method_5_code 6 = .ok (.iload_n 3, 1) := by decide +kernel
theorem d_Ma_takesNext_7 : decode prog_5_method_5_code 7 = .ok (.invokevirtual 53, 3) := by decide +kernel
theorem d_Ma_takesNext_10 : decode prog_5_method_5_code 10 = .ok (.ireturn, 1) := by decide +kernel
theorem d_Ma_acknowledged_0 : decode prog_5_method_6_code 0 = .ok (.aload_n 0, 1) := by decide +kernel
theorem d_Ma_acknowledged_1 : decode prog_5_method_6_code 1 = .ok (.iload_n 1, 1) := by decide +kernel
theorem d_Ma_acknowledged_2 : decode prog_5_method_6_code 2 = .ok (.iload_n 2, 1) := by decide +kernel
theorem d_Ma_acknowledged_3 : decode prog_5_method_6_code 3 = .ok (.invokevirtual 34, 3) := by decide +kernel
theorem d_Ma_acknowledged_6 : decode prog_5_method_6_code 6 = .ok (.astore 4, 2) := by decide +kernel
theorem d_Ma_acknowledged_8 : decode prog_5_method_6_code 8 = .ok (.aload 4, 2) := by decide +kernel
theorem d_Ma_acknowledged_10 : decode prog_5_method_6_code 10 = .ok (.iload_n 3, 1) := by decide +kernel
theorem d_Ma_acknowledged_11 : decode prog_5_method_6_code 11 = .ok (.invokevirtual 57, 3) := by decide +kernel
theorem d_Ma_acknowledged_14 : decode prog_5_method_6_code 14 = .ok (.ifCond .ne (5), 3) := by decide +kernel
theorem d_Ma_acknowledged_17 : decode prog_5_method_6_code 17 = .ok (.iconst 0, 1) := by decide +kernel
theorem d_Ma_acknowledged_18 : decode prog_5_method_6_code 18 = .ok (.ireturn, 1) := by decide +kernel
theorem d_Ma_acknowledged_19 : decode prog_5_method_6_code 19 = .ok (.aload 4, 2) := by decide +kernel
theorem d_Ma_acknowledged_21 : decode prog_5_method_6_code 21 = .ok (.invokevirtual 38, 3) := by decide +kernel
theorem d_Ma_acknowledged_24 : decode prog_5_method_6_code 24 = .ok (.ifCond .ne (11), 3) := by decide +kernel
theorem d_Ma_acknowledged_27 : decode prog_5_method_6_code 27 = .ok (.aload_n 0, 1) := by decide +kernel
theorem d_Ma_acknowledged_28 : decode prog_5_method_6_code 28 = .ok (.aload 4, 2) := by decide +kernel
theorem d_Ma_acknowledged_30 : decode prog_5_method_6_code 30 = .ok (.iload_n 1, 1) := by decide +kernel
theorem d_Ma_acknowledged_31 : decode prog_5_method_6_code 31 = .ok (.iload_n 2, 1) := by decide +kernel
theorem d_Ma_acknowledged_32 : decode prog_5_method_6_code 32 = .ok (.invokevirtual 46, 3) := by decide +kernel
theorem d_Ma_acknowledged_35 : decode prog_5_method_6_code 35 = .ok (.iconst 1, 1) := by decide +kernel
theorem d_Ma_acknowledged_36 : decode prog_5_method_6_code 36 = .ok (.ireturn, 1) := by decide +kernel
theorem d_Ma_isEmpty_0 : decode prog_5_method_7_code 0 = .ok (.iconst 0, 1) := by decide +kernel
theorem d_Ma_isEmpty_1 : decode prog_5_method_7_code 1 = .ok (.istore_n 1, 1) := by decide +kernel
theorem d_Ma_isEmpty_2 : decode prog_5_method_7_code 2 = .ok (.iload_n 1, 1) := by decide +kernel
theorem d_Ma_isEmpty_3 : decode prog_5_method_7_code 3 = .ok (.aload_n 0, 1) := by decide +kernel
theorem d_Ma_isEmpty_4 : decode prog_5_method_7_code 4 = .ok (.getfield 23, 3) := by decide +kernel
theorem d_Ma_isEmpty_7 : decode prog_5_method_7_code 7 = .ok (.arraylength, 1) := by decide +kernel
theorem d_Ma_isEmpty_8 : decode prog_5_method_7_code 8 = .ok (.if_icmp .ge (23), 3) := by decide +kernel
theorem d_Ma_isEmpty_11 : decode prog_5_method_7_code 11 = .ok (.aload_n 0, 1) := by decide +kernel
theorem d_Ma_isEmpty_12 : decode prog_5_method_7_code 12 = .ok (.getfield 23, 3) := by decide +kernel
theorem d_Ma_isEmpty_15 : decode prog_5_method_7_code 15 = .ok (.iload_n 1, 1) := by decide +kernel
theorem d_Ma_isEmpty_16 : decode prog_5_method_7_code 16 = .ok (.aaload, 1) := by decide +kernel
theorem d_Ma_isEmpty_17 : decode prog_5_method_7_code 17 = .ok (.invokevirtual 38, 3) := by decide +kernel
theorem d_Ma_isEmpty_20 : decode prog_5_method_7_code 20 = .ok (.ifCond .ne (5), 3) := by decide +kernel
theorem d_Ma_isEmpty_23 : decode prog_5_method_7_code 23 = .ok (.iconst 0, 1) := by decide +kernel
theorem d_Ma_isEmpty_24 : decode prog_5_method_7_code 24 = .ok (.ireturn, 1) := by decide +kernel
theorem d_Ma_isEmpty_25 : decode prog_5_method_7_code 25 = .ok (.iinc 1 1, 3) := by decide +kernel
theorem d_Ma_isEmpty_28 : decode prog_5_method_7_code 28 = .ok (.goto (-26), 3) := by decide +kernel
theorem d_Ma_isEmpty_31 : decode prog_5_method_7_code 31 = .ok (.iconst 1, 1) := by decide +kernel
theorem d_Ma_isEmpty_32 : decode prog_5_method_7_code 32 = .ok (.ireturn, 1) := by decide +kernel
theorem d_LA_requireCopy_0 : decode prog_1_method_26_code 0 = .ok (.iload_n 1, 1) := by decide +kernel
theorem d_LA_requireCopy_1 : decode prog_1_method_26_code 1 = .ok (.ifCond .lt (8), 3) := by decide +kernel
theorem d_LA_requireCopy_4 : decode prog_1_method_26_code 4 = .ok (.iload_n 1, 1) := by decide +kernel
theorem d_LA_requireCopy_5 : decode prog_1_method_26_code 5 = .ok (.iconst 3, 1) := by decide +kernel
theorem d_LA_requireCopy_6 : decode prog_1_method_26_code 6 = .ok (.if_icmp .lt (13), 3) := by decide +kernel
theorem d_LA_requireCopy_9 : decode prog_1_method_26_code 9 = .ok (.new 149, 3) := by decide +kernel
theorem d_LA_requireCopy_12 : decode prog_1_method_26_code 12 = .ok (.dup, 1) := by decide +kernel
theorem d_LA_requireCopy_13 : decode prog_1_method_26_code 13 = .ok (.ldc 216, 2) := by decide +kernel
theorem d_LA_requireCopy_15 : decode prog_1_method_26_code 15 = .ok (.invokespecial 153, 3) := by decide +kernel
theorem d_LA_requireCopy_18 : decode prog_1_method_26_code 18 = .ok (.athrow, 1) := by decide +kernel
theorem d_LA_requireCopy_19 : decode prog_1_method_26_code 19 = .ok (.return_, 1) := by decide +kernel
theorem d_LA_requireLibrary_0 : decode prog_1_method_25_code 0 = .ok (.iload_n 1, 1) := by decide +kernel
theorem d_LA_requireLibrary_1 : decode prog_1_method_25_code 1 = .ok (.ifCond .lt (11), 3) := by decide +kernel
theorem d_LA_requireLibrary_4 : decode prog_1_method_25_code 4 = .ok (.iload_n 1, 1) := by decide +kernel
theorem d_LA_requireLibrary_5 : decode prog_1_method_25_code 5 = .ok (.aload_n 0, 1) := by decide +kernel
theorem d_LA_requireLibrary_6 : decode prog_1_method_25_code 6 = .ok (.getfield 9, 3) := by decide +kernel
theorem d_LA_requireLibrary_9 : decode prog_1_method_25_code 9 = .ok (.if_icmp .lt (13), 3) := by decide +kernel
theorem d_LA_requireLibrary_12 : decode prog_1_method_25_code 12 = .ok (.new 149, 3) := by decide +kernel
theorem d_LA_requireLibrary_15 : decode prog_1_method_25_code 15 = .ok (.dup, 1) := by decide +kernel
theorem d_LA_requireLibrary_16 : decode prog_1_method_25_code 16 = .ok (.ldc 214, 2) := by decide +kernel
theorem d_LA_requireLibrary_18 : decode prog_1_method_25_code 18 = .ok (.invokespecial 153, 3) := by decide +kernel
theorem d_LA_requireLibrary_21 : decode prog_1_method_25_code 21 = .ok (.athrow, 1) := by decide +kernel
theorem d_LA_requireLibrary_22 : decode prog_1_method_25_code 22 = .ok (.return_, 1) := by decide +kernel
theorem d_LA_copyAt_0 : decode prog_1_method_2_code 0 = .ok (.aload_n 0, 1) := by decide +kernel
theorem d_LA_copyAt_1 : decode prog_1_method_2_code 1 = .ok (.iload_n 1, 1) := by decide +kernel
theorem d_LA_copyAt_2 : decode prog_1_method_2_code 2 = .ok (.invokevirtual 51, 3) := by decide +kernel
theorem d_LA_copyAt_5 : decode prog_1_method_2_code 5 = .ok (.aload_n 0, 1) := by decide +kernel
theorem d_LA_copyAt_6 : decode prog_1_method_2_code 6 = .ok (.iload_n 2, 1) := by decide +kernel
theorem d_LA_copyAt_7 : decode prog_1_method_2_code 7 = .ok (.invokevirtual 54, 3) := by decide +kernel
theorem d_LA_copyAt_10 : decode prog_1_method_2_code 10 = .ok (.aload_n 0, 1) := by decide +kernel
theorem d_LA_copyAt_11 : decode prog_1_method_2_code 11 = .ok (.getfield 28, 3) := by decide +kernel
theorem d_LA_copyAt_14 : decode prog_1_method_2_code 14 = .ok (.iload_n 1, 1) := by decide +kernel
theorem d_LA_copyAt_15 : decode prog_1_method_2_code 15 = .ok (.aaload, 1) := by decide +kernel
theorem d_LA_copyAt_16 : decode prog_1_method_2_code 16 = .ok (.invokevirtual 57, 3) := by decide +kernel
theorem d_LA_copyAt_19 : decode prog_1_method_2_code 19 = .ok (.ifCond .eq (13), 3) := by decide +kernel
theorem d_LA_copyAt_22 : decode prog_1_method_2_code 22 = .ok (.new 61, 3) := by decide +kernel
theorem d_LA_copyAt_25 : decode prog_1_method_2_code 25 = .ok (.dup, 1) := by decide +kernel
theorem d_LA_copyAt_26 : decode prog_1_method_2_code 26 = .ok (.ldc 63, 2) := by decide +kernel
theorem d_LA_copyAt_28 : decode prog_1_method_2_code 28 = .ok (.invokespecial 65, 3) := by decide +kernel
theorem d_LA_copyAt_31 : decode prog_1_method_2_code 31 = .ok (.athrow, 1) := by decide +kernel
theorem d_LA_copyAt_32 : decode prog_1_method_2_code 32 = .ok (.aload_n 0, 1) := by decide +kernel
theorem d_LA_copyAt_33 : decode prog_1_method_2_code 33 = .ok (.getfield 28, 3) := by decide +kernel
theorem d_LA_copyAt_36 : decode prog_1_method_2_code 36 = .ok (.iload_n 1, 1) := by decide +kernel
theorem d_LA_copyAt_37 : decode prog_1_method_2_code 37 = .ok (.aaload, 1) := by decide +kernel
theorem d_LA_copyAt_38 : decode prog_1_method_2_code 38 = .ok (.iload_n 2, 1) := by decide +kernel
theorem d_LA_copyAt_39 : decode prog_1_method_2_code 39 = .ok (.aload_n 0, 1) := by decide +kernel
theorem d_LA_copyAt_40 : decode prog_1_method_2_code 40 = .ok (.getfield 22, 3) := by decide +kernel
theorem d_LA_copyAt_43 : decode prog_1_method_2_code 43 = .ok (.invokevirtual 68, 3) := by decide +kernel
theorem d_LA_copyAt_46 : decode prog_1_method_2_code 46 = .ok (.return_, 1) := by decide +kernel
theorem d_LA_requirePlaced_0 : decode prog_1_method_28_code 0 = .ok (.aload_n 0, 1) := by decide +kernel
theorem d_LA_requirePlaced_1 : decode prog_1_method_28_code 1 = .ok (.getfield 28, 3) := by decide +kernel
theorem d_LA_requirePlaced_4 : decode prog_1_method_28_code 4 = .ok (.iload_n 1, 1) := by decide +kernel
theorem d_LA_requirePlaced_5 : decode prog_1_method_28_code 5 = .ok (.aaload, 1) := by decide +kernel
theorem d_LA_requirePlaced_6 : decode prog_1_method_28_code 6 = .ok (.invokevirtual 57, 3) := by decide +kernel
theorem d_LA_requirePlaced_9 : decode prog_1_method_28_code 9 = .ok (.ifCond .ne (13), 3) := by decide +kernel
theorem d_LA_requirePlaced_12 : decode prog_1_method_28_code 12 = .ok (.new 61, 3) := by decide +kernel
theorem d_LA_requirePlaced_15 : decode prog_1_method_28_code 15 = .ok (.dup, 1) := by decide +kernel
theorem d_LA_requirePlaced_16 : decode prog_1_method_28_code 16 = .ok (.ldc 220, 2) := by decide +kernel
theorem d_LA_requirePlaced_18 : decode prog_1_method_28_code 18 = .ok (.invokespecial 65, 3) := by decide +kernel
theorem d_LA_requirePlaced_21 : decode prog_1_method_28_code 21 = .ok (.athrow, 1) := by decide +kernel
theorem d_LA_requirePlaced_22 : decode prog_1_method_28_code 22 = .ok (.return_, 1) := by decide +kernel
theorem d_LA_requireUp_0 : decode prog_1_method_29_code 0 = .ok (.aload_n 0, 1) := by decide +kernel
theorem d_LA_requireUp_1 : decode prog_1_method_29_code 1 = .ok (.getfield 13, 3) := by decide +kernel
theorem d_LA_requireUp_4 : decode prog_1_method_29_code 4 = .ok (.iload_n 1, 1) := by decide +kernel
theorem d_LA_requireUp_5 : decode prog_1_method_29_code 5 = .ok (.baload, 1) := by decide +kernel
theorem d_LA_requireUp_6 : decode prog_1_method_29_code 6 = .ok (.ifCond .eq (13), 3) := by decide +kernel
theorem d_LA_requireUp_9 : decode prog_1_method_29_code 9 = .ok (.new 61, 3) := by decide +kernel
theorem d_LA_requireUp_12 : decode prog_1_method_29_code 12 = .ok (.dup, 1) := by decide +kernel
theorem d_LA_requireUp_13 : decode prog_1_method_29_code 13 = .ok (.ldc 222, 2) := by decide +kernel
theorem d_LA_requireUp_15 : decode prog_1_method_29_code 15 = .ok (.invokespecial 65, 3) := by decide +kernel
theorem d_LA_requireUp_18 : decode prog_1_method_29_code 18 = .ok (.athrow, 1) := by decide +kernel
theorem d_LA_requireUp_19 : decode prog_1_method_29_code 19 = .ok (.return_, 1) := by decide +kernel
theorem d_LA_openRequest_0 : decode prog_1_method_22_code 0 = .ok (.aload_n 0, 1) := by decide +kernel
theorem d_LA_openRequest_1 : decode prog_1_method_22_code 1 = .ok (.getfield 28, 3) := by decide +kernel
theorem d_LA_openRequest_4 : decode prog_1_method_22_code 4 = .ok (.iload_n 2, 1) := by decide +kernel
theorem d_LA_openRequest_5 : decode prog_1_method_22_code 5 = .ok (.aaload, 1) := by decide +kernel
theorem d_LA_openRequest_6 : decode prog_1_method_22_code 6 = .ok (.getfield 83, 3) := by decide +kernel
theorem d_LA_openRequest_9 : decode prog_1_method_22_code 9 = .ok (.iload_n 1, 1) := by decide +kernel
theorem d_LA_openRequest_10 : decode prog_1_method_22_code 10 = .ok (.aaload, 1) := by decide +kernel
theorem d_LA_openRequest_11 : decode prog_1_method_22_code 11 = .ok (.astore_n 3, 1) := by decide +kernel
theorem d_LA_openRequest_12 : decode prog_1_method_22_code 12 = .ok (.aload_n 3, 1) := by decide +kernel
theorem d_LA_openRequest_13 : decode prog_1_method_22_code 13 = .ok (.getfield 101, 3) := by decide +kernel
theorem d_LA_openRequest_16 : decode prog_1_method_22_code 16 = .ok (.iconst 4, 1) := by decide +kernel
theorem d_LA_openRequest_17 : decode prog_1_method_22_code 17 = .ok (.if_icmp .ne (9), 3) := by decide +kernel
theorem d_LA_openRequest_20 : decode prog_1_method_22_code 20 = .ok (.aload_n 3, 1) := by decide +kernel
theorem d_LA_openRequest_21 : decode prog_1_method_22_code 21 = .ok (.iconst 2, 1) := by decide +kernel
theorem d_LA_openRequest_22 : decode prog_1_method_22_code 22 = .ok (.putfield 101, 3) := by decide +kernel
theorem d_LA_openRequest_25 : decode prog_1_method_22_code 25 = .ok (.return_, 1) := by decide +kernel
theorem d_LA_openRequest_26 : decode prog_1_method_22_code 26 = .ok (.aload_n 3, 1) := by decide +kernel
theorem d_LA_openRequest_27 : decode prog_1_method_22_code 27 = .ok (.getfield 176, 3) := by decide +kernel
theorem d_LA_openRequest_30 : decode prog_1_method_22_code 30 = .ok (.istore 4, 2) := by decide +kernel
theorem d_LA_openRequest_32 : decode prog_1_method_22_code 32 = .ok (.aload_n 3, 1) := by decide +kernel
theorem d_LA_openRequest_33 : decode prog_1_method_22_code 33 = .ok (.iconst 1, 1) := by decide +kernel
theorem d_LA_openRequest_34 : decode prog_1_method_22_code 34 = .ok (.putfield 101, 3) := by decide +kernel
theorem d_LA_openRequest_37 : decode prog_1_method_22_code 37 = .ok (.aload_n 3, 1) := by decide +kernel
theorem d_LA_openRequest_38 : decode prog_1_method_22_code 38 = .ok (.iload_n 1, 1) := by decide +kernel
theorem d_LA_openRequest_39 : decode prog_1_method_22_code 39 = .ok (.putfield 176, 3) := by decide +kernel
theorem d_LA_openRequest_42 : decode prog_1_method_22_code 42 = .ok (.aload_n 0, 1) := by decide +kernel
theorem d_LA_openRequest_43 : decode prog_1_method_22_code 43 = .ok (.getfield 47, 3) := by decide +kernel
theorem d_LA_openRequest_46 : decode prog_1_method_22_code 46 = .ok (.iload_n 1, 1) := by decide +kernel
theorem d_LA_openRequest_47 : decode prog_1_method_22_code 47 = .ok (.iload 4, 2) := by decide +kernel
theorem d_LA_openRequest_49 : decode prog_1_method_22_code 49 = .ok (.iload_n 2, 1) := by decide +kernel
theorem d_LA_openRequest_50 : decode prog_1_method_22_code 50 = .ok (.iload_n 1, 1) := by decide +kernel
theorem d_LA_openRequest_51 : decode prog_1_method_22_code 51 = .ok (.invokevirtual 200, 3) := by decide +kernel
theorem d_LA_openRequest_54 : decode prog_1_method_22_code 54 = .ok (.return_, 1) := by decide +kernel
theorem d_LA_want_0 : decode prog_1_method_3_code 0 = .ok (.aload_n 0, 1) := by decide +kernel
theorem d_LA_want_1 : decode prog_1_method_3_code 1 = .ok (.iload_n 1, 1) := by decide +kernel
theorem d_LA_want_2 : decode prog_1_method_3_code 2 = .ok (.invokevirtual 54, 3) := by decide +kernel
theorem d_LA_want_5 : decode prog_1_method_3_code 5 = .ok (.aload_n 0, 1) := by decide +kernel
theorem d_LA_want_6 : decode prog_1_method_3_code 6 = .ok (.iload_n 2, 1) := by decide +kernel
theorem d_LA_want_7 : decode prog_1_method_3_code 7 = .ok (.invokevirtual 51, 3) := by decide +kernel
theorem d_LA_want_10 : decode prog_1_method_3_code 10 = .ok (.iload_n 3, 1) := by decide +kernel
theorem d_LA_want_11 : decode prog_1_method_3_code 11 = .ok (.iconst 1, 1) := by decide +kernel
theorem d_LA_want_12 : decode prog_1_method_3_code 12 = .ok (.if_icmp .lt (10), 3) := by decide +kernel
theorem d_LA_want_15 : decode prog_1_method_3_code 15 = .ok (.iload_n 3, 1) := by decide +kernel
theorem d_LA_want_16 : decode prog_1_method_3_code 16 = .ok (.sipush 1000, 3) := by decide +kernel
theorem d_LA_want_19 : decode prog_1_method_3_code 19 = .ok (.if_icmp .le (13), 3) := by decide +kernel
theorem d_LA_want_22 : decode prog_1_method_3_code 22 = .ok (.new 72, 3) := by decide +kernel
theorem d_LA_want_25 : decode prog_1_method_3_code 25 = .ok (.dup, 1) := by decide +kernel
theorem d_LA_want_26 : decode prog_1_method_3_code 26 = .ok (.ldc 74, 2) := by decide +kernel
theorem d_LA_want_28 : decode prog_1_method_3_code 28 = .ok (.invokespecial 76, 3) := by decide +kernel
theorem d_LA_want_31 : decode prog_1_method_3_code 31 = .ok (.athrow, 1) := by decide +kernel
theorem d_LA_want_32 : decode prog_1_method_3_code 32 = .ok (.aload_n 0, 1) := by decide +kernel
theorem d_LA_want_33 : decode prog_1_method_3_code 33 = .ok (.iload_n 2, 1) := by decide +kernel
theorem d_LA_want_34 : decode prog_1_method_3_code 34 = .ok (.invokevirtual 77, 3) := by decide +kernel
theorem d_LA_want_37 : decode prog_1_method_3_code 37 = .ok (.aload_n 0, 1) := by decide +kernel
theorem d_LA_want_38 : decode prog_1_method_3_code 38 = .ok (.iload_n 1, 1) := by decide +kernel
theorem d_LA_want_39 : decode prog_1_method_3_code 39 = .ok (.invokevirtual 80, 3) := by decide +kernel
theorem d_LA_want_42 : decode prog_1_method_3_code 42 = .ok (.aload_n 0, 1) := by decide +kernel
theorem d_LA_want_43 : decode prog_1_method_3_code 43 = .ok (.getfield 28, 3) := by decide +kernel
theorem d_LA_want_46 : decode prog_1_method_3_code 46 = .ok (.iload_n 2, 1) := by decide +kernel
theorem d_LA_want_47 : decode prog_1_method_3_code 47 = .ok (.aaload, 1) := by decide +kernel
theorem d_LA_want_48 : decode prog_1_method_3_code 48 = .ok (.getfield 83, 3) := by decide +kernel
theorem d_LA_want_51 : decode prog_1_method_3_code 51 = .ok (.iload_n 1, 1) := by decide +kernel
theorem d_LA_want_52 : decode prog_1_method_3_code 52 = .ok (.aaload, 1) := by decide +kernel
theorem d_LA_want_53 : decode prog_1_method_3_code 53 = .ok (.astore 4, 2) := by decide +kernel
theorem d_LA_want_55 : decode prog_1_method_3_code 55 = .ok (.aload 4, 2) := by decide +kernel
theorem d_LA_want_57 : decode prog_1_method_3_code 57 = .ok (.invokevirtual 87, 3) := by decide +kernel
theorem d_LA_want_60 : decode prog_1_method_3_code 60 = .ok (.ifCond .ne (12), 3) := by decide +kernel
theorem d_LA_want_63 : decode prog_1_method_3_code 63 = .ok (.aload 4, 2) := by decide +kernel
theorem d_LA_want_65 : decode prog_1_method_3_code 65 = .ok (.iload_n 3, 1) := by decide +kernel
theorem d_LA_want_66 : decode prog_1_method_3_code 66 = .ok (.invokevirtual 92, 3) := by decide +kernel
theorem d_LA_want_69 : decode prog_1_method_3_code 69 = .ok (.ifCond .eq (13), 3) := by decide +kernel
theorem d_LA_want_72 : decode prog_1_method_3_code 72 = .ok (.new 61, 3) := by decide +kernel
theorem d_LA_want_75 : decode prog_1_method_3_code 75 = .ok (.dup, 1) := by decide +kernel
theorem d_LA_want_76 : decode prog_1_method_3_code 76 = .ok (.ldc 96, 2) := by decide +kernel
theorem d_LA_want_78 : decode prog_1_method_3_code 78 = .ok (.invokespecial 65, 3) := by decide +kernel
theorem d_LA_want_81 : decode prog_1_method_3_code 81 = .ok (.athrow, 1) := by decide +kernel
theorem d_LA_want_82 : decode prog_1_method_3_code 82 = .ok (.aload 4, 2) := by decide +kernel
theorem d_LA_want_84 : decode prog_1_method_3_code 84 = .ok (.iload_n 3, 1) := by decide +kernel
theorem d_LA_want_85 : decode prog_1_method_3_code 85 = .ok (.invokevirtual 98, 3) := by decide +kernel
theorem d_LA_want_88 : decode prog_1_method_3_code 88 = .ok (.aload 4, 2) := by decide +kernel
theorem d_LA_want_90 : decode prog_1_method_3_code 90 = .ok (.getfield 101, 3) := by decide +kernel
theorem d_LA_want_93 : decode prog_1_method_3_code 93 = .ok (.ifCond .eq (12), 3) := by decide +kernel
theorem d_LA_want_96 : decode prog_1_method_3_code 96 = .ok (.aload 4, 2) := by decide +kernel
theorem d_LA_want_98 : decode prog_1_method_3_code 98 = .ok (.getfield 101, 3) := by decide +kernel
theorem d_LA_want_101 : decode prog_1_method_3_code 101 = .ok (.iconst 4, 1) := by decide +kernel
theorem d_LA_want_102 : decode prog_1_method_3_code 102 = .ok (.if_icmp .ne (9), 3) := by decide +kernel
theorem d_LA_want_105 : decode prog_1_method_3_code 105 = .ok (.aload_n 0, 1) := by decide +kernel
theorem d_LA_want_106 : decode prog_1_method_3_code 106 = .ok (.iload_n 1, 1) := by decide +kernel
theorem d_LA_want_107 : decode prog_1_method_3_code 107 = .ok (.iload_n 2, 1) := by decide +kernel
theorem d_LA_want_108 : decode prog_1_method_3_code 108 = .ok (.invokevirtual 104, 3) := by decide +kernel
theorem d_LA_want_111 : decode prog_1_method_3_code 111 = .ok (.aload 4, 2) := by decide +kernel
theorem d_LA_want_113 : decode prog_1_method_3_code 113 = .ok (.getfield 101, 3) := by decide +kernel
theorem d_LA_want_116 : decode prog_1_method_3_code 116 = .ok (.ireturn, 1) := by decide +kernel
theorem d_LA_requireState_0 : decode prog_1_method_30_code 0 = .ok (.aload_n 0, 1) := by decide +kernel
theorem d_LA_requireState_1 : decode prog_1_method_30_code 1 = .ok (.getfield 101, 3) := by decide +kernel
theorem d_LA_requireState_4 : decode prog_1_method_30_code 4 = .ok (.iload_n 1, 1) := by decide +kernel
theorem d_LA_requireState_5 : decode prog_1_method_30_code 5 = .ok (.if_icmp .eq (13), 3) := by decide +kernel
theorem d_LA_requireState_8 : decode prog_1_method_30_code 8 = .ok (.new 61, 3) := by decide +kernel
theorem d_LA_requireState_11 : decode prog_1_method_30_code 11 = .ok (.dup, 1) := by decide +kernel
theorem d_LA_requireState_12 : decode prog_1_method_30_code 12 = .ok (.ldc 224, 2) := by decide +kernel
theorem d_LA_requireState_14 : decode prog_1_method_30_code 14 = .ok (.invokespecial 65, 3) := by decide +kernel
theorem d_LA_requireState_17 : decode prog_1_method_30_code 17 = .ok (.athrow, 1) := by decide +kernel
theorem d_LA_requireState_18 : decode prog_1_method_30_code 18 = .ok (.return_, 1) := by decide +kernel
theorem d_LA_lend_0 : decode prog_1_method_4_code 0 = .ok (.aload_n 0, 1) := by decide +kernel
theorem d_LA_lend_1 : decode prog_1_method_4_code 1 = .ok (.iload_n 1, 1) := by decide +kernel
theorem d_LA_lend_2 : decode prog_1_method_4_code 2 = .ok (.invokevirtual 54, 3) := by decide +kernel
theorem d_LA_lend_5 : decode prog_1_method_4_code 5 = .ok (.aload_n 0, 1) := by decide +kernel
theorem d_LA_lend_6 : decode prog_1_method_4_code 6 = .ok (.iload_n 2, 1) := by decide +kernel
theorem d_LA_lend_7 : decode prog_1_method_4_code 7 = .ok (.invokevirtual 51, 3) := by decide +kernel
theorem d_LA_lend_10 : decode prog_1_method_4_code 10 = .ok (.aload_n 0, 1) := by decide +kernel
theorem d_LA_lend_11 : decode prog_1_method_4_code 11 = .ok (.iload_n 1, 1) := by decide +kernel
theorem d_LA_lend_12 : decode prog_1_method_4_code 12 = .ok (.invokevirtual 80, 3) := by decide +kernel
theorem d_LA_lend_15 : decode prog_1_method_4_code 15 = .ok (.aload_n 0, 1) := by decide +kernel
theorem d_LA_lend_16 : decode prog_1_method_4_code 16 = .ok (.getfield 28, 3) := by decide +kernel
theorem d_LA_lend_19 : decode prog_1_method_4_code 19 = .ok (.iload_n 2, 1) := by decide +kernel
theorem d_LA_lend_20 : decode prog_1_method_4_code 20 = .ok (.aaload, 1) := by decide +kernel
theorem d_LA_lend_21 : decode prog_1_method_4_code 21 = .ok (.getfield 83, 3) := by decide +kernel
theorem d_LA_lend_24 : decode prog_1_method_4_code 24 = .ok (.iload_n 1, 1) := by decide +kernel
theorem d_LA_lend_25 : decode prog_1_method_4_code 25 = .ok (.aaload, 1) := by decide +kernel
theorem d_LA_lend_26 : decode prog_1_method_4_code 26 = .ok (.astore_n 3, 1) := by decide +kernel
theorem d_LA_lend_27 : decode prog_1_method_4_code 27 = .ok (.aload_n 3, 1) := by decide +kernel
theorem d_LA_lend_28 : decode prog_1_method_4_code 28 = .ok (.iconst 2, 1) := by decide +kernel
theorem d_LA_lend_29 : decode prog_1_method_4_code 29 = .ok (.invokestatic 107, 3) := by decide +kernel
theorem d_LA_lend_32 : decode prog_1_method_4_code 32 = .ok (.aload_n 3, 1) := by decide +kernel
theorem d_LA_lend_33 : decode prog_1_method_4_code 33 = .ok (.aload_n 3, 1) := by decide +kernel
theorem d_LA_lend_34 : decode prog_1_method_4_code 34 = .ok (.invokevirtual 111, 3) := by decide +kernel
theorem d_LA_lend_37 : decode prog_1_method_4_code 37 = .ok (.putfield 115, 3) := by decide +kernel
theorem d_LA_lend_40 : decode prog_1_method_4_code 40 = .ok (.aload_n 3, 1) := by decide +kernel
theorem d_LA_lend_41 : decode prog_1_method_4_code 41 = .ok (.iconst 3, 1) := by decide +kernel
theorem d_LA_lend_42 : decode prog_1_method_4_code 42 = .ok (.putfield 101, 3) := by decide +kernel
theorem d_LA_lend_45 : decode prog_1_method_4_code 45 = .ok (.aload_n 3, 1) := by decide +kernel
theorem d_LA_lend_46 : decode prog_1_method_4_code 46 = .ok (.getfield 115, 3) := by decide +kernel
theorem d_LA_lend_49 : decode prog_1_method_4_code 49 = .ok (.ireturn, 1) := by decide +kernel
theorem d_LA_giveBack_0 : decode prog_1_method_5_code 0 = .ok (.aload_n 0, 1) := by decide +kernel
theorem d_LA_giveBack_1 : decode prog_1_method_5_code 1 = .ok (.iload_n 1, 1) := by decide +kernel
theorem d_LA_giveBack_2 : decode prog_1_method_5_code 2 = .ok (.invokevirtual 54, 3) := by decide +kernel
theorem d_LA_giveBack_5 : decode prog_1_method_5_code 5 = .ok (.aload_n 0, 1) := by decide +kernel
theorem d_LA_giveBack_6 : decode prog_1_method_5_code 6 = .ok (.iload_n 2, 1) := by decide +kernel
theorem d_LA_giveBack_7 : decode prog_1_method_5_code 7 = .ok (.invokevirtual 51, 3) := by decide +kernel
theorem d_LA_giveBack_10 : decode prog_1_method_5_code 10 = .ok (.aload_n 0, 1) := by decide +kernel
theorem d_LA_giveBack_11 : decode prog_1_method_5_code 11 = .ok (.iload_n 1, 1) := by decide +kernel
theorem d_LA_giveBack_12 : decode prog_1_method_5_code 12 = .ok (.invokevirtual 80, 3) := by decide +kernel
theorem d_LA_giveBack_15 : decode prog_1_method_5_code 15 = .ok (.aload_n 0, 1) := by decide +kernel
theorem d_LA_giveBack_16 : decode prog_1_method_5_code 16 = .ok (.getfield 28, 3) := by decide +kernel
theorem d_LA_giveBack_19 : decode prog_1_method_5_code 19 = .ok (.iload_n 2, 1) := by decide +kernel
theorem d_LA_giveBack_20 : decode prog_1_method_5_code 20 = .ok (.aaload, 1) := by decide +kernel
theorem d_LA_giveBack_21 : decode prog_1_method_5_code 21 = .ok (.getfield 83, 3) := by decide +kernel
theorem d_LA_giveBack_24 : decode prog_1_method_5_code 24 = .ok (.iload_n 1, 1) := by decide +kernel
theorem d_LA_giveBack_25 : decode prog_1_method_5_code 25 = .ok (.aaload, 1) := by decide +kernel
theorem d_LA_giveBack_26 : decode prog_1_method_5_code 26 = .ok (.astore_n 3, 1) := by decide +kernel
theorem d_LA_giveBack_27 : decode prog_1_method_5_code 27 = .ok (.aload_n 3, 1) := by decide +kernel
theorem d_LA_giveBack_28 : decode prog_1_method_5_code 28 = .ok (.iconst 3, 1) := by decide +kernel
theorem d_LA_giveBack_29 : decode prog_1_method_5_code 29 = .ok (.invokestatic 107, 3) := by decide +kernel
theorem d_LA_giveBack_32 : decode prog_1_method_5_code 32 = .ok (.aload_n 3, 1) := by decide +kernel
theorem d_LA_giveBack_33 : decode prog_1_method_5_code 33 = .ok (.iconst 0, 1) := by decide +kernel
theorem d_LA_giveBack_34 : decode prog_1_method_5_code 34 = .ok (.putfield 115, 3) := by decide +kernel
theorem d_LA_giveBack_37 : decode prog_1_method_5_code 37 = .ok (.aload_n 0, 1) := by decide +kernel
theorem d_LA_giveBack_38 : decode prog_1_method_5_code 38 = .ok (.getfield 28, 3) := by decide +kernel
theorem d_LA_giveBack_41 : decode prog_1_method_5_code 41 = .ok (.iload_n 2, 1) := by decide +kernel
theorem d_LA_giveBack_42 : decode prog_1_method_5_code 42 = .ok (.aaload, 1) := by decide +kernel
theorem d_LA_giveBack_43 : decode prog_1_method_5_code 43 = .ok (.iload_n 1, 1) := by decide +kernel
theorem d_LA_giveBack_44 : decode prog_1_method_5_code 44 = .ok (.invokevirtual 118, 3) := by decide +kernel
theorem d_LA_giveBack_47 : decode prog_1_method_5_code 47 = .ok (.aload_n 3, 1) := by decide +kernel
theorem d_LA_giveBack_48 : decode prog_1_method_5_code 48 = .ok (.getfield 121, 3) := by decide +kernel
theorem d_LA_giveBack_51 : decode prog_1_method_5_code 51 = .ok (.iconst (-1), 1) := by decide +kernel
theorem d_LA_giveBack_52 : decode prog_1_method_5_code 52 = .ok (.if_icmp .ne (24), 3) := by decide +kernel
theorem d_LA_giveBack_55 : decode prog_1_method_5_code 55 = .ok (.aload_n 3, 1) := by decide +kernel
theorem d_LA_giveBack_56 : decode prog_1_method_5_code 56 = .ok (.aload_n 3, 1) := by decide +kernel
theorem d_LA_giveBack_57 : decode prog_1_method_5_code 57 = .ok (.getfield 124, 3) := by decide +kernel
theorem d_LA_giveBack_60 : decode prog_1_method_5_code 60 = .ok (.ifCond .ne (7), 3) := by decide +kernel
theorem d_LA_giveBack_63 : decode prog_1_method_5_code 63 = .ok (.iconst 4, 1) := by decide +kernel
theorem d_LA_giveBack_64 : decode prog_1_method_5_code 64 = .ok (.goto (4), 3) := by decide +kernel
theorem d_LA_giveBack_67 : decode prog_1_method_5_code 67 = .ok (.iconst 2, 1) := by decide +kernel
theorem d_LA_giveBack_68 : decode prog_1_method_5_code 68 = .ok (.putfield 101, 3) := by decide +kernel
theorem d_LA_giveBack_71 : decode prog_1_method_5_code 71 = .ok (.aload_n 3, 1) := by decide +kernel
theorem d_LA_giveBack_72 : decode prog_1_method_5_code 72 = .ok (.getfield 101, 3) := by decide +kernel
theorem d_LA_giveBack_75 : decode prog_1_method_5_code 75 = .ok (.ireturn, 1) := by decide +kernel
theorem d_LA_giveBack_76 : decode prog_1_method_5_code 76 = .ok (.aload_n 0, 1) := by decide +kernel
theorem d_LA_giveBack_77 : decode prog_1_method_5_code 77 = .ok (.getfield 28, 3) := by decide +kernel
theorem d_LA_giveBack_80 : decode prog_1_method_5_code 80 = .ok (.iload_n 2, 1) := by decide +kernel
theorem d_LA_giveBack_81 : decode prog_1_method_5_code 81 = .ok (.aaload, 1) := by decide +kernel
theorem d_LA_giveBack_82 : decode prog_1_method_5_code 82 = .ok (.iload_n 1, 1) := by decide +kernel
theorem d_LA_giveBack_83 : decode prog_1_method_5_code 83 = .ok (.invokevirtual 127, 3) := by decide +kernel
theorem d_LA_giveBack_86 : decode prog_1_method_5_code 86 = .ok (.aload_n 3, 1) := by decide +kernel
theorem d_LA_giveBack_87 : decode prog_1_method_5_code 87 = .ok (.getfield 124, 3) := by decide +kernel
theorem d_LA_giveBack_90 : decode prog_1_method_5_code 90 = .ok (.ifCond .le (9), 3) := by decide +kernel
theorem d_LA_giveBack_93 : decode prog_1_method_5_code 93 = .ok (.aload_n 0, 1) := by decide +kernel
theorem d_LA_giveBack_94 : decode prog_1_method_5_code 94 = .ok (.iload_n 1, 1) := by decide +kernel
theorem d_LA_giveBack_95 : decode prog_1_method_5_code 95 = .ok (.iload_n 2, 1) := by decide +kernel
theorem d_LA_giveBack_96 : decode prog_1_method_5_code 96 = .ok (.invokevirtual 104, 3) := by decide +kernel
theorem d_LA_giveBack_99 : decode prog_1_method_5_code 99 = .ok (.aload_n 3, 1) := by decide +kernel
theorem d_LA_giveBack_100 : decode prog_1_method_5_code 100 = .ok (.getfield 101, 3) := by decide +kernel
theorem d_LA_giveBack_103 : decode prog_1_method_5_code 103 = .ok (.ireturn, 1) := by decide +kernel
theorem d_LA_van_0 : decode prog_1_method_6_code 0 = .ok (.aload_n 0, 1) := by decide +kernel
theorem d_LA_van_1 : decode prog_1_method_6_code 1 = .ok (.iload_n 1, 1) := by decide +kernel
theorem d_LA_van_2 : decode prog_1_method_6_code 2 = .ok (.invokevirtual 51, 3) := by decide +kernel
theorem d_LA_van_5 : decode prog_1_method_6_code 5 = .ok (.aload_n 0, 1) := by decide +kernel
theorem d_LA_van_6 : decode prog_1_method_6_code 6 = .ok (.getfield 28, 3) := by decide +kernel
theorem d_LA_van_9 : decode prog_1_method_6_code 9 = .ok (.iload_n 1, 1) := by decide +kernel
theorem d_LA_van_10 : decode prog_1_method_6_code 10 = .ok (.aaload, 1) := by decide +kernel
theorem d_LA_van_11 : decode prog_1_method_6_code 11 = .ok (.getfield 130, 3) := by decide +kernel
theorem d_LA_van_14 : decode prog_1_method_6_code 14 = .ok (.ifCond .ne (13), 3) := by decide +kernel
theorem d_LA_van_17 : decode prog_1_method_6_code 17 = .ok (.new 61, 3) := by decide +kernel
theorem d_LA_van_20 : decode prog_1_method_6_code 20 = .ok (.dup, 1) := by decide +kernel
theorem d_LA_van_21 : decode prog_1_method_6_code 21 = .ok (.ldc 134, 2) := by decide +kernel
theorem d_LA_van_23 : decode prog_1_method_6_code 23 = .ok (.invokespecial 65, 3) := by decide +kernel
theorem d_LA_van_26 : decode prog_1_method_6_code 26 = .ok (.athrow, 1) := by decide +kernel
theorem d_LA_van_27 : decode prog_1_method_6_code 27 = .ok (.aload_n 0, 1) := by decide +kernel
theorem d_LA_van_28 : decode prog_1_method_6_code 28 = .ok (.getfield 28, 3) := by decide +kernel
theorem d_LA_van_31 : decode prog_1_method_6_code 31 = .ok (.iload_n 1, 1) := by decide +kernel
theorem d_LA_van_32 : decode prog_1_method_6_code 32 = .ok (.aaload, 1) := by decide +kernel
theorem d_LA_van_33 : decode prog_1_method_6_code 33 = .ok (.invokevirtual 136, 3) := by decide +kernel
theorem d_LA_van_36 : decode prog_1_method_6_code 36 = .ok (.ireturn, 1) := by decide +kernel
theorem d_LA_sendAll_0 : decode prog_1_method_7_code 0 = .ok (.aload_n 0, 1) := by decide +kernel
theorem d_LA_sendAll_1 : decode prog_1_method_7_code 1 = .ok (.iload_n 1, 1) := by decide +kernel
theorem d_LA_sendAll_2 : decode prog_1_method_7_code 2 = .ok (.invokevirtual 54, 3) := by decide +kernel
theorem d_LA_sendAll_5 : decode prog_1_method_7_code 5 = .ok (.aload_n 0, 1) := by decide +kernel
theorem d_LA_sendAll_6 : decode prog_1_method_7_code 6 = .ok (.iload_n 1, 1) := by decide +kernel
theorem d_LA_sendAll_7 : decode prog_1_method_7_code 7 = .ok (.invokevirtual 80, 3) := by decide +kernel
theorem d_LA_sendAll_10 : decode prog_1_method_7_code 10 = .ok (.aload_n 0, 1) := by decide +kernel
theorem d_LA_sendAll_11 : decode prog_1_method_7_code 11 = .ok (.getfield 47, 3) := by decide +kernel
theorem d_LA_sendAll_14 : decode prog_1_method_7_code 14 = .ok (.iload_n 1, 1) := by decide +kernel
theorem d_LA_sendAll_15 : decode prog_1_method_7_code 15 = .ok (.invokevirtual 139, 3) := by decide +kernel
theorem d_LA_sendAll_18 : decode prog_1_method_7_code 18 = .ok (.ireturn, 1) := by decide +kernel
theorem d_LA_pending_0 : decode prog_1_method_8_code 0 = .ok (.aload_n 0, 1) := by decide +kernel
theorem d_LA_pending_1 : decode prog_1_method_8_code 1 = .ok (.getfield 38, 3) := by decide +kernel
theorem d_LA_pending_4 : decode prog_1_method_8_code 4 = .ok (.getfield 143, 3) := by decide +kernel
theorem d_LA_pending_7 : decode prog_1_method_8_code 7 = .ok (.ireturn, 1) := by decide +kernel
theorem d_LA_requirePacket_0 : decode prog_1_method_27_code 0 = .ok (.iload_n 1, 1) := by decide +kernel
theorem d_LA_requirePacket_1 : decode prog_1_method_27_code 1 = .ok (.ifCond .lt (14), 3) := by decide +kernel
theorem d_LA_requirePacket_4 : decode prog_1_method_27_code 4 = .ok (.iload_n 1, 1) := by decide +kernel
theorem d_LA_requirePacket_5 : decode prog_1_method_27_code 5 = .ok (.aload_n 0, 1) := by decide +kernel
theorem d_LA_requirePacket_6 : decode prog_1_method_27_code 6 = .ok (.getfield 38, 3) := by decide +kernel
theorem d_LA_requirePacket_9 : decode prog_1_method_27_code 9 = .ok (.getfield 143, 3) := by decide +kernel
theorem d_LA_requirePacket_12 : decode prog_1_method_27_code 12 = .ok (.if_icmp .lt (13), 3) := by decide +kernel
theorem d_LA_requirePacket_15 : decode prog_1_method_27_code 15 = .ok (.new 149, 3) := by decide +kernel
theorem d_LA_requirePacket_18 : decode prog_1_method_27_code 18 = .ok (.dup, 1) := by decide +kernel
theorem d_LA_requirePacket_19 : decode prog_1_method_27_code 19 = .ok (.ldc 218, 2) := by decide +kernel
theorem d_LA_requirePacket_21 : decode prog_1_method_27_code 21 = .ok (.invokespecial 153, 3) := by decide +kernel
theorem d_LA_requirePacket_24 : decode prog_1_method_27_code 24 = .ok (.athrow, 1) := by decide +kernel
theorem d_LA_requirePacket_25 : decode prog_1_method_27_code 25 = .ok (.return_, 1) := by decide +kernel
theorem d_LA_packet_0 : decode prog_1_method_9_code 0 = .ok (.aload_n 0, 1) := by decide +kernel
theorem d_LA_packet_1 : decode prog_1_method_9_code 1 = .ok (.iload_n 1, 1) := by decide +kernel
theorem d_LA_packet_2 : decode prog_1_method_9_code 2 = .ok (.invokevirtual 146, 3) := by decide +kernel
theorem d_LA_packet_5 : decode prog_1_method_9_code 5 = .ok (.iload_n 2, 1) := by decide +kernel
theorem d_LA_packet_6 : decode prog_1_method_9_code 6 = .ok (.ifCond .lt (9), 3) := by decide +kernel
theorem d_LA_packet_9 : decode prog_1_method_9_code 9 = .ok (.iload_n 2, 1) := by decide +kernel
theorem d_LA_packet_10 : decode prog_1_method_9_code 10 = .ok (.bipush 6, 2) := by decide +kernel
theorem d_LA_packet_12 : decode prog_1_method_9_code 12 = .ok (.if_icmp .lt (13), 3) := by decide +kernel
theorem d_LA_packet_15 : decode prog_1_method_9_code 15 = .ok (.new 149, 3) := by decide +kernel
theorem d_LA_packet_18 : decode prog_1_method_9_code 18 = .ok (.dup, 1) := by decide +kernel
theorem d_LA_packet_19 : decode prog_1_method_9_code 19 = .ok (.ldc 151, 2) := by decide +kernel
theorem d_LA_packet_21 : decode prog_1_method_9_code 21 = .ok (.invokespecial 153, 3) := by decide +kernel
theorem d_LA_packet_24 : decode prog_1_method_9_code 24 = .ok (.athrow, 1) := by decide +kernel
theorem d_LA_packet_25 : decode prog_1_method_9_code 25 = .ok (.aload_n 0, 1) := by decide +kernel
theorem d_LA_packet_26 : decode prog_1_method_9_code 26 = .ok (.getfield 38, 3) := by decide +kernel
theorem d_LA_packet_29 : decode prog_1_method_9_code 29 = .ok (.iload_n 1, 1) := by decide +kernel
theorem d_LA_packet_30 : decode prog_1_method_9_code 30 = .ok (.iload_n 2, 1) := by decide +kernel
theorem d_LA_packet_31 : decode prog_1_method_9_code 31 = .ok (.invokevirtual 154, 3) := by decide +kernel
theorem d_LA_packet_34 : decode prog_1_method_9_code 34 = .ok (.ireturn, 1) := by decide +kernel
theorem d_LA_takeFind_0 : decode prog_1_method_24_code 0 = .ok (.aload_n 0, 1) := by decide +kernel
theorem d_LA_takeFind_1 : decode prog_1_method_24_code 1 = .ok (.getfield 28, 3) := by decide +kernel
theorem d_LA_takeFind_4 : decode prog_1_method_24_code 4 = .ok (.iload_n 3, 1) := by decide +kernel
theorem d_LA_takeFind_5 : decode prog_1_method_24_code 5 = .ok (.aaload, 1) := by decide +kernel
theorem d_LA_takeFind_6 : decode prog_1_method_24_code 6 = .ok (.getfield 83, 3) := by decide +kernel
theorem d_LA_takeFind_9 : decode prog_1_method_24_code 9 = .ok (.iload_n 2, 1) := by decide +kernel
theorem d_LA_takeFind_10 : decode prog_1_method_24_code 10 = .ok (.aaload, 1) := by decide +kernel
theorem d_LA_takeFind_11 : decode prog_1_method_24_code 11 = .ok (.astore 5, 2) := by decide +kernel
theorem d_LA_takeFind_13 : decode prog_1_method_24_code 13 = .ok (.aload 5, 2) := by decide +kernel
theorem d_LA_takeFind_15 : decode prog_1_method_24_code 15 = .ok (.getfield 176, 3) := by decide +kernel
theorem d_LA_takeFind_18 : decode prog_1_method_24_code 18 = .ok (.istore 6, 2) := by decide +kernel
theorem d_LA_takeFind_20 : decode prog_1_method_24_code 20 = .ok (.aload 5, 2) := by decide +kernel
theorem d_LA_takeFind_22 : decode prog_1_method_24_code 22 = .ok (.iload_n 1, 1) := by decide +kernel
theorem d_LA_takeFind_23 : decode prog_1_method_24_code 23 = .ok (.putfield 176, 3) := by decide +kernel
theorem d_LA_takeFind_26 : decode prog_1_method_24_code 26 = .ok (.iload 6, 2) := by decide +kernel
theorem d_LA_takeFind_28 : decode prog_1_method_24_code 28 = .ok (.iload_n 2, 1) := by decide +kernel
theorem d_LA_takeFind_29 : decode prog_1_method_24_code 29 = .ok (.if_icmp .eq (17), 3) := by decide +kernel
theorem d_LA_takeFind_32 : decode prog_1_method_24_code 32 = .ok (.aload_n 0, 1) := by decide +kernel
theorem d_LA_takeFind_33 : decode prog_1_method_24_code 33 = .ok (.getfield 47, 3) := by decide +kernel
theorem d_LA_takeFind_36 : decode prog_1_method_24_code 36 = .ok (.iload_n 2, 1) := by decide +kernel
theorem d_LA_takeFind_37 : decode prog_1_method_24_code 37 = .ok (.iload 6, 2) := by decide +kernel
theorem d_LA_takeFind_39 : decode prog_1_method_24_code 39 = .ok (.iload_n 3, 1) := by decide +kernel
theorem d_LA_takeFind_40 : decode prog_1_method_24_code 40 = .ok (.iload 4, 2) := by decide +kernel
theorem d_LA_takeFind_42 : decode prog_1_method_24_code 42 = .ok (.invokevirtual 200, 3) := by decide +kernel
theorem d_LA_takeFind_45 : decode prog_1_method_24_code 45 = .ok (.return_, 1) := by decide +kernel
theorem d_LA_takeFind_46 : decode prog_1_method_24_code 46 = .ok (.aload 5, 2) := by decide +kernel
theorem d_LA_takeFind_48 : decode prog_1_method_24_code 48 = .ok (.iload 4, 2) := by decide +kernel
theorem d_LA_takeFind_50 : decode prog_1_method_24_code 50 = .ok (.putfield 121, 3) := by decide +kernel
theorem d_LA_takeFind_53 : decode prog_1_method_24_code 53 = .ok (.aload 5, 2) := by decide +kernel
theorem d_LA_takeFind_55 : decode prog_1_method_24_code 55 = .ok (.getfield 101, 3) := by decide +kernel
theorem d_LA_takeFind_58 : decode prog_1_method_24_code 58 = .ok (.iconst 4, 1) := by decide +kernel
theorem d_LA_takeFind_59 : decode prog_1_method_24_code 59 = .ok (.if_icmp .ne (13), 3) := by decide +kernel
theorem d_LA_takeFind_62 : decode prog_1_method_24_code 62 = .ok (.aload_n 0, 1) := by decide +kernel
theorem d_LA_takeFind_63 : decode prog_1_method_24_code 63 = .ok (.getfield 28, 3) := by decide +kernel
theorem d_LA_takeFind_66 : decode prog_1_method_24_code 66 = .ok (.iload_n 3, 1) := by decide +kernel
theorem d_LA_takeFind_67 : decode prog_1_method_24_code 67 = .ok (.aaload, 1) := by decide +kernel
theorem d_LA_takeFind_68 : decode prog_1_method_24_code 68 = .ok (.iload_n 2, 1) := by decide +kernel
theorem d_LA_takeFind_69 : decode prog_1_method_24_code 69 = .ok (.invokevirtual 127, 3) := by decide +kernel
theorem d_LA_takeFind_72 : decode prog_1_method_24_code 72 = .ok (.return_, 1) := by decide +kernel
theorem d_LA_receiveLetter_0 : decode prog_1_method_23_code 0 = .ok (.aload_n 0, 1) := by decide +kernel
theorem d_LA_receiveLetter_1 : decode prog_1_method_23_code 1 = .ok (.getfield 47, 3) := by decide +kernel
theorem d_LA_receiveLetter_4 : decode prog_1_method_23_code 4 = .ok (.iload_n 1, 1) := by decide +kernel
theorem d_LA_receiveLetter_5 : decode prog_1_method_23_code 5 = .ok (.iload_n 2, 1) := by decide +kernel
theorem d_LA_receiveLetter_6 : decode prog_1_method_23_code 6 = .ok (.iload_n 3, 1) := by decide +kernel
theorem d_LA_receiveLetter_7 : decode prog_1_method_23_code 7 = .ok (.invokevirtual 204, 3) := by decide +kernel
theorem d_LA_receiveLetter_10 : decode prog_1_method_23_code 10 = .ok (.istore 6, 2) := by decide +kernel
theorem d_LA_receiveLetter_12 : decode prog_1_method_23_code 12 = .ok (.iload 6, 2) := by decide +kernel
theorem d_LA_receiveLetter_14 : decode prog_1_method_23_code 14 = .ok (.ifCond .eq (13), 3) := by decide +kernel
theorem d_LA_receiveLetter_17 : decode prog_1_method_23_code 17 = .ok (.aload_n 0, 1) := by decide +kernel
theorem d_LA_receiveLetter_18 : decode prog_1_method_23_code 18 = .ok (.iload_n 1, 1) := by decide +kernel
theorem d_LA_receiveLetter_19 : decode prog_1_method_23_code 19 = .ok (.iload_n 2, 1) := by decide +kernel
theorem d_LA_receiveLetter_20 : decode prog_1_method_23_code 20 = .ok (.iload 4, 2) := by decide +kernel
theorem d_LA_receiveLetter_22 : decode prog_1_method_23_code 22 = .ok (.iload 5, 2) := by decide +kernel
theorem d_LA_receiveLetter_24 : decode prog_1_method_23_code 24 = .ok (.invokevirtual 207, 3) := by decide +kernel
theorem d_LA_receiveLetter_27 : decode prog_1_method_23_code 27 = .ok (.aload_n 0, 1) := by decide +kernel
theorem d_LA_receiveLetter_28 : decode prog_1_method_23_code 28 = .ok (.getfield 38, 3) := by decide +kernel
theorem d_LA_receiveLetter_31 : decode prog_1_method_23_code 31 = .ok (.iconst 1, 1) := by decide +kernel
theorem d_LA_receiveLetter_32 : decode prog_1_method_23_code 32 = .ok (.iload_n 2, 1) := by decide +kernel
theorem d_LA_receiveLetter_33 : decode prog_1_method_23_code 33 = .ok (.iload_n 1, 1) := by decide +kernel
theorem d_LA_receiveLetter_34 : decode prog_1_method_23_code 34 = .ok (.iload_n 3, 1) := by decide +kernel
theorem d_LA_receiveLetter_35 : decode prog_1_method_23_code 35 = .ok (.iconst (-1), 1) := by decide +kernel
theorem d_LA_receiveLetter_36 : decode prog_1_method_23_code 36 = .ok (.iconst (-1), 1) := by decide +kernel
theorem d_LA_receiveLetter_37 : decode prog_1_method_23_code 37 = .ok (.invokevirtual 210, 3) := by decide +kernel
theorem d_LA_receiveLetter_40 : decode prog_1_method_23_code 40 = .ok (.iload 6, 2) := by decide +kernel
theorem d_LA_receiveLetter_42 : decode prog_1_method_23_code 42 = .ok (.ifCond .eq (7), 3) := by decide +kernel
theorem d_LA_receiveLetter_45 : decode prog_1_method_23_code 45 = .ok (.iconst 1, 1) := by decide +kernel
theorem d_LA_receiveLetter_46 : decode prog_1_method_23_code 46 = .ok (.goto (4), 3) := by decide +kernel
theorem d_LA_receiveLetter_49 : decode prog_1_method_23_code 49 = .ok (.iconst 2, 1) := by decide +kernel
theorem d_LA_receiveLetter_50 : decode prog_1_method_23_code 50 = .ok (.ireturn, 1) := by decide +kernel
theorem d_LA_deliver_0 : decode prog_1_method_10_code 0 = .ok (.aload_n 0, 1) := by decide +kernel
theorem d_LA_deliver_1 : decode prog_1_method_10_code 1 = .ok (.iload_n 1, 1) := by decide +kernel
theorem d_LA_deliver_2 : decode prog_1_method_10_code 2 = .ok (.invokevirtual 146, 3) := by decide +kernel
theorem d_LA_deliver_5 : decode prog_1_method_10_code 5 = .ok (.aload_n 0, 1) := by decide +kernel
theorem d_LA_deliver_6 : decode prog_1_method_10_code 6 = .ok (.getfield 38, 3) := by decide +kernel
theorem d_LA_deliver_9 : decode prog_1_method_10_code 9 = .ok (.iload_n 1, 1) := by decide +kernel
theorem d_LA_deliver_10 : decode prog_1_method_10_code 10 = .ok (.iconst 0, 1) := by decide +kernel
theorem d_LA_deliver_11 : decode prog_1_method_10_code 11 = .ok (.invokevirtual 154, 3) := by decide +kernel
theorem d_LA_deliver_14 : decode prog_1_method_10_code 14 = .ok (.ifCond .ne (7), 3) := by decide +kernel
theorem d_LA_deliver_17 : decode prog_1_method_10_code 17 = .ok (.iconst 1, 1) := by decide +kernel
theorem d_LA_deliver_18 : decode prog_1_method_10_code 18 = .ok (.goto (4), 3) := by decide +kernel
theorem d_LA_deliver_21 : decode prog_1_method_10_code 21 = .ok (.iconst 0, 1) := by decide +kernel
theorem d_LA_deliver_22 : decode prog_1_method_10_code 22 = .ok (.istore_n 2, 1) := by decide +kernel
theorem d_LA_deliver_23 : decode prog_1_method_10_code 23 = .ok (.aload_n 0, 1) := by decide +kernel
theorem d_LA_deliver_24 : decode prog_1_method_10_code 24 = .ok (.getfield 38, 3) := by decide +kernel
theorem d_LA_deliver_27 : decode prog_1_method_10_code 27 = .ok (.iload_n 1, 1) := by decide +kernel
theorem d_LA_deliver_28 : decode prog_1_method_10_code 28 = .ok (.iconst 1, 1) := by decide +kernel
theorem d_LA_deliver_29 : decode prog_1_method_10_code 29 = .ok (.invokevirtual 154, 3) := by decide +kernel
theorem d_LA_deliver_32 : decode prog_1_method_10_code 32 = .ok (.istore_n 3, 1) := by decide +kernel
theorem d_LA_deliver_33 : decode prog_1_method_10_code 33 = .ok (.aload_n 0, 1) := by decide +kernel
theorem d_LA_deliver_34 : decode prog_1_method_10_code 34 = .ok (.getfield 38, 3) := by decide +kernel
theorem d_LA_deliver_37 : decode prog_1_method_10_code 37 = .ok (.iload_n 1, 1) := by decide +kernel
theorem d_LA_deliver_38 : decode prog_1_method_10_code 38 = .ok (.iconst 2, 1) := by decide +kernel
theorem d_LA_deliver_39 : decode prog_1_method_10_code 39 = .ok (.invokevirtual 154, 3) := by decide +kernel
theorem d_LA_deliver_42 : decode prog_1_method_10_code 42 = .ok (.istore 4, 2) := by decide +kernel
theorem d_LA_deliver_44 : decode prog_1_method_10_code 44 = .ok (.aload_n 0, 1) := by decide +kernel
theorem d_LA_deliver_45 : decode prog_1_method_10_code 45 = .ok (.getfield 38, 3) := by decide +kernel
theorem d_LA_deliver_48 : decode prog_1_method_10_code 48 = .ok (.iload_n 1, 1) := by decide +kernel
theorem d_LA_deliver_49 : decode prog_1_method_10_code 49 = .ok (.iconst 3, 1) := by decide +kernel
theorem d_LA_deliver_50 : decode prog_1_method_10_code 50 = .ok (.invokevirtual 154, 3) := by decide +kernel
theorem d_LA_deliver_53 : decode prog_1_method_10_code 53 = .ok (.istore 5, 2) := by decide +kernel
theorem d_LA_deliver_55 : decode prog_1_method_10_code 55 = .ok (.aload_n 0, 1) := by decide +kernel
theorem d_LA_deliver_56 : decode prog_1_method_10_code 56 = .ok (.getfield 38, 3) := by decide +kernel
theorem d_LA_deliver_59 : decode prog_1_method_10_code 59 = .ok (.iload_n 1, 1) := by decide +kernel
theorem d_LA_deliver_60 : decode prog_1_method_10_code 60 = .ok (.iconst 4, 1) := by decide +kernel
theorem d_LA_deliver_61 : decode prog_1_method_10_code 61 = .ok (.invokevirtual 154, 3) := by decide +kernel
theorem d_LA_deliver_64 : decode prog_1_method_10_code 64 = .ok (.istore 6, 2) := by decide +kernel
theorem d_LA_deliver_66 : decode prog_1_method_10_code 66 = .ok (.aload_n 0, 1) := by decide +kernel
theorem d_LA_deliver_67 : decode prog_1_method_10_code 67 = .ok (.getfield 38, 3) := by decide +kernel
theorem d_LA_deliver_70 : decode prog_1_method_10_code 70 = .ok (.iload_n 1, 1) := by decide +kernel
theorem d_LA_deliver_71 : decode prog_1_method_10_code 71 = .ok (.iconst 5, 1) := by decide +kernel
theorem d_LA_deliver_72 : decode prog_1_method_10_code 72 = .ok (.invokevirtual 154, 3) := by decide +kernel
theorem d_LA_deliver_75 : decode prog_1_method_10_code 75 = .ok (.istore 7, 2) := by decide +kernel
theorem d_LA_deliver_77 : decode prog_1_method_10_code 77 = .ok (.aload_n 0, 1) := by decide +kernel
theorem d_LA_deliver_78 : decode prog_1_method_10_code 78 = .ok (.getfield 38, 3) := by decide +kernel
theorem d_LA_deliver_81 : decode prog_1_method_10_code 81 = .ok (.iload_n 1, 1) := by decide +kernel
theorem d_LA_deliver_82 : decode prog_1_method_10_code 82 = .ok (.invokevirtual 158, 3) := by decide +kernel
theorem d_LA_deliver_85 : decode prog_1_method_10_code 85 = .ok (.aload_n 0, 1) := by decide +kernel
theorem d_LA_deliver_86 : decode prog_1_method_10_code 86 = .ok (.getfield 13, 3) := by decide +kernel
theorem d_LA_deliver_89 : decode prog_1_method_10_code 89 = .ok (.iload 4, 2) := by decide +kernel
theorem d_LA_deliver_91 : decode prog_1_method_10_code 91 = .ok (.baload, 1) := by decide +kernel
theorem d_LA_deliver_92 : decode prog_1_method_10_code 92 = .ok (.ifCond .eq (5), 3) := by decide +kernel
theorem d_LA_deliver_95 : decode prog_1_method_10_code 95 = .ok (.iconst 0, 1) := by decide +kernel
theorem d_LA_deliver_96 : decode prog_1_method_10_code 96 = .ok (.ireturn, 1) := by decide +kernel
theorem d_LA_deliver_97 : decode prog_1_method_10_code 97 = .ok (.iload_n 2, 1) := by decide +kernel
theorem d_LA_deliver_98 : decode prog_1_method_10_code 98 = .ok (.ifCond .eq (17), 3) := by decide +kernel
theorem d_LA_deliver_101 : decode prog_1_method_10_code 101 = .ok (.aload_n 0, 1) := by decide +kernel
theorem d_LA_deliver_102 : decode prog_1_method_10_code 102 = .ok (.iload_n 3, 1) := by decide +kernel
theorem d_LA_deliver_103 : decode prog_1_method_10_code 103 = .ok (.iload 4, 2) := by decide +kernel
theorem d_LA_deliver_105 : decode prog_1_method_10_code 105 = .ok (.iload 5, 2) := by decide +kernel
theorem d_LA_deliver_107 : decode prog_1_method_10_code 107 = .ok (.iload 6, 2) := by decide +kernel
theorem d_LA_deliver_109 : decode prog_1_method_10_code 109 = .ok (.iload 7, 2) := by decide +kernel
theorem d_LA_deliver_111 : decode prog_1_method_10_code 111 = .ok (.invokevirtual 161, 3) := by decide +kernel
theorem d_LA_deliver_114 : decode prog_1_method_10_code 114 = .ok (.ireturn, 1) := by decide +kernel
theorem d_LA_deliver_115 : decode prog_1_method_10_code 115 = .ok (.aload_n 0, 1) := by decide +kernel
theorem d_LA_deliver_116 : decode prog_1_method_10_code 116 = .ok (.getfield 47, 3) := by decide +kernel
theorem d_LA_deliver_119 : decode prog_1_method_10_code 119 = .ok (.iload 4, 2) := by decide +kernel
theorem d_LA_deliver_121 : decode prog_1_method_10_code 121 = .ok (.iload_n 3, 1) := by decide +kernel
theorem d_LA_deliver_122 : decode prog_1_method_10_code 122 = .ok (.iload 5, 2) := by decide +kernel
theorem d_LA_deliver_124 : decode prog_1_method_10_code 124 = .ok (.invokevirtual 165, 3) := by decide +kernel
theorem d_LA_deliver_127 : decode prog_1_method_10_code 127 = .ok (.ifCond .eq (7), 3) := by decide +kernel
theorem d_LA_deliver_130 : decode prog_1_method_10_code 130 = .ok (.iconst 3, 1) := by decide +kernel
theorem d_LA_deliver_131 : decode prog_1_method_10_code 131 = .ok (.goto (4), 3) := by decide +kernel
theorem d_LA_deliver_134 : decode prog_1_method_10_code 134 = .ok (.iconst 4, 1) := by decide +kernel
theorem d_LA_deliver_135 : decode prog_1_method_10_code 135 = .ok (.ireturn, 1) := by decide +kernel
theorem d_LA_drop_0 : decode prog_1_method_11_code 0 = .ok (.aload_n 0, 1) := by decide +kernel
theorem d_LA_drop_1 : decode prog_1_method_11_code 1 = .ok (.iload_n 1, 1) := by decide +kernel
theorem d_LA_drop_2 : decode prog_1_method_11_code 2 = .ok (.invokevirtual 146, 3) := by decide +kernel
theorem d_LA_drop_5 : decode prog_1_method_11_code 5 = .ok (.aload_n 0, 1) := by decide +kernel
theorem d_LA_drop_6 : decode prog_1_method_11_code 6 = .ok (.getfield 38, 3) := by decide +kernel
theorem d_LA_drop_9 : decode prog_1_method_11_code 9 = .ok (.iload_n 1, 1) := by decide +kernel
theorem d_LA_drop_10 : decode prog_1_method_11_code 10 = .ok (.invokevirtual 158, 3) := by decide +kernel
theorem d_LA_drop_13 : decode prog_1_method_11_code 13 = .ok (.aload_n 0, 1) := by decide +kernel
theorem d_LA_drop_14 : decode prog_1_method_11_code 14 = .ok (.getfield 38, 3) := by decide +kernel
theorem d_LA_drop_17 : decode prog_1_method_11_code 17 = .ok (.getfield 143, 3) := by decide +kernel
theorem d_LA_drop_20 : decode prog_1_method_11_code 20 = .ok (.ireturn, 1) := by decide +kernel
theorem d_LA_twin_0 : decode prog_1_method_12_code 0 = .ok (.aload_n 0, 1) := by decide +kernel
theorem d_LA_twin_1 : decode prog_1_method_12_code 1 = .ok (.iload_n 1, 1) := by decide +kernel
theorem d_LA_twin_2 : decode prog_1_method_12_code 2 = .ok (.invokevirtual 146, 3) := by decide +kernel
theorem d_LA_twin_5 : decode prog_1_method_12_code 5 = .ok (.aload_n 0, 1) := by decide +kernel
theorem d_LA_twin_6 : decode prog_1_method_12_code 6 = .ok (.getfield 38, 3) := by decide +kernel
theorem d_LA_twin_9 : decode prog_1_method_12_code 9 = .ok (.iload_n 1, 1) := by decide +kernel
theorem d_LA_twin_10 : decode prog_1_method_12_code 10 = .ok (.invokevirtual 169, 3) := by decide +kernel
theorem d_LA_twin_13 : decode prog_1_method_12_code 13 = .ok (.ireturn, 1) := by decide +kernel
theorem d_LA_crash_0 : decode prog_1_method_13_code 0 = .ok (.aload_n 0, 1) := by decide +kernel
theorem d_LA_crash_1 : decode prog_1_method_13_code 1 = .ok (.iload_n 1, 1) := by decide +kernel
theorem d_LA_crash_2 : decode prog_1_method_13_code 2 = .ok (.invokevirtual 54, 3) := by decide +kernel
theorem d_LA_crash_5 : decode prog_1_method_13_code 5 = .ok (.aload_n 0, 1) := by decide +kernel
theorem d_LA_crash_6 : decode prog_1_method_13_code 6 = .ok (.iload_n 1, 1) := by decide +kernel
theorem d_LA_crash_7 : decode prog_1_method_13_code 7 = .ok (.invokevirtual 80, 3) := by decide +kernel
theorem d_LA_crash_10 : decode prog_1_method_13_code 10 = .ok (.aload_n 0, 1) := by decide +kernel
theorem d_LA_crash_11 : decode prog_1_method_13_code 11 = .ok (.getfield 13, 3) := by decide +kernel
theorem d_LA_crash_14 : decode prog_1_method_13_code 14 = .ok (.iload_n 1, 1) := by decide +kernel
theorem d_LA_crash_15 : decode prog_1_method_13_code 15 = .ok (.iconst 1, 1) := by decide +kernel
theorem d_LA_crash_16 : decode prog_1_method_13_code 16 = .ok (.bastore, 1) := by decide +kernel
theorem d_LA_crash_17 : decode prog_1_method_13_code 17 = .ok (.return_, 1) := by decide +kernel
theorem d_LA_restart_0 : decode prog_1_method_14_code 0 = .ok (.aload_n 0, 1) := by decide +kernel
theorem d_LA_restart_1 : decode prog_1_method_14_code 1 = .ok (.iload_n 1, 1) := by decide +kernel
theorem d_LA_restart_2 : decode prog_1_method_14_code 2 = .ok (.invokevirtual 54, 3) := by decide +kernel
theorem d_LA_restart_5 : decode prog_1_method_14_code 5 = .ok (.aload_n 0, 1) := by decide +kernel
theorem d_LA_restart_6 : decode prog_1_method_14_code 6 = .ok (.getfield 13, 3) := by decide +kernel
theorem d_LA_restart_9 : decode prog_1_method_14_code 9 = .ok (.iload_n 1, 1) := by decide +kernel
theorem d_LA_restart_10 : decode prog_1_method_14_code 10 = .ok (.baload, 1) := by decide +kernel
theorem d_LA_restart_11 : decode prog_1_method_14_code 11 = .ok (.ifCond .ne (13), 3) := by decide +kernel
theorem d_LA_restart_14 : decode prog_1_method_14_code 14 = .ok (.new 61, 3) := by decide +kernel
theorem d_LA_restart_17 : decode prog_1_method_14_code 17 = .ok (.dup, 1) := by decide +kernel
theorem d_LA_restart_18 : decode prog_1_method_14_code 18 = .ok (.ldc 172, 2) := by decide +kernel
theorem d_LA_restart_20 : decode prog_1_method_14_code 20 = .ok (.invokespecial 65, 3) := by decide +kernel
theorem d_LA_restart_23 : decode prog_1_method_14_code 23 = .ok (.athrow, 1) := by decide +kernel
theorem d_LA_restart_24 : decode prog_1_method_14_code 24 = .ok (.aload_n 0, 1) := by decide +kernel
theorem d_LA_restart_25 : decode prog_1_method_14_code 25 = .ok (.getfield 13, 3) := by decide +kernel
theorem d_LA_restart_28 : decode prog_1_method_14_code 28 = .ok (.iload_n 1, 1) := by decide +kernel
theorem d_LA_restart_29 : decode prog_1_method_14_code 29 = .ok (.iconst 0, 1) := by decide +kernel
theorem d_LA_restart_30 : decode prog_1_method_14_code 30 = .ok (.bastore, 1) := by decide +kernel
theorem d_LA_restart_31 : decode prog_1_method_14_code 31 = .ok (.aload_n 0, 1) := by decide +kernel
theorem d_LA_restart_32 : decode prog_1_method_14_code 32 = .ok (.getfield 47, 3) := by decide +kernel
theorem d_LA_restart_35 : decode prog_1_method_14_code 35 = .ok (.iload_n 1, 1) := by decide +kernel
theorem d_LA_restart_36 : decode prog_1_method_14_code 36 = .ok (.invokevirtual 139, 3) := by decide +kernel
theorem d_LA_restart_39 : decode prog_1_method_14_code 39 = .ok (.ireturn, 1) := by decide +kernel
theorem d_LA_of1_0 : decode prog_1_method_15_code 0 = .ok (.aload_n 0, 1) := by decide +kernel
theorem d_LA_of1_1 : decode prog_1_method_15_code 1 = .ok (.iload_n 1, 1) := by decide +kernel
theorem d_LA_of1_2 : decode prog_1_method_15_code 2 = .ok (.invokevirtual 54, 3) := by decide +kernel
theorem d_LA_of1_5 : decode prog_1_method_15_code 5 = .ok (.aload_n 0, 1) := by decide +kernel
theorem d_LA_of1_6 : decode prog_1_method_15_code 6 = .ok (.iload_n 2, 1) := by decide +kernel
theorem d_LA_of1_7 : decode prog_1_method_15_code 7 = .ok (.invokevirtual 51, 3) := by decide +kernel
theorem d_LA_of1_10 : decode prog_1_method_15_code 10 = .ok (.iload_n 3, 1) := by decide +kernel
theorem d_LA_of1_11 : decode prog_1_method_15_code 11 = .ok (.ifCond .lt (8), 3) := by decide +kernel
theorem d_LA_of1_14 : decode prog_1_method_15_code 14 = .ok (.iload_n 3, 1) := by decide +kernel
theorem d_LA_of1_15 : decode prog_1_method_15_code 15 = .ok (.iconst 5, 1) := by decide +kernel
theorem d_LA_of1_16 : decode prog_1_method_15_code 16 = .ok (.if_icmp .lt (13), 3) := by decide +kernel
theorem d_LA_of1_19 : decode prog_1_method_15_code 19 = .ok (.new 149, 3) := by decide +kernel
theorem d_LA_of1_22 : decode prog_1_method_15_code 22 = .ok (.dup, 1) := by decide +kernel
theorem d_LA_of1_23 : decode prog_1_method_15_code 23 = .ok (.ldc 174, 2) := by decide +kernel
theorem d_LA_of1_25 : decode prog_1_method_15_code 25 = .ok (.invokespecial 153, 3) := by decide +kernel
theorem d_LA_of1_28 : decode prog_1_method_15_code 28 = .ok (.athrow, 1) := by decide +kernel
theorem d_LA_of1_29 : decode prog_1_method_15_code 29 = .ok (.aload_n 0, 1) := by decide +kernel
theorem d_LA_of1_30 : decode prog_1_method_15_code 30 = .ok (.getfield 28, 3) := by decide +kernel
theorem d_LA_of1_33 : decode prog_1_method_15_code 33 = .ok (.iload_n 2, 1) := by decide +kernel
theorem d_LA_of1_34 : decode prog_1_method_15_code 34 = .ok (.aaload, 1) := by decide +kernel
theorem d_LA_of1_35 : decode prog_1_method_15_code 35 = .ok (.invokevirtual 57, 3) := by decide +kernel
theorem d_LA_of1_38 : decode prog_1_method_15_code 38 = .ok (.ifCond .ne (5), 3) := by decide +kernel
theorem d_LA_of1_41 : decode prog_1_method_15_code 41 = .ok (.iconst (-1), 1) := by decide +kernel
theorem d_LA_of1_42 : decode prog_1_method_15_code 42 = .ok (.ireturn, 1) := by decide +kernel
theorem d_LA_of1_43 : decode prog_1_method_15_code 43 = .ok (.aload_n 0, 1) := by decide +kernel
theorem d_LA_of1_44 : decode prog_1_method_15_code 44 = .ok (.getfield 28, 3) := by decide +kernel
theorem d_LA_of1_47 : decode prog_1_method_15_code 47 = .ok (.iload_n 2, 1) := by decide +kernel
theorem d_LA_of1_48 : decode prog_1_method_15_code 48 = .ok (.aaload, 1) := by decide +kernel
theorem d_LA_of1_49 : decode prog_1_method_15_code 49 = .ok (.getfield 83, 3) := by decide +kernel
theorem d_LA_of1_52 : decode prog_1_method_15_code 52 = .ok (.iload_n 1, 1) := by decide +kernel
theorem d_LA_of1_53 : decode prog_1_method_15_code 53 = .ok (.aaload, 1) := by decide +kernel
theorem d_LA_of1_54 : decode prog_1_method_15_code 54 = .ok (.astore 4, 2) := by decide +kernel
theorem d_LA_of1_56 : decode prog_1_method_15_code 56 = .ok (.iload_n 3, 1) := by decide +kernel
theorem d_LA_of1_57 : decode prog_1_method_15_code 57 = .ok (.tableswitch (55) 0 3 #[31, 37, 43, 49], 31) := by decide +kernel
theorem d_LA_of1_88 : decode prog_1_method_15_code 88 = .ok (.aload 4, 2) := by decide +kernel
theorem d_LA_of1_90 : decode prog_1_method_15_code 90 = .ok (.getfield 176, 3) := by decide +kernel
theorem d_LA_of1_93 : decode prog_1_method_15_code 93 = .ok (.ireturn, 1) := by decide +kernel
theorem d_LA_of1_94 : decode prog_1_method_15_code 94 = .ok (.aload 4, 2) := by decide +kernel
theorem d_LA_of1_96 : decode prog_1_method_15_code 96 = .ok (.getfield 121, 3) := by decide +kernel
theorem d_LA_of1_99 : decode prog_1_method_15_code 99 = .ok (.ireturn, 1) := by decide +kernel
theorem d_LA_of1_100 : decode prog_1_method_15_code 100 = .ok (.aload 4, 2) := by decide +kernel
theorem d_LA_of1_102 : decode prog_1_method_15_code 102 = .ok (.getfield 101, 3) := by decide +kernel
theorem d_LA_of1_105 : decode prog_1_method_15_code 105 = .ok (.ireturn, 1) := by decide +kernel
theorem d_LA_of1_106 : decode prog_1_method_15_code 106 = .ok (.aload 4, 2) := by decide +kernel
theorem d_LA_of1_108 : decode prog_1_method_15_code 108 = .ok (.getfield 124, 3) := by decide +kernel
theorem d_LA_of1_111 : decode prog_1_method_15_code 111 = .ok (.ireturn, 1) := by decide +kernel
theorem d_LA_of1_112 : decode prog_1_method_15_code 112 = .ok (.aload 4, 2) := by decide +kernel
theorem d_LA_of1_114 : decode prog_1_method_15_code 114 = .ok (.getfield 115, 3) := by decide +kernel
theorem d_LA_of1_117 : decode prog_1_method_15_code 117 = .ok (.ireturn, 1) := by decide +kernel
theorem d_LA_reader_0 : decode prog_1_method_16_code 0 = .ok (.aload_n 0, 1) := by decide +kernel
theorem d_LA_reader_1 : decode prog_1_method_16_code 1 = .ok (.iload_n 1, 1) := by decide +kernel
theorem d_LA_reader_2 : decode prog_1_method_16_code 2 = .ok (.invokevirtual 54, 3) := by decide +kernel
theorem d_LA_reader_5 : decode prog_1_method_16_code 5 = .ok (.aload_n 0, 1) := by decide +kernel
theorem d_LA_reader_6 : decode prog_1_method_16_code 6 = .ok (.iload_n 2, 1) := by decide +kernel
theorem d_LA_reader_7 : decode prog_1_method_16_code 7 = .ok (.invokevirtual 51, 3) := by decide +kernel
theorem d_LA_reader_10 : decode prog_1_method_16_code 10 = .ok (.aload_n 0, 1) := by decide +kernel
theorem d_LA_reader_11 : decode prog_1_method_16_code 11 = .ok (.getfield 28, 3) := by decide +kernel
theorem d_LA_reader_14 : decode prog_1_method_16_code 14 = .ok (.iload_n 2, 1) := by decide +kernel
theorem d_LA_reader_15 : decode prog_1_method_16_code 15 = .ok (.aaload, 1) := by decide +kernel
theorem d_LA_reader_16 : decode prog_1_method_16_code 16 = .ok (.getfield 83, 3) := by decide +kernel
theorem d_LA_reader_19 : decode prog_1_method_16_code 19 = .ok (.iload_n 1, 1) := by decide +kernel
theorem d_LA_reader_20 : decode prog_1_method_16_code 20 = .ok (.aaload, 1) := by decide +kernel
theorem d_LA_reader_21 : decode prog_1_method_16_code 21 = .ok (.iload_n 3, 1) := by decide +kernel
theorem d_LA_reader_22 : decode prog_1_method_16_code 22 = .ok (.invokevirtual 179, 3) := by decide +kernel
theorem d_LA_reader_25 : decode prog_1_method_16_code 25 = .ok (.ireturn, 1) := by decide +kernel
theorem d_LA_place_0 : decode prog_1_method_17_code 0 = .ok (.aload_n 0, 1) := by decide +kernel
theorem d_LA_place_1 : decode prog_1_method_17_code 1 = .ok (.iload_n 1, 1) := by decide +kernel
theorem d_LA_place_2 : decode prog_1_method_17_code 2 = .ok (.invokevirtual 51, 3) := by decide +kernel
theorem d_LA_place_5 : decode prog_1_method_17_code 5 = .ok (.aload_n 0, 1) := by decide +kernel
theorem d_LA_place_6 : decode prog_1_method_17_code 6 = .ok (.getfield 28, 3) := by decide +kernel
theorem d_LA_place_9 : decode prog_1_method_17_code 9 = .ok (.iload_n 1, 1) := by decide +kernel
theorem d_LA_place_10 : decode prog_1_method_17_code 10 = .ok (.aaload, 1) := by decide +kernel
theorem d_LA_place_11 : decode prog_1_method_17_code 11 = .ok (.getfield 130, 3) := by decide +kernel
theorem d_LA_place_14 : decode prog_1_method_17_code 14 = .ok (.ifCond .eq (18), 3) := by decide +kernel
theorem d_LA_place_17 : decode prog_1_method_17_code 17 = .ok (.bipush 16, 2) := by decide +kernel
theorem d_LA_place_19 : decode prog_1_method_17_code 19 = .ok (.aload_n 0, 1) := by decide +kernel
theorem d_LA_place_20 : decode prog_1_method_17_code 20 = .ok (.getfield 28, 3) := by decide +kernel
theorem d_LA_place_23 : decode prog_1_method_17_code 23 = .ok (.iload_n 1, 1) := by decide +kernel
theorem d_LA_place_24 : decode prog_1_method_17_code 24 = .ok (.aaload, 1) := by decide +kernel
theorem d_LA_place_25 : decode prog_1_method_17_code 25 = .ok (.getfield 182, 3) := by decide +kernel
theorem d_LA_place_28 : decode prog_1_method_17_code 28 = .ok (.iadd, 1) := by decide +kernel
theorem d_LA_place_29 : decode prog_1_method_17_code 29 = .ok (.goto (12), 3) := by decide +kernel
theorem d_LA_place_32 : decode prog_1_method_17_code 32 = .ok (.aload_n 0, 1) := by decide +kernel
theorem d_LA_place_33 : decode prog_1_method_17_code 33 = .ok (.getfield 28, 3) := by decide +kernel
theorem d_LA_place_36 : decode prog_1_method_17_code 36 = .ok (.iload_n 1, 1) := by decide +kernel
theorem d_LA_place_37 : decode prog_1_method_17_code 37 = .ok (.aaload, 1) := by decide +kernel
theorem d_LA_place_38 : decode prog_1_method_17_code 38 = .ok (.getfield 182, 3) := by decide +kernel
theorem d_LA_place_41 : decode prog_1_method_17_code 41 = .ok (.ireturn, 1) := by decide +kernel
theorem d_LA_chain_0 : decode prog_1_method_18_code 0 = .ok (.aload_n 0, 1) := by decide +kernel
theorem d_LA_chain_1 : decode prog_1_method_18_code 1 = .ok (.iload_n 1, 1) := by decide +kernel
theorem d_LA_chain_2 : decode prog_1_method_18_code 2 = .ok (.invokevirtual 51, 3) := by decide +kernel
theorem d_LA_chain_5 : decode prog_1_method_18_code 5 = .ok (.aload_n 0, 1) := by decide +kernel
theorem d_LA_chain_6 : decode prog_1_method_18_code 6 = .ok (.getfield 28, 3) := by decide +kernel
theorem d_LA_chain_9 : decode prog_1_method_18_code 9 = .ok (.iload_n 1, 1) := by decide +kernel
theorem d_LA_chain_10 : decode prog_1_method_18_code 10 = .ok (.aaload, 1) := by decide +kernel
theorem d_LA_chain_11 : decode prog_1_method_18_code 11 = .ok (.iload_n 2, 1) := by decide +kernel
theorem d_LA_chain_12 : decode prog_1_method_18_code 12 = .ok (.invokevirtual 185, 3) := by decide +kernel
theorem d_LA_chain_15 : decode prog_1_method_18_code 15 = .ok (.ireturn, 1) := by decide +kernel
theorem d_LA_served_0 : decode prog_1_method_19_code 0 = .ok (.aload_n 0, 1) := by decide +kernel
theorem d_LA_served_1 : decode prog_1_method_19_code 1 = .ok (.iload_n 1, 1) := by decide +kernel
theorem d_LA_served_2 : decode prog_1_method_19_code 2 = .ok (.invokevirtual 51, 3) := by decide +kernel
theorem d_LA_served_5 : decode prog_1_method_19_code 5 = .ok (.aload_n 0, 1) := by decide +kernel
theorem d_LA_served_6 : decode prog_1_method_19_code 6 = .ok (.getfield 28, 3) := by decide +kernel
theorem d_LA_served_9 : decode prog_1_method_19_code 9 = .ok (.iload_n 1, 1) := by decide +kernel
theorem d_LA_served_10 : decode prog_1_method_19_code 10 = .ok (.aaload, 1) := by decide +kernel
theorem d_LA_served_11 : decode prog_1_method_19_code 11 = .ok (.iload_n 2, 1) := by decide +kernel
theorem d_LA_served_12 : decode prog_1_method_19_code 12 = .ok (.invokevirtual 188, 3) := by decide +kernel
theorem d_LA_served_15 : decode prog_1_method_19_code 15 = .ok (.ireturn, 1) := by decide +kernel
theorem d_LA_leads_0 : decode prog_1_method_20_code 0 = .ok (.aload_n 0, 1) := by decide +kernel
theorem d_LA_leads_1 : decode prog_1_method_20_code 1 = .ok (.iload_n 1, 1) := by decide +kernel
theorem d_LA_leads_2 : decode prog_1_method_20_code 2 = .ok (.invokevirtual 54, 3) := by decide +kernel
theorem d_LA_leads_5 : decode prog_1_method_20_code 5 = .ok (.aload_n 0, 1) := by decide +kernel
theorem d_LA_leads_6 : decode prog_1_method_20_code 6 = .ok (.iload_n 2, 1) := by decide +kernel
theorem d_LA_leads_7 : decode prog_1_method_20_code 7 = .ok (.invokevirtual 51, 3) := by decide +kernel
theorem d_LA_leads_10 : decode prog_1_method_20_code 10 = .ok (.aload_n 0, 1) := by decide +kernel
theorem d_LA_leads_11 : decode prog_1_method_20_code 11 = .ok (.iload_n 2, 1) := by decide +kernel
theorem d_LA_leads_12 : decode prog_1_method_20_code 12 = .ok (.invokevirtual 77, 3) := by decide +kernel
theorem d_LA_leads_15 : decode prog_1_method_20_code 15 = .ok (.aload_n 0, 1) := by decide +kernel
theorem d_LA_leads_16 : decode prog_1_method_20_code 16 = .ok (.getfield 28, 3) := by decide +kernel
theorem d_LA_leads_19 : decode prog_1_method_20_code 19 = .ok (.iload_n 2, 1) := by decide +kernel
theorem d_LA_leads_20 : decode prog_1_method_20_code 20 = .ok (.aaload, 1) := by decide +kernel
theorem d_LA_leads_21 : decode prog_1_method_20_code 21 = .ok (.iload_n 1, 1) := by decide +kernel
theorem d_LA_leads_22 : decode prog_1_method_20_code 22 = .ok (.invokevirtual 191, 3) := by decide +kernel
theorem d_LA_leads_25 : decode prog_1_method_20_code 25 = .ok (.aload_n 0, 1) := by decide +kernel
theorem d_LA_leads_26 : decode prog_1_method_20_code 26 = .ok (.getfield 28, 3) := by decide +kernel
theorem d_LA_leads_29 : decode prog_1_method_20_code 29 = .ok (.iload_n 2, 1) := by decide +kernel
theorem d_LA_leads_30 : decode prog_1_method_20_code 30 = .ok (.aaload, 1) := by decide +kernel
theorem d_LA_leads_31 : decode prog_1_method_20_code 31 = .ok (.invokevirtual 194, 3) := by decide +kernel
theorem d_LA_leads_34 : decode prog_1_method_20_code 34 = .ok (.if_icmp .ne (7), 3) := by decide +kernel
theorem d_LA_leads_37 : decode prog_1_method_20_code 37 = .ok (.iconst 1, 1) := by decide +kernel
theorem d_LA_leads_38 : decode prog_1_method_20_code 38 = .ok (.goto (4), 3) := by decide +kernel
theorem d_LA_leads_41 : decode prog_1_method_20_code 41 = .ok (.iconst 0, 1) := by decide +kernel
theorem d_LA_leads_42 : decode prog_1_method_20_code 42 = .ok (.ireturn, 1) := by decide +kernel
theorem d_LA_quiet_0 : decode prog_1_method_21_code 0 = .ok (.iconst 0, 1) := by decide +kernel
theorem d_LA_quiet_1 : decode prog_1_method_21_code 1 = .ok (.istore_n 1, 1) := by decide +kernel
theorem d_LA_quiet_2 : decode prog_1_method_21_code 2 = .ok (.iload_n 1, 1) := by decide +kernel
theorem d_LA_quiet_3 : decode prog_1_method_21_code 3 = .ok (.iconst 3, 1) := by decide +kernel
theorem d_LA_quiet_4 : decode prog_1_method_21_code 4 = .ok (.if_icmp .ge (23), 3) := by decide +kernel
theorem d_LA_quiet_7 : decode prog_1_method_21_code 7 = .ok (.aload_n 0, 1) := by decide +kernel
theorem d_LA_quiet_8 : decode prog_1_method_21_code 8 = .ok (.getfield 28, 3) := by decide +kernel
theorem d_LA_quiet_11 : decode prog_1_method_21_code 11 = .ok (.iload_n 1, 1) := by decide +kernel
theorem d_LA_quiet_12 : decode prog_1_method_21_code 12 = .ok (.aaload, 1) := by decide +kernel
theorem d_LA_quiet_13 : decode prog_1_method_21_code 13 = .ok (.getfield 130, 3) := by decide +kernel
theorem d_LA_quiet_16 : decode prog_1_method_21_code 16 = .ok (.ifCond .eq (5), 3) := by decide +kernel
theorem d_LA_quiet_19 : decode prog_1_method_21_code 19 = .ok (.iconst 0, 1) := by decide +kernel
theorem d_LA_quiet_20 : decode prog_1_method_21_code 20 = .ok (.ireturn, 1) := by decide +kernel
theorem d_LA_quiet_21 : decode prog_1_method_21_code 21 = .ok (.iinc 1 1, 3) := by decide +kernel
theorem d_LA_quiet_24 : decode prog_1_method_21_code 24 = .ok (.goto (-22), 3) := by decide +kernel
theorem d_LA_quiet_27 : decode prog_1_method_21_code 27 = .ok (.aload_n 0, 1) := by decide +kernel
theorem d_LA_quiet_28 : decode prog_1_method_21_code 28 = .ok (.getfield 47, 3) := by decide +kernel
theorem d_LA_quiet_31 : decode prog_1_method_21_code 31 = .ok (.invokevirtual 197, 3) := by decide +kernel
theorem d_LA_quiet_34 : decode prog_1_method_21_code 34 = .ok (.ireturn, 1) := by decide +kernel
