theorem dX8_whySwap_0 : decode cX8_whySwap 0 = .ok (.aload_n 0, 1) := by decide +kernel
theorem dX8_whySwap_1 : decode cX8_whySwap 1 = .ok (.iload_n 1, 1) := by decide +kernel
theorem dX8_whySwap_2 : decode cX8_whySwap 2 = .ok (.iload_n 2, 1) := by decide +kernel
theorem dX8_whySwap_3 : decode cX8_whySwap 3 = .ok (.iload_n 3, 1) := by decide +kernel
theorem dX8_whySwap_4 : decode cX8_whySwap 4 = .ok (.iload 4, 2) := by decide +kernel
theorem dX8_whySwap_6 : decode cX8_whySwap 6 = .ok (.invokevirtual 373, 3) := by decide +kernel
theorem dX8_whySwap_9 : decode cX8_whySwap 9 = .ok (.aload_n 0, 1) := by decide +kernel
theorem dX8_whySwap_10 : decode cX8_whySwap 10 = .ok (.getfield 26, 3) := by decide +kernel
theorem dX8_whySwap_13 : decode cX8_whySwap 13 = .ok (.iload_n 1, 1) := by decide +kernel
theorem dX8_whySwap_14 : decode cX8_whySwap 14 = .ok (.iload_n 2, 1) := by decide +kernel
theorem dX8_whySwap_15 : decode cX8_whySwap 15 = .ok (.iload_n 3, 1) := by decide +kernel
theorem dX8_whySwap_16 : decode cX8_whySwap 16 = .ok (.iload 4, 2) := by decide +kernel
theorem dX8_whySwap_18 : decode cX8_whySwap 18 = .ok (.invokevirtual 376, 3) := by decide +kernel
theorem dX8_whySwap_21 : decode cX8_whySwap 21 = .ok (.ireturn, 1) := by decide +kernel
theorem dX8_whyLend_0 : decode cX8_whyLend 0 = .ok (.aload_n 0, 1) := by decide +kernel
theorem dX8_whyLend_1 : decode cX8_whyLend 1 = .ok (.iload_n 1, 1) := by decide +kernel
theorem dX8_whyLend_2 : decode cX8_whyLend 2 = .ok (.iload_n 2, 1) := by decide +kernel
theorem dX8_whyLend_3 : decode cX8_whyLend 3 = .ok (.iload_n 3, 1) := by decide +kernel
theorem dX8_whyLend_4 : decode cX8_whyLend 4 = .ok (.iload 4, 2) := by decide +kernel
theorem dX8_whyLend_6 : decode cX8_whyLend 6 = .ok (.invokevirtual 379, 3) := by decide +kernel
theorem dX8_whyLend_9 : decode cX8_whyLend 9 = .ok (.aload_n 0, 1) := by decide +kernel
theorem dX8_whyLend_10 : decode cX8_whyLend 10 = .ok (.getfield 26, 3) := by decide +kernel
theorem dX8_whyLend_13 : decode cX8_whyLend 13 = .ok (.iload_n 1, 1) := by decide +kernel
theorem dX8_whyLend_14 : decode cX8_whyLend 14 = .ok (.iload_n 2, 1) := by decide +kernel
theorem dX8_whyLend_15 : decode cX8_whyLend 15 = .ok (.iload_n 3, 1) := by decide +kernel
theorem dX8_whyLend_16 : decode cX8_whyLend 16 = .ok (.iload 4, 2) := by decide +kernel
theorem dX8_whyLend_18 : decode cX8_whyLend 18 = .ok (.invokevirtual 382, 3) := by decide +kernel
theorem dX8_whyLend_21 : decode cX8_whyLend 21 = .ok (.ireturn, 1) := by decide +kernel
theorem dX8_safestBench_0 : decode cX8_safestBench 0 = .ok (.aload_n 0, 1) := by decide +kernel
theorem dX8_safestBench_1 : decode cX8_safestBench 1 = .ok (.iload_n 1, 1) := by decide +kernel
theorem dX8_safestBench_2 : decode cX8_safestBench 2 = .ok (.invokevirtual 200, 3) := by decide +kernel
theorem dX8_safestBench_5 : decode cX8_safestBench 5 = .ok (.iconst (-1), 1) := by decide +kernel
theorem dX8_safestBench_6 : decode cX8_safestBench 6 = .ok (.istore_n 2, 1) := by decide +kernel
theorem dX8_safestBench_7 : decode cX8_safestBench 7 = .ok (.bipush 12, 2) := by decide +kernel
theorem dX8_safestBench_9 : decode cX8_safestBench 9 = .ok (.istore_n 3, 1) := by decide +kernel
theorem dX8_safestBench_10 : decode cX8_safestBench 10 = .ok (.iconst 0, 1) := by decide +kernel
theorem dX8_safestBench_11 : decode cX8_safestBench 11 = .ok (.istore 4, 2) := by decide +kernel
theorem dX8_safestBench_13 : decode cX8_safestBench 13 = .ok (.iload 4, 2) := by decide +kernel
theorem dX8_safestBench_15 : decode cX8_safestBench 15 = .ok (.bipush 36, 2) := by decide +kernel
theorem dX8_safestBench_17 : decode cX8_safestBench 17 = .ok (.if_icmp .ge 64, 3) := by decide +kernel
theorem dX8_safestBench_20 : decode cX8_safestBench 20 = .ok (.iload 4, 2) := by decide +kernel
theorem dX8_safestBench_22 : decode cX8_safestBench 22 = .ok (.bipush 6, 2) := by decide +kernel
theorem dX8_safestBench_24 : decode cX8_safestBench 24 = .ok (.idiv, 1) := by decide +kernel
theorem dX8_safestBench_25 : decode cX8_safestBench 25 = .ok (.istore 5, 2) := by decide +kernel
theorem dX8_safestBench_27 : decode cX8_safestBench 27 = .ok (.iload 4, 2) := by decide +kernel
theorem dX8_safestBench_29 : decode cX8_safestBench 29 = .ok (.bipush 6, 2) := by decide +kernel
theorem dX8_safestBench_31 : decode cX8_safestBench 31 = .ok (.irem, 1) := by decide +kernel
theorem dX8_safestBench_32 : decode cX8_safestBench 32 = .ok (.istore 6, 2) := by decide +kernel
theorem dX8_safestBench_34 : decode cX8_safestBench 34 = .ok (.aload_n 0, 1) := by decide +kernel
theorem dX8_safestBench_35 : decode cX8_safestBench 35 = .ok (.getfield 26, 3) := by decide +kernel
theorem dX8_safestBench_38 : decode cX8_safestBench 38 = .ok (.iload_n 1, 1) := by decide +kernel
theorem dX8_safestBench_39 : decode cX8_safestBench 39 = .ok (.iload 5, 2) := by decide +kernel
theorem dX8_safestBench_41 : decode cX8_safestBench 41 = .ok (.iload 6, 2) := by decide +kernel
theorem dX8_safestBench_43 : decode cX8_safestBench 43 = .ok (.invokevirtual 370, 3) := by decide +kernel
theorem dX8_safestBench_46 : decode cX8_safestBench 46 = .ok (.istore 7, 2) := by decide +kernel
theorem dX8_safestBench_48 : decode cX8_safestBench 48 = .ok (.aload_n 0, 1) := by decide +kernel
theorem dX8_safestBench_49 : decode cX8_safestBench 49 = .ok (.getfield 26, 3) := by decide +kernel
theorem dX8_safestBench_52 : decode cX8_safestBench 52 = .ok (.iload 5, 2) := by decide +kernel
theorem dX8_safestBench_54 : decode cX8_safestBench 54 = .ok (.iload 6, 2) := by decide +kernel
theorem dX8_safestBench_56 : decode cX8_safestBench 56 = .ok (.invokevirtual 304, 3) := by decide +kernel
theorem dX8_safestBench_59 : decode cX8_safestBench 59 = .ok (.iconst (-1), 1) := by decide +kernel
theorem dX8_safestBench_60 : decode cX8_safestBench 60 = .ok (.if_icmp .ne 15, 3) := by decide +kernel
theorem dX8_safestBench_63 : decode cX8_safestBench 63 = .ok (.iload 7, 2) := by decide +kernel
theorem dX8_safestBench_65 : decode cX8_safestBench 65 = .ok (.iload_n 3, 1) := by decide +kernel
theorem dX8_safestBench_66 : decode cX8_safestBench 66 = .ok (.if_icmp .ge 9, 3) := by decide +kernel
theorem dX8_safestBench_69 : decode cX8_safestBench 69 = .ok (.iload 4, 2) := by decide +kernel
theorem dX8_safestBench_71 : decode cX8_safestBench 71 = .ok (.istore_n 2, 1) := by decide +kernel
theorem dX8_safestBench_72 : decode cX8_safestBench 72 = .ok (.iload 7, 2) := by decide +kernel
theorem dX8_safestBench_74 : decode cX8_safestBench 74 = .ok (.istore_n 3, 1) := by decide +kernel
theorem dX8_safestBench_75 : decode cX8_safestBench 75 = .ok (.iinc 4 1, 3) := by decide +kernel
theorem dX8_safestBench_78 : decode cX8_safestBench 78 = .ok (.goto (-65), 3) := by decide +kernel
theorem dX8_safestBench_81 : decode cX8_safestBench 81 = .ok (.iload_n 2, 1) := by decide +kernel
theorem dX8_safestBench_82 : decode cX8_safestBench 82 = .ok (.ireturn, 1) := by decide +kernel
theorem dX8_work_0 : decode cX8_work 0 = .ok (.aload_n 0, 1) := by decide +kernel
theorem dX8_work_1 : decode cX8_work 1 = .ok (.iload_n 1, 1) := by decide +kernel
theorem dX8_work_2 : decode cX8_work 2 = .ok (.invokevirtual 200, 3) := by decide +kernel
theorem dX8_work_5 : decode cX8_work 5 = .ok (.iload_n 2, 1) := by decide +kernel
theorem dX8_work_6 : decode cX8_work 6 = .ok (.invokestatic 260, 3) := by decide +kernel
theorem dX8_work_9 : decode cX8_work 9 = .ok (.iload_n 3, 1) := by decide +kernel
theorem dX8_work_10 : decode cX8_work 10 = .ok (.iconst 1, 1) := by decide +kernel
theorem dX8_work_11 : decode cX8_work 11 = .ok (.bipush 20, 2) := by decide +kernel
theorem dX8_work_13 : decode cX8_work 13 = .ok (.invokestatic 86, 3) := by decide +kernel
theorem dX8_work_16 : decode cX8_work 16 = .ok (.aload_n 0, 1) := by decide +kernel
theorem dX8_work_17 : decode cX8_work 17 = .ok (.iload_n 1, 1) := by decide +kernel
theorem dX8_work_18 : decode cX8_work 18 = .ok (.iload_n 2, 1) := by decide +kernel
theorem dX8_work_19 : decode cX8_work 19 = .ok (.iload_n 3, 1) := by decide +kernel
theorem dX8_work_20 : decode cX8_work 20 = .ok (.invokevirtual 139, 3) := by decide +kernel
theorem dX8_work_23 : decode cX8_work 23 = .ok (.ireturn, 1) := by decide +kernel
theorem dX8_swap_0 : decode cX8_swap 0 = .ok (.aload_n 0, 1) := by decide +kernel
theorem dX8_swap_1 : decode cX8_swap 1 = .ok (.iload_n 1, 1) := by decide +kernel
theorem dX8_swap_2 : decode cX8_swap 2 = .ok (.iload_n 2, 1) := by decide +kernel
theorem dX8_swap_3 : decode cX8_swap 3 = .ok (.iload_n 3, 1) := by decide +kernel
theorem dX8_swap_4 : decode cX8_swap 4 = .ok (.iload 4, 2) := by decide +kernel
theorem dX8_swap_6 : decode cX8_swap 6 = .ok (.invokevirtual 373, 3) := by decide +kernel
theorem dX8_swap_9 : decode cX8_swap 9 = .ok (.aload_n 0, 1) := by decide +kernel
theorem dX8_swap_10 : decode cX8_swap 10 = .ok (.iload_n 1, 1) := by decide +kernel
theorem dX8_swap_11 : decode cX8_swap 11 = .ok (.iload_n 2, 1) := by decide +kernel
theorem dX8_swap_12 : decode cX8_swap 12 = .ok (.iload_n 3, 1) := by decide +kernel
theorem dX8_swap_13 : decode cX8_swap 13 = .ok (.iload 4, 2) := by decide +kernel
theorem dX8_swap_15 : decode cX8_swap 15 = .ok (.invokevirtual 143, 3) := by decide +kernel
theorem dX8_swap_18 : decode cX8_swap 18 = .ok (.ireturn, 1) := by decide +kernel
theorem dX8_lend_0 : decode cX8_lend 0 = .ok (.aload_n 0, 1) := by decide +kernel
theorem dX8_lend_1 : decode cX8_lend 1 = .ok (.iload_n 1, 1) := by decide +kernel
theorem dX8_lend_2 : decode cX8_lend 2 = .ok (.iload_n 2, 1) := by decide +kernel
theorem dX8_lend_3 : decode cX8_lend 3 = .ok (.iload_n 3, 1) := by decide +kernel
theorem dX8_lend_4 : decode cX8_lend 4 = .ok (.iload 4, 2) := by decide +kernel
theorem dX8_lend_6 : decode cX8_lend 6 = .ok (.invokevirtual 379, 3) := by decide +kernel
theorem dX8_lend_9 : decode cX8_lend 9 = .ok (.aload_n 0, 1) := by decide +kernel
theorem dX8_lend_10 : decode cX8_lend 10 = .ok (.iload_n 1, 1) := by decide +kernel
theorem dX8_lend_11 : decode cX8_lend 11 = .ok (.iload_n 2, 1) := by decide +kernel
theorem dX8_lend_12 : decode cX8_lend 12 = .ok (.iload_n 3, 1) := by decide +kernel
theorem dX8_lend_13 : decode cX8_lend 13 = .ok (.iload 4, 2) := by decide +kernel
theorem dX8_lend_15 : decode cX8_lend 15 = .ok (.invokevirtual 147, 3) := by decide +kernel
theorem dX8_lend_18 : decode cX8_lend 18 = .ok (.ireturn, 1) := by decide +kernel
theorem dX8_payBack_0 : decode cX8_payBack 0 = .ok (.aload_n 0, 1) := by decide +kernel
theorem dX8_payBack_1 : decode cX8_payBack 1 = .ok (.iload_n 1, 1) := by decide +kernel
theorem dX8_payBack_2 : decode cX8_payBack 2 = .ok (.iload_n 2, 1) := by decide +kernel
theorem dX8_payBack_3 : decode cX8_payBack 3 = .ok (.iload_n 3, 1) := by decide +kernel
theorem dX8_payBack_4 : decode cX8_payBack 4 = .ok (.iload 4, 2) := by decide +kernel
theorem dX8_payBack_6 : decode cX8_payBack 6 = .ok (.invokevirtual 379, 3) := by decide +kernel
theorem dX8_payBack_9 : decode cX8_payBack 9 = .ok (.aload_n 0, 1) := by decide +kernel
theorem dX8_payBack_10 : decode cX8_payBack 10 = .ok (.iload_n 1, 1) := by decide +kernel
theorem dX8_payBack_11 : decode cX8_payBack 11 = .ok (.iload_n 2, 1) := by decide +kernel
theorem dX8_payBack_12 : decode cX8_payBack 12 = .ok (.iload_n 3, 1) := by decide +kernel
theorem dX8_payBack_13 : decode cX8_payBack 13 = .ok (.iload 4, 2) := by decide +kernel
theorem dX8_payBack_15 : decode cX8_payBack 15 = .ok (.invokevirtual 150, 3) := by decide +kernel
theorem dX8_payBack_18 : decode cX8_payBack 18 = .ok (.ireturn, 1) := by decide +kernel
theorem dX8_move_0 : decode cX8_move 0 = .ok (.aload_n 0, 1) := by decide +kernel
theorem dX8_move_1 : decode cX8_move 1 = .ok (.iload_n 1, 1) := by decide +kernel
theorem dX8_move_2 : decode cX8_move 2 = .ok (.invokevirtual 200, 3) := by decide +kernel
theorem dX8_move_5 : decode cX8_move 5 = .ok (.iload_n 2, 1) := by decide +kernel
theorem dX8_move_6 : decode cX8_move 6 = .ok (.iload_n 3, 1) := by decide +kernel
theorem dX8_move_7 : decode cX8_move 7 = .ok (.invokestatic 300, 3) := by decide +kernel
theorem dX8_move_10 : decode cX8_move 10 = .ok (.aload_n 0, 1) := by decide +kernel
theorem dX8_move_11 : decode cX8_move 11 = .ok (.iload_n 1, 1) := by decide +kernel
theorem dX8_move_12 : decode cX8_move 12 = .ok (.iload_n 2, 1) := by decide +kernel
theorem dX8_move_13 : decode cX8_move 13 = .ok (.iload_n 3, 1) := by decide +kernel
theorem dX8_move_14 : decode cX8_move 14 = .ok (.invokevirtual 153, 3) := by decide +kernel
theorem dX8_move_17 : decode cX8_move 17 = .ok (.ireturn, 1) := by decide +kernel
theorem dX8_confess_0 : decode cX8_confess 0 = .ok (.aload_n 0, 1) := by decide +kernel
theorem dX8_confess_1 : decode cX8_confess 1 = .ok (.iload_n 1, 1) := by decide +kernel
theorem dX8_confess_2 : decode cX8_confess 2 = .ok (.invokevirtual 200, 3) := by decide +kernel
theorem dX8_confess_5 : decode cX8_confess 5 = .ok (.aload_n 0, 1) := by decide +kernel
theorem dX8_confess_6 : decode cX8_confess 6 = .ok (.iload_n 1, 1) := by decide +kernel
theorem dX8_confess_7 : decode cX8_confess 7 = .ok (.invokevirtual 156, 3) := by decide +kernel
theorem dX8_confess_10 : decode cX8_confess 10 = .ok (.ireturn, 1) := by decide +kernel
theorem dX8_pass_0 : decode cX8_pass 0 = .ok (.iload_n 1, 1) := by decide +kernel
theorem dX8_pass_1 : decode cX8_pass 1 = .ok (.iconst 1, 1) := by decide +kernel
theorem dX8_pass_2 : decode cX8_pass 2 = .ok (.bipush 10, 2) := by decide +kernel
theorem dX8_pass_4 : decode cX8_pass 4 = .ok (.invokestatic 86, 3) := by decide +kernel
theorem dX8_pass_7 : decode cX8_pass 7 = .ok (.aload_n 0, 1) := by decide +kernel
theorem dX8_pass_8 : decode cX8_pass 8 = .ok (.iload_n 1, 1) := by decide +kernel
theorem dX8_pass_9 : decode cX8_pass 9 = .ok (.invokevirtual 132, 3) := by decide +kernel
theorem dX8_pass_12 : decode cX8_pass 12 = .ok (.ireturn, 1) := by decide +kernel
theorem dX8_doWork_0 : decode cX8_doWork 0 = .ok (.aload_n 0, 1) := by decide +kernel
theorem dX8_doWork_1 : decode cX8_doWork 1 = .ok (.getfield 26, 3) := by decide +kernel
theorem dX8_doWork_4 : decode cX8_doWork 4 = .ok (.iload_n 1, 1) := by decide +kernel
theorem dX8_doWork_5 : decode cX8_doWork 5 = .ok (.iload_n 2, 1) := by decide +kernel
theorem dX8_doWork_6 : decode cX8_doWork 6 = .ok (.iload_n 3, 1) := by decide +kernel
theorem dX8_doWork_7 : decode cX8_doWork 7 = .ok (.invokevirtual 388, 3) := by decide +kernel
theorem dX8_doWork_10 : decode cX8_doWork 10 = .ok (.istore 4, 2) := by decide +kernel
theorem dX8_doWork_12 : decode cX8_doWork 12 = .ok (.iload 4, 2) := by decide +kernel
theorem dX8_doWork_14 : decode cX8_doWork 14 = .ok (.ifCond .eq 10, 3) := by decide +kernel
theorem dX8_doWork_17 : decode cX8_doWork 17 = .ok (.aload_n 0, 1) := by decide +kernel
theorem dX8_doWork_18 : decode cX8_doWork 18 = .ok (.iload 4, 2) := by decide +kernel
theorem dX8_doWork_20 : decode cX8_doWork 20 = .ok (.invokevirtual 391, 3) := by decide +kernel
theorem dX8_doWork_23 : decode cX8_doWork 23 = .ok (.ireturn, 1) := by decide +kernel
theorem dX8_doWork_24 : decode cX8_doWork 24 = .ok (.aload_n 0, 1) := by decide +kernel
theorem dX8_doWork_25 : decode cX8_doWork 25 = .ok (.getfield 36, 3) := by decide +kernel
theorem dX8_doWork_28 : decode cX8_doWork 28 = .ok (.aload_n 0, 1) := by decide +kernel
theorem dX8_doWork_29 : decode cX8_doWork 29 = .ok (.getfield 26, 3) := by decide +kernel
theorem dX8_doWork_32 : decode cX8_doWork 32 = .ok (.invokevirtual 394, 3) := by decide +kernel
theorem dX8_doWork_35 : decode cX8_doWork 35 = .ok (.aload_n 0, 1) := by decide +kernel
theorem dX8_doWork_36 : decode cX8_doWork 36 = .ok (.getfield 26, 3) := by decide +kernel
theorem dX8_doWork_39 : decode cX8_doWork 39 = .ok (.iload_n 1, 1) := by decide +kernel
theorem dX8_doWork_40 : decode cX8_doWork 40 = .ok (.iload_n 2, 1) := by decide +kernel
theorem dX8_doWork_41 : decode cX8_doWork 41 = .ok (.iload_n 3, 1) := by decide +kernel
theorem dX8_doWork_42 : decode cX8_doWork 42 = .ok (.invokevirtual 397, 3) := by decide +kernel
theorem dX8_doWork_45 : decode cX8_doWork 45 = .ok (.ireturn, 1) := by decide +kernel
theorem dX8_doSwap_0 : decode cX8_doSwap 0 = .ok (.aload_n 0, 1) := by decide +kernel
theorem dX8_doSwap_1 : decode cX8_doSwap 1 = .ok (.getfield 26, 3) := by decide +kernel
theorem dX8_doSwap_4 : decode cX8_doSwap 4 = .ok (.iload_n 1, 1) := by decide +kernel
theorem dX8_doSwap_5 : decode cX8_doSwap 5 = .ok (.iload_n 2, 1) := by decide +kernel
theorem dX8_doSwap_6 : decode cX8_doSwap 6 = .ok (.iload_n 3, 1) := by decide +kernel
theorem dX8_doSwap_7 : decode cX8_doSwap 7 = .ok (.iload 4, 2) := by decide +kernel
theorem dX8_doSwap_9 : decode cX8_doSwap 9 = .ok (.invokevirtual 376, 3) := by decide +kernel
theorem dX8_doSwap_12 : decode cX8_doSwap 12 = .ok (.istore 5, 2) := by decide +kernel
theorem dX8_doSwap_14 : decode cX8_doSwap 14 = .ok (.iload 5, 2) := by decide +kernel
theorem dX8_doSwap_16 : decode cX8_doSwap 16 = .ok (.ifCond .eq 10, 3) := by decide +kernel
theorem dX8_doSwap_19 : decode cX8_doSwap 19 = .ok (.aload_n 0, 1) := by decide +kernel
theorem dX8_doSwap_20 : decode cX8_doSwap 20 = .ok (.iload 5, 2) := by decide +kernel
theorem dX8_doSwap_22 : decode cX8_doSwap 22 = .ok (.invokevirtual 391, 3) := by decide +kernel
theorem dX8_doSwap_25 : decode cX8_doSwap 25 = .ok (.ireturn, 1) := by decide +kernel
theorem dX8_doSwap_26 : decode cX8_doSwap 26 = .ok (.aload_n 0, 1) := by decide +kernel
theorem dX8_doSwap_27 : decode cX8_doSwap 27 = .ok (.getfield 36, 3) := by decide +kernel
theorem dX8_doSwap_30 : decode cX8_doSwap 30 = .ok (.aload_n 0, 1) := by decide +kernel
theorem dX8_doSwap_31 : decode cX8_doSwap 31 = .ok (.getfield 26, 3) := by decide +kernel
theorem dX8_doSwap_34 : decode cX8_doSwap 34 = .ok (.invokevirtual 394, 3) := by decide +kernel
theorem dX8_doSwap_37 : decode cX8_doSwap 37 = .ok (.aload_n 0, 1) := by decide +kernel
theorem dX8_doSwap_38 : decode cX8_doSwap 38 = .ok (.getfield 26, 3) := by decide +kernel
theorem dX8_doSwap_41 : decode cX8_doSwap 41 = .ok (.iload_n 1, 1) := by decide +kernel
theorem dX8_doSwap_42 : decode cX8_doSwap 42 = .ok (.iload_n 2, 1) := by decide +kernel
theorem dX8_doSwap_43 : decode cX8_doSwap 43 = .ok (.iload_n 3, 1) := by decide +kernel
theorem dX8_doSwap_44 : decode cX8_doSwap 44 = .ok (.iload 4, 2) := by decide +kernel
theorem dX8_doSwap_46 : decode cX8_doSwap 46 = .ok (.invokevirtual 400, 3) := by decide +kernel
theorem dX8_doSwap_49 : decode cX8_doSwap 49 = .ok (.ireturn, 1) := by decide +kernel
theorem dX8_doLend_0 : decode cX8_doLend 0 = .ok (.aload_n 0, 1) := by decide +kernel
theorem dX8_doLend_1 : decode cX8_doLend 1 = .ok (.getfield 26, 3) := by decide +kernel
theorem dX8_doLend_4 : decode cX8_doLend 4 = .ok (.iload_n 1, 1) := by decide +kernel
theorem dX8_doLend_5 : decode cX8_doLend 5 = .ok (.iload_n 2, 1) := by decide +kernel
theorem dX8_doLend_6 : decode cX8_doLend 6 = .ok (.iload_n 3, 1) := by decide +kernel
theorem dX8_doLend_7 : decode cX8_doLend 7 = .ok (.iload 4, 2) := by decide +kernel
theorem dX8_doLend_9 : decode cX8_doLend 9 = .ok (.invokevirtual 382, 3) := by decide +kernel
theorem dX8_doLend_12 : decode cX8_doLend 12 = .ok (.istore 5, 2) := by decide +kernel
theorem dX8_doLend_14 : decode cX8_doLend 14 = .ok (.iload 5, 2) := by decide +kernel
theorem dX8_doLend_16 : decode cX8_doLend 16 = .ok (.ifCond .eq 10, 3) := by decide +kernel
theorem dX8_doLend_19 : decode cX8_doLend 19 = .ok (.aload_n 0, 1) := by decide +kernel
theorem dX8_doLend_20 : decode cX8_doLend 20 = .ok (.iload 5, 2) := by decide +kernel
theorem dX8_doLend_22 : decode cX8_doLend 22 = .ok (.invokevirtual 391, 3) := by decide +kernel
theorem dX8_doLend_25 : decode cX8_doLend 25 = .ok (.ireturn, 1) := by decide +kernel
theorem dX8_doLend_26 : decode cX8_doLend 26 = .ok (.aload_n 0, 1) := by decide +kernel
theorem dX8_doLend_27 : decode cX8_doLend 27 = .ok (.getfield 36, 3) := by decide +kernel
theorem dX8_doLend_30 : decode cX8_doLend 30 = .ok (.aload_n 0, 1) := by decide +kernel
theorem dX8_doLend_31 : decode cX8_doLend 31 = .ok (.getfield 26, 3) := by decide +kernel
theorem dX8_doLend_34 : decode cX8_doLend 34 = .ok (.invokevirtual 394, 3) := by decide +kernel
theorem dX8_doLend_37 : decode cX8_doLend 37 = .ok (.aload_n 0, 1) := by decide +kernel
theorem dX8_doLend_38 : decode cX8_doLend 38 = .ok (.getfield 26, 3) := by decide +kernel
theorem dX8_doLend_41 : decode cX8_doLend 41 = .ok (.iload_n 1, 1) := by decide +kernel
theorem dX8_doLend_42 : decode cX8_doLend 42 = .ok (.iload_n 2, 1) := by decide +kernel
theorem dX8_doLend_43 : decode cX8_doLend 43 = .ok (.iload_n 3, 1) := by decide +kernel
theorem dX8_doLend_44 : decode cX8_doLend 44 = .ok (.iload 4, 2) := by decide +kernel
theorem dX8_doLend_46 : decode cX8_doLend 46 = .ok (.invokevirtual 403, 3) := by decide +kernel
theorem dX8_doLend_49 : decode cX8_doLend 49 = .ok (.ireturn, 1) := by decide +kernel
theorem dX8_doPay_0 : decode cX8_doPay 0 = .ok (.aload_n 0, 1) := by decide +kernel
theorem dX8_doPay_1 : decode cX8_doPay 1 = .ok (.getfield 26, 3) := by decide +kernel
theorem dX8_doPay_4 : decode cX8_doPay 4 = .ok (.iload_n 1, 1) := by decide +kernel
theorem dX8_doPay_5 : decode cX8_doPay 5 = .ok (.iload_n 2, 1) := by decide +kernel
theorem dX8_doPay_6 : decode cX8_doPay 6 = .ok (.iload_n 3, 1) := by decide +kernel
theorem dX8_doPay_7 : decode cX8_doPay 7 = .ok (.iload 4, 2) := by decide +kernel
theorem dX8_doPay_9 : decode cX8_doPay 9 = .ok (.invokevirtual 344, 3) := by decide +kernel
theorem dX8_doPay_12 : decode cX8_doPay 12 = .ok (.istore 5, 2) := by decide +kernel
theorem dX8_doPay_14 : decode cX8_doPay 14 = .ok (.iload 5, 2) := by decide +kernel
theorem dX8_doPay_16 : decode cX8_doPay 16 = .ok (.ifCond .eq 10, 3) := by decide +kernel
theorem dX8_doPay_19 : decode cX8_doPay 19 = .ok (.aload_n 0, 1) := by decide +kernel
theorem dX8_doPay_20 : decode cX8_doPay 20 = .ok (.iload 5, 2) := by decide +kernel
theorem dX8_doPay_22 : decode cX8_doPay 22 = .ok (.invokevirtual 391, 3) := by decide +kernel
theorem dX8_doPay_25 : decode cX8_doPay 25 = .ok (.ireturn, 1) := by decide +kernel
theorem dX8_doPay_26 : decode cX8_doPay 26 = .ok (.aload_n 0, 1) := by decide +kernel
theorem dX8_doPay_27 : decode cX8_doPay 27 = .ok (.getfield 36, 3) := by decide +kernel
theorem dX8_doPay_30 : decode cX8_doPay 30 = .ok (.aload_n 0, 1) := by decide +kernel
theorem dX8_doPay_31 : decode cX8_doPay 31 = .ok (.getfield 26, 3) := by decide +kernel
theorem dX8_doPay_34 : decode cX8_doPay 34 = .ok (.invokevirtual 394, 3) := by decide +kernel
theorem dX8_doPay_37 : decode cX8_doPay 37 = .ok (.aload_n 0, 1) := by decide +kernel
theorem dX8_doPay_38 : decode cX8_doPay 38 = .ok (.getfield 26, 3) := by decide +kernel
theorem dX8_doPay_41 : decode cX8_doPay 41 = .ok (.iload_n 1, 1) := by decide +kernel
theorem dX8_doPay_42 : decode cX8_doPay 42 = .ok (.iload_n 2, 1) := by decide +kernel
theorem dX8_doPay_43 : decode cX8_doPay 43 = .ok (.iload_n 3, 1) := by decide +kernel
theorem dX8_doPay_44 : decode cX8_doPay 44 = .ok (.iload 4, 2) := by decide +kernel
theorem dX8_doPay_46 : decode cX8_doPay 46 = .ok (.invokevirtual 406, 3) := by decide +kernel
theorem dX8_doPay_49 : decode cX8_doPay 49 = .ok (.ireturn, 1) := by decide +kernel
theorem dX8_doMove_0 : decode cX8_doMove 0 = .ok (.aload_n 0, 1) := by decide +kernel
theorem dX8_doMove_1 : decode cX8_doMove 1 = .ok (.getfield 26, 3) := by decide +kernel
theorem dX8_doMove_4 : decode cX8_doMove 4 = .ok (.iload_n 1, 1) := by decide +kernel
theorem dX8_doMove_5 : decode cX8_doMove 5 = .ok (.iload_n 2, 1) := by decide +kernel
theorem dX8_doMove_6 : decode cX8_doMove 6 = .ok (.iload_n 3, 1) := by decide +kernel
theorem dX8_doMove_7 : decode cX8_doMove 7 = .ok (.invokevirtual 409, 3) := by decide +kernel
theorem dX8_doMove_10 : decode cX8_doMove 10 = .ok (.istore 4, 2) := by decide +kernel
theorem dX8_doMove_12 : decode cX8_doMove 12 = .ok (.iload 4, 2) := by decide +kernel
theorem dX8_doMove_14 : decode cX8_doMove 14 = .ok (.ifCond .eq 10, 3) := by decide +kernel
theorem dX8_doMove_17 : decode cX8_doMove 17 = .ok (.aload_n 0, 1) := by decide +kernel
theorem dX8_doMove_18 : decode cX8_doMove 18 = .ok (.iload 4, 2) := by decide +kernel
theorem dX8_doMove_20 : decode cX8_doMove 20 = .ok (.invokevirtual 391, 3) := by decide +kernel
theorem dX8_doMove_23 : decode cX8_doMove 23 = .ok (.ireturn, 1) := by decide +kernel
theorem dX8_doMove_24 : decode cX8_doMove 24 = .ok (.aload_n 0, 1) := by decide +kernel
theorem dX8_doMove_25 : decode cX8_doMove 25 = .ok (.getfield 36, 3) := by decide +kernel
theorem dX8_doMove_28 : decode cX8_doMove 28 = .ok (.aload_n 0, 1) := by decide +kernel
theorem dX8_doMove_29 : decode cX8_doMove 29 = .ok (.getfield 26, 3) := by decide +kernel
theorem dX8_doMove_32 : decode cX8_doMove 32 = .ok (.invokevirtual 394, 3) := by decide +kernel
theorem dX8_doMove_35 : decode cX8_doMove 35 = .ok (.aload_n 0, 1) := by decide +kernel
theorem dX8_doMove_36 : decode cX8_doMove 36 = .ok (.getfield 26, 3) := by decide +kernel
theorem dX8_doMove_39 : decode cX8_doMove 39 = .ok (.iload_n 1, 1) := by decide +kernel
theorem dX8_doMove_40 : decode cX8_doMove 40 = .ok (.iload_n 2, 1) := by decide +kernel
theorem dX8_doMove_41 : decode cX8_doMove 41 = .ok (.iload_n 3, 1) := by decide +kernel
theorem dX8_doMove_42 : decode cX8_doMove 42 = .ok (.invokevirtual 412, 3) := by decide +kernel
theorem dX8_doMove_45 : decode cX8_doMove 45 = .ok (.ireturn, 1) := by decide +kernel
theorem dX8_doConfess_0 : decode cX8_doConfess 0 = .ok (.aload_n 0, 1) := by decide +kernel
theorem dX8_doConfess_1 : decode cX8_doConfess 1 = .ok (.getfield 26, 3) := by decide +kernel
theorem dX8_doConfess_4 : decode cX8_doConfess 4 = .ok (.getfield 203, 3) := by decide +kernel
theorem dX8_doConfess_7 : decode cX8_doConfess 7 = .ok (.iload_n 1, 1) := by decide +kernel
theorem dX8_doConfess_8 : decode cX8_doConfess 8 = .ok (.aaload, 1) := by decide +kernel
theorem dX8_doConfess_9 : decode cX8_doConfess 9 = .ok (.getfield 225, 3) := by decide +kernel
theorem dX8_doConfess_12 : decode cX8_doConfess 12 = .ok (.ifCond .ne 10, 3) := by decide +kernel
theorem dX8_doConfess_15 : decode cX8_doConfess 15 = .ok (.aload_n 0, 1) := by decide +kernel
theorem dX8_doConfess_16 : decode cX8_doConfess 16 = .ok (.bipush 8, 2) := by decide +kernel
theorem dX8_doConfess_18 : decode cX8_doConfess 18 = .ok (.invokevirtual 391, 3) := by decide +kernel
theorem dX8_doConfess_21 : decode cX8_doConfess 21 = .ok (.ireturn, 1) := by decide +kernel
theorem dX8_doConfess_22 : decode cX8_doConfess 22 = .ok (.aload_n 0, 1) := by decide +kernel
theorem dX8_doConfess_23 : decode cX8_doConfess 23 = .ok (.getfield 36, 3) := by decide +kernel
theorem dX8_doConfess_26 : decode cX8_doConfess 26 = .ok (.aload_n 0, 1) := by decide +kernel
theorem dX8_doConfess_27 : decode cX8_doConfess 27 = .ok (.getfield 26, 3) := by decide +kernel
theorem dX8_doConfess_30 : decode cX8_doConfess 30 = .ok (.invokevirtual 394, 3) := by decide +kernel
theorem dX8_doConfess_33 : decode cX8_doConfess 33 = .ok (.aload_n 0, 1) := by decide +kernel
theorem dX8_doConfess_34 : decode cX8_doConfess 34 = .ok (.getfield 26, 3) := by decide +kernel
theorem dX8_doConfess_37 : decode cX8_doConfess 37 = .ok (.getfield 203, 3) := by decide +kernel
theorem dX8_doConfess_40 : decode cX8_doConfess 40 = .ok (.iload_n 1, 1) := by decide +kernel
theorem dX8_doConfess_41 : decode cX8_doConfess 41 = .ok (.aaload, 1) := by decide +kernel
theorem dX8_doConfess_42 : decode cX8_doConfess 42 = .ok (.invokevirtual 415, 3) := by decide +kernel
theorem dX8_doConfess_45 : decode cX8_doConfess 45 = .ok (.ireturn, 1) := by decide +kernel
theorem dX8_doPass_0 : decode cX8_doPass 0 = .ok (.aload_n 0, 1) := by decide +kernel
theorem dX8_doPass_1 : decode cX8_doPass 1 = .ok (.getfield 26, 3) := by decide +kernel
theorem dX8_doPass_4 : decode cX8_doPass 4 = .ok (.getfield 159, 3) := by decide +kernel
theorem dX8_doPass_7 : decode cX8_doPass 7 = .ok (.iload_n 1, 1) := by decide +kernel
theorem dX8_doPass_8 : decode cX8_doPass 8 = .ok (.iadd, 1) := by decide +kernel
theorem dX8_doPass_9 : decode cX8_doPass 9 = .ok (.sipush 999, 3) := by decide +kernel
theorem dX8_doPass_12 : decode cX8_doPass 12 = .ok (.if_icmp .le 10, 3) := by decide +kernel
theorem dX8_doPass_15 : decode cX8_doPass 15 = .ok (.aload_n 0, 1) := by decide +kernel
theorem dX8_doPass_16 : decode cX8_doPass 16 = .ok (.bipush 10, 2) := by decide +kernel
theorem dX8_doPass_18 : decode cX8_doPass 18 = .ok (.invokevirtual 391, 3) := by decide +kernel
theorem dX8_doPass_21 : decode cX8_doPass 21 = .ok (.ireturn, 1) := by decide +kernel
theorem dX8_doPass_22 : decode cX8_doPass 22 = .ok (.aload_n 0, 1) := by decide +kernel
theorem dX8_doPass_23 : decode cX8_doPass 23 = .ok (.getfield 36, 3) := by decide +kernel
theorem dX8_doPass_26 : decode cX8_doPass 26 = .ok (.aload_n 0, 1) := by decide +kernel
theorem dX8_doPass_27 : decode cX8_doPass 27 = .ok (.getfield 26, 3) := by decide +kernel
theorem dX8_doPass_30 : decode cX8_doPass 30 = .ok (.invokevirtual 394, 3) := by decide +kernel
theorem dX8_doPass_33 : decode cX8_doPass 33 = .ok (.iconst 0, 1) := by decide +kernel
theorem dX8_doPass_34 : decode cX8_doPass 34 = .ok (.istore_n 2, 1) := by decide +kernel
theorem dX8_doPass_35 : decode cX8_doPass 35 = .ok (.iconst 0, 1) := by decide +kernel
theorem dX8_doPass_36 : decode cX8_doPass 36 = .ok (.istore_n 3, 1) := by decide +kernel
theorem dX8_doPass_37 : decode cX8_doPass 37 = .ok (.iload_n 3, 1) := by decide +kernel
theorem dX8_doPass_38 : decode cX8_doPass 38 = .ok (.iload_n 1, 1) := by decide +kernel
theorem dX8_doPass_39 : decode cX8_doPass 39 = .ok (.if_icmp .ge 19, 3) := by decide +kernel
theorem dX8_doPass_42 : decode cX8_doPass 42 = .ok (.iload_n 2, 1) := by decide +kernel
theorem dX8_doPass_43 : decode cX8_doPass 43 = .ok (.aload_n 0, 1) := by decide +kernel
theorem dX8_doPass_44 : decode cX8_doPass 44 = .ok (.getfield 26, 3) := by decide +kernel
theorem dX8_doPass_47 : decode cX8_doPass 47 = .ok (.invokevirtual 364, 3) := by decide +kernel
theorem dX8_doPass_50 : decode cX8_doPass 50 = .ok (.iadd, 1) := by decide +kernel
theorem dX8_doPass_51 : decode cX8_doPass 51 = .ok (.istore_n 2, 1) := by decide +kernel
theorem dX8_doPass_52 : decode cX8_doPass 52 = .ok (.iinc 3 1, 3) := by decide +kernel
theorem dX8_doPass_55 : decode cX8_doPass 55 = .ok (.goto (-18), 3) := by decide +kernel
theorem dX8_doPass_58 : decode cX8_doPass 58 = .ok (.iload_n 2, 1) := by decide +kernel
theorem dX8_doPass_59 : decode cX8_doPass 59 = .ok (.ireturn, 1) := by decide +kernel
theorem dX8_refuse_0 : decode cX8_refuse 0 = .ok (.iload_n 1, 1) := by decide +kernel
theorem dX8_refuse_1 : decode cX8_refuse 1 = .ok (.ifCond .le 22, 3) := by decide +kernel
theorem dX8_refuse_4 : decode cX8_refuse 4 = .ok (.iload_n 1, 1) := by decide +kernel
theorem dX8_refuse_5 : decode cX8_refuse 5 = .ok (.aload_n 0, 1) := by decide +kernel
theorem dX8_refuse_6 : decode cX8_refuse 6 = .ok (.getfield 48, 3) := by decide +kernel
theorem dX8_refuse_9 : decode cX8_refuse 9 = .ok (.arraylength, 1) := by decide +kernel
theorem dX8_refuse_10 : decode cX8_refuse 10 = .ok (.if_icmp .ge 13, 3) := by decide +kernel
theorem dX8_refuse_13 : decode cX8_refuse 13 = .ok (.aload_n 0, 1) := by decide +kernel
theorem dX8_refuse_14 : decode cX8_refuse 14 = .ok (.getfield 48, 3) := by decide +kernel
theorem dX8_refuse_17 : decode cX8_refuse 17 = .ok (.iload_n 1, 1) := by decide +kernel
theorem dX8_refuse_18 : decode cX8_refuse 18 = .ok (.dup2, 1) := by decide +kernel
theorem dX8_refuse_19 : decode cX8_refuse 19 = .ok (.iaload, 1) := by decide +kernel
theorem dX8_refuse_20 : decode cX8_refuse 20 = .ok (.iconst 1, 1) := by decide +kernel
theorem dX8_refuse_21 : decode cX8_refuse 21 = .ok (.iadd, 1) := by decide +kernel
theorem dX8_refuse_22 : decode cX8_refuse 22 = .ok (.iastore, 1) := by decide +kernel
theorem dX8_refuse_23 : decode cX8_refuse 23 = .ok (.iload_n 1, 1) := by decide +kernel
theorem dX8_refuse_24 : decode cX8_refuse 24 = .ok (.ineg, 1) := by decide +kernel
theorem dX8_refuse_25 : decode cX8_refuse 25 = .ok (.ireturn, 1) := by decide +kernel
theorem dX8_undo_0 : decode cX8_undo 0 = .ok (.aload_n 0, 1) := by decide +kernel
theorem dX8_undo_1 : decode cX8_undo 1 = .ok (.getfield 36, 3) := by decide +kernel
theorem dX8_undo_4 : decode cX8_undo 4 = .ok (.getfield 191, 3) := by decide +kernel
theorem dX8_undo_7 : decode cX8_undo 7 = .ok (.ifCond .ne 5, 3) := by decide +kernel
theorem dX8_undo_10 : decode cX8_undo 10 = .ok (.iconst (-1), 1) := by decide +kernel
theorem dX8_undo_11 : decode cX8_undo 11 = .ok (.ireturn, 1) := by decide +kernel
theorem dX8_undo_12 : decode cX8_undo 12 = .ok (.aload_n 0, 1) := by decide +kernel
theorem dX8_undo_13 : decode cX8_undo 13 = .ok (.getfield 36, 3) := by decide +kernel
theorem dX8_undo_16 : decode cX8_undo 16 = .ok (.aload_n 0, 1) := by decide +kernel
theorem dX8_undo_17 : decode cX8_undo 17 = .ok (.getfield 26, 3) := by decide +kernel
theorem dX8_undo_20 : decode cX8_undo 20 = .ok (.invokevirtual 428, 3) := by decide +kernel
theorem dX8_undo_23 : decode cX8_undo 23 = .ok (.aload_n 0, 1) := by decide +kernel
theorem dX8_undo_24 : decode cX8_undo 24 = .ok (.getfield 36, 3) := by decide +kernel
theorem dX8_undo_27 : decode cX8_undo 27 = .ok (.getfield 191, 3) := by decide +kernel
theorem dX8_undo_30 : decode cX8_undo 30 = .ok (.ireturn, 1) := by decide +kernel
theorem dX8_save_0 : decode cX8_save 0 = .ok (.iload_n 1, 1) := by decide +kernel
theorem dX8_save_1 : decode cX8_save 1 = .ok (.iconst 0, 1) := by decide +kernel
theorem dX8_save_2 : decode cX8_save 2 = .ok (.iconst 1, 1) := by decide +kernel
theorem dX8_save_3 : decode cX8_save 3 = .ok (.invokestatic 86, 3) := by decide +kernel
theorem dX8_save_6 : decode cX8_save 6 = .ok (.aload_n 0, 1) := by decide +kernel
theorem dX8_save_7 : decode cX8_save 7 = .ok (.getfield 40, 3) := by decide +kernel
theorem dX8_save_10 : decode cX8_save 10 = .ok (.iload_n 1, 1) := by decide +kernel
theorem dX8_save_11 : decode cX8_save 11 = .ok (.aaload, 1) := by decide +kernel
theorem dX8_save_12 : decode cX8_save 12 = .ok (.aload_n 0, 1) := by decide +kernel
theorem dX8_save_13 : decode cX8_save 13 = .ok (.getfield 26, 3) := by decide +kernel
theorem dX8_save_16 : decode cX8_save 16 = .ok (.invokevirtual 101, 3) := by decide +kernel
theorem dX8_save_19 : decode cX8_save 19 = .ok (.aload_n 0, 1) := by decide +kernel
theorem dX8_save_20 : decode cX8_save 20 = .ok (.getfield 44, 3) := by decide +kernel
theorem dX8_save_23 : decode cX8_save 23 = .ok (.iload_n 1, 1) := by decide +kernel
theorem dX8_save_24 : decode cX8_save 24 = .ok (.iconst 1, 1) := by decide +kernel
theorem dX8_save_25 : decode cX8_save 25 = .ok (.bastore, 1) := by decide +kernel
theorem dX8_save_26 : decode cX8_save 26 = .ok (.return_, 1) := by decide +kernel
theorem dX8_restore_0 : decode cX8_restore 0 = .ok (.iload_n 1, 1) := by decide +kernel
theorem dX8_restore_1 : decode cX8_restore 1 = .ok (.iconst 0, 1) := by decide +kernel
theorem dX8_restore_2 : decode cX8_restore 2 = .ok (.iconst 1, 1) := by decide +kernel
theorem dX8_restore_3 : decode cX8_restore 3 = .ok (.invokestatic 86, 3) := by decide +kernel
theorem dX8_restore_6 : decode cX8_restore 6 = .ok (.aload_n 0, 1) := by decide +kernel
theorem dX8_restore_7 : decode cX8_restore 7 = .ok (.getfield 44, 3) := by decide +kernel
theorem dX8_restore_10 : decode cX8_restore 10 = .ok (.iload_n 1, 1) := by decide +kernel
theorem dX8_restore_11 : decode cX8_restore 11 = .ok (.baload, 1) := by decide +kernel
theorem dX8_restore_12 : decode cX8_restore 12 = .ok (.ifCond .ne 14, 3) := by decide +kernel
theorem dX8_restore_15 : decode cX8_restore 15 = .ok (.new 76, 3) := by decide +kernel
theorem dX8_restore_18 : decode cX8_restore 18 = .ok (.dup, 1) := by decide +kernel
theorem dX8_restore_19 : decode cX8_restore 19 = .ok (.ldc_w 431, 3) := by decide +kernel
theorem dX8_restore_22 : decode cX8_restore 22 = .ok (.invokespecial 80, 3) := by decide +kernel
theorem dX8_restore_25 : decode cX8_restore 25 = .ok (.athrow, 1) := by decide +kernel
theorem dX8_restore_26 : decode cX8_restore 26 = .ok (.aload_n 0, 1) := by decide +kernel
theorem dX8_restore_27 : decode cX8_restore 27 = .ok (.getfield 26, 3) := by decide +kernel
theorem dX8_restore_30 : decode cX8_restore 30 = .ok (.aload_n 0, 1) := by decide +kernel
theorem dX8_restore_31 : decode cX8_restore 31 = .ok (.getfield 40, 3) := by decide +kernel
theorem dX8_restore_34 : decode cX8_restore 34 = .ok (.iload_n 1, 1) := by decide +kernel
theorem dX8_restore_35 : decode cX8_restore 35 = .ok (.aaload, 1) := by decide +kernel
theorem dX8_restore_36 : decode cX8_restore 36 = .ok (.invokevirtual 101, 3) := by decide +kernel
theorem dX8_restore_39 : decode cX8_restore 39 = .ok (.aload_n 0, 1) := by decide +kernel
theorem dX8_restore_40 : decode cX8_restore 40 = .ok (.getfield 36, 3) := by decide +kernel
theorem dX8_restore_43 : decode cX8_restore 43 = .ok (.invokevirtual 105, 3) := by decide +kernel
theorem dX8_restore_46 : decode cX8_restore 46 = .ok (.return_, 1) := by decide +kernel
theorem dX8_needPupil_0 : decode cX8_needPupil 0 = .ok (.aload_n 0, 1) := by decide +kernel
theorem dX8_needPupil_1 : decode cX8_needPupil 1 = .ok (.getfield 26, 3) := by decide +kernel
theorem dX8_needPupil_4 : decode cX8_needPupil 4 = .ok (.iload_n 1, 1) := by decide +kernel
theorem dX8_needPupil_5 : decode cX8_needPupil 5 = .ok (.invokevirtual 135, 3) := by decide +kernel
theorem dX8_needPupil_8 : decode cX8_needPupil 8 = .ok (.ifCond .ne 14, 3) := by decide +kernel
theorem dX8_needPupil_11 : decode cX8_needPupil 11 = .ok (.new 433, 3) := by decide +kernel
theorem dX8_needPupil_14 : decode cX8_needPupil 14 = .ok (.dup, 1) := by decide +kernel
theorem dX8_needPupil_15 : decode cX8_needPupil 15 = .ok (.ldc_w 435, 3) := by decide +kernel
theorem dX8_needPupil_18 : decode cX8_needPupil 18 = .ok (.invokespecial 437, 3) := by decide +kernel
theorem dX8_needPupil_21 : decode cX8_needPupil 21 = .ok (.athrow, 1) := by decide +kernel
theorem dX8_needPupil_22 : decode cX8_needPupil 22 = .ok (.return_, 1) := by decide +kernel
theorem dX8_needDebt_0 : decode cX8_needDebt 0 = .ok (.iload_n 1, 1) := by decide +kernel
theorem dX8_needDebt_1 : decode cX8_needDebt 1 = .ok (.ifCond .lt 17, 3) := by decide +kernel
theorem dX8_needDebt_4 : decode cX8_needDebt 4 = .ok (.iload_n 1, 1) := by decide +kernel
theorem dX8_needDebt_5 : decode cX8_needDebt 5 = .ok (.aload_n 0, 1) := by decide +kernel
theorem dX8_needDebt_6 : decode cX8_needDebt 6 = .ok (.getfield 26, 3) := by decide +kernel
theorem dX8_needDebt_9 : decode cX8_needDebt 9 = .ok (.getfield 174, 3) := by decide +kernel
theorem dX8_needDebt_12 : decode cX8_needDebt 12 = .ok (.getfield 178, 3) := by decide +kernel
theorem dX8_needDebt_15 : decode cX8_needDebt 15 = .ok (.if_icmp .lt 14, 3) := by decide +kernel
theorem dX8_needDebt_18 : decode cX8_needDebt 18 = .ok (.new 433, 3) := by decide +kernel
theorem dX8_needDebt_21 : decode cX8_needDebt 21 = .ok (.dup, 1) := by decide +kernel
theorem dX8_needDebt_22 : decode cX8_needDebt 22 = .ok (.ldc_w 438, 3) := by decide +kernel
theorem dX8_needDebt_25 : decode cX8_needDebt 25 = .ok (.invokespecial 437, 3) := by decide +kernel
theorem dX8_needDebt_28 : decode cX8_needDebt 28 = .ok (.athrow, 1) := by decide +kernel
theorem dX8_needDebt_29 : decode cX8_needDebt 29 = .ok (.return_, 1) := by decide +kernel
theorem dX8_needRange_0 : decode cX8_needRange 0 = .ok (.iload_n 0, 1) := by decide +kernel
theorem dX8_needRange_1 : decode cX8_needRange 1 = .ok (.iload_n 1, 1) := by decide +kernel
theorem dX8_needRange_2 : decode cX8_needRange 2 = .ok (.if_icmp .lt 8, 3) := by decide +kernel
theorem dX8_needRange_5 : decode cX8_needRange 5 = .ok (.iload_n 0, 1) := by decide +kernel
theorem dX8_needRange_6 : decode cX8_needRange 6 = .ok (.iload_n 2, 1) := by decide +kernel
theorem dX8_needRange_7 : decode cX8_needRange 7 = .ok (.if_icmp .le 14, 3) := by decide +kernel
theorem dX8_needRange_10 : decode cX8_needRange 10 = .ok (.new 192, 3) := by decide +kernel
theorem dX8_needRange_13 : decode cX8_needRange 13 = .ok (.dup, 1) := by decide +kernel
theorem dX8_needRange_14 : decode cX8_needRange 14 = .ok (.ldc_w 440, 3) := by decide +kernel
theorem dX8_needRange_17 : decode cX8_needRange 17 = .ok (.invokespecial 196, 3) := by decide +kernel
theorem dX8_needRange_20 : decode cX8_needRange 20 = .ok (.athrow, 1) := by decide +kernel
theorem dX8_needRange_21 : decode cX8_needRange 21 = .ok (.return_, 1) := by decide +kernel
theorem dX8_needSubject_0 : decode cX8_needSubject 0 = .ok (.iload_n 0, 1) := by decide +kernel
theorem dX8_needSubject_1 : decode cX8_needSubject 1 = .ok (.iconst 0, 1) := by decide +kernel
theorem dX8_needSubject_2 : decode cX8_needSubject 2 = .ok (.iconst 1, 1) := by decide +kernel
theorem dX8_needSubject_3 : decode cX8_needSubject 3 = .ok (.invokestatic 86, 3) := by decide +kernel
theorem dX8_needSubject_6 : decode cX8_needSubject 6 = .ok (.return_, 1) := by decide +kernel
theorem dX8_needBench_0 : decode cX8_needBench 0 = .ok (.iload_n 0, 1) := by decide +kernel
theorem dX8_needBench_1 : decode cX8_needBench 1 = .ok (.iconst 0, 1) := by decide +kernel
theorem dX8_needBench_2 : decode cX8_needBench 2 = .ok (.iconst 5, 1) := by decide +kernel
theorem dX8_needBench_3 : decode cX8_needBench 3 = .ok (.invokestatic 86, 3) := by decide +kernel
theorem dX8_needBench_6 : decode cX8_needBench 6 = .ok (.iload_n 1, 1) := by decide +kernel
theorem dX8_needBench_7 : decode cX8_needBench 7 = .ok (.iconst 0, 1) := by decide +kernel
theorem dX8_needBench_8 : decode cX8_needBench 8 = .ok (.iconst 5, 1) := by decide +kernel
theorem dX8_needBench_9 : decode cX8_needBench 9 = .ok (.invokestatic 86, 3) := by decide +kernel
theorem dX8_needBench_12 : decode cX8_needBench 12 = .ok (.return_, 1) := by decide +kernel
theorem dX8_needSwap_0 : decode cX8_needSwap 0 = .ok (.aload_n 0, 1) := by decide +kernel
theorem dX8_needSwap_1 : decode cX8_needSwap 1 = .ok (.iload_n 1, 1) := by decide +kernel
theorem dX8_needSwap_2 : decode cX8_needSwap 2 = .ok (.invokevirtual 200, 3) := by decide +kernel
theorem dX8_needSwap_5 : decode cX8_needSwap 5 = .ok (.aload_n 0, 1) := by decide +kernel
theorem dX8_needSwap_6 : decode cX8_needSwap 6 = .ok (.iload_n 2, 1) := by decide +kernel
theorem dX8_needSwap_7 : decode cX8_needSwap 7 = .ok (.invokevirtual 200, 3) := by decide +kernel
theorem dX8_needSwap_10 : decode cX8_needSwap 10 = .ok (.iload_n 3, 1) := by decide +kernel
theorem dX8_needSwap_11 : decode cX8_needSwap 11 = .ok (.iconst 0, 1) := by decide +kernel
theorem dX8_needSwap_12 : decode cX8_needSwap 12 = .ok (.bipush 20, 2) := by decide +kernel
theorem dX8_needSwap_14 : decode cX8_needSwap 14 = .ok (.invokestatic 86, 3) := by decide +kernel
theorem dX8_needSwap_17 : decode cX8_needSwap 17 = .ok (.iload 4, 2) := by decide +kernel
theorem dX8_needSwap_19 : decode cX8_needSwap 19 = .ok (.iconst 0, 1) := by decide +kernel
theorem dX8_needSwap_20 : decode cX8_needSwap 20 = .ok (.bipush 20, 2) := by decide +kernel
theorem dX8_needSwap_22 : decode cX8_needSwap 22 = .ok (.invokestatic 86, 3) := by decide +kernel
theorem dX8_needSwap_25 : decode cX8_needSwap 25 = .ok (.return_, 1) := by decide +kernel
theorem dX8_needLoan_0 : decode cX8_needLoan 0 = .ok (.aload_n 0, 1) := by decide +kernel
theorem dX8_needLoan_1 : decode cX8_needLoan 1 = .ok (.iload_n 1, 1) := by decide +kernel
theorem dX8_needLoan_2 : decode cX8_needLoan 2 = .ok (.invokevirtual 200, 3) := by decide +kernel
theorem dX8_needLoan_5 : decode cX8_needLoan 5 = .ok (.aload_n 0, 1) := by decide +kernel
theorem dX8_needLoan_6 : decode cX8_needLoan 6 = .ok (.iload_n 2, 1) := by decide +kernel
theorem dX8_needLoan_7 : decode cX8_needLoan 7 = .ok (.invokevirtual 200, 3) := by decide +kernel
theorem dX8_needLoan_10 : decode cX8_needLoan 10 = .ok (.iload_n 3, 1) := by decide +kernel
theorem dX8_needLoan_11 : decode cX8_needLoan 11 = .ok (.invokestatic 260, 3) := by decide +kernel
theorem dX8_needLoan_14 : decode cX8_needLoan 14 = .ok (.iload 4, 2) := by decide +kernel
theorem dX8_needLoan_16 : decode cX8_needLoan 16 = .ok (.iconst 1, 1) := by decide +kernel
theorem dX8_needLoan_17 : decode cX8_needLoan 17 = .ok (.bipush 20, 2) := by decide +kernel
theorem dX8_needLoan_19 : decode cX8_needLoan 19 = .ok (.invokestatic 86, 3) := by decide +kernel
theorem dX8_needLoan_22 : decode cX8_needLoan 22 = .ok (.return_, 1) := by decide +kernel
theorem dX8_lowest_0 : decode cX8_lowest 0 = .ok (.iload_n 1, 1) := by decide +kernel
theorem dX8_lowest_1 : decode cX8_lowest 1 = .ok (.istore_n 2, 1) := by decide +kernel
theorem dX8_lowest_2 : decode cX8_lowest 2 = .ok (.iconst 0, 1) := by decide +kernel
theorem dX8_lowest_3 : decode cX8_lowest 3 = .ok (.istore_n 3, 1) := by decide +kernel
theorem dX8_lowest_4 : decode cX8_lowest 4 = .ok (.iload_n 3, 1) := by decide +kernel
