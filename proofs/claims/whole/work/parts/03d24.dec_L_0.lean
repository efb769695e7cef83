theorem dL_appendText_0 : decode cL_appendText 0 = .ok (.aload_n 2, 1) := by decide +kernel
theorem dL_appendText_1 : decode cL_appendText 1 = .ok (.iconst 0, 1) := by decide +kernel
theorem dL_appendText_2 : decode cL_appendText 2 = .ok (.aload_n 0, 1) := by decide +kernel
theorem dL_appendText_3 : decode cL_appendText 3 = .ok (.iload_n 1, 1) := by decide +kernel
theorem dL_appendText_4 : decode cL_appendText 4 = .ok (.invokevirtual 7, 3) := by decide +kernel
theorem dL_appendText_7 : decode cL_appendText 7 = .ok (.i2l, 1) := by decide +kernel
theorem dL_appendText_8 : decode cL_appendText 8 = .ok (.lastore, 1) := by decide +kernel
theorem dL_appendText_9 : decode cL_appendText 9 = .ok (.goto 6, 3) := by decide +kernel
theorem dL_appendText_12 : decode cL_appendText 12 = .ok (.astore_n 3, 1) := by decide +kernel
theorem dL_appendText_13 : decode cL_appendText 13 = .ok (.iconst 1, 1) := by decide +kernel
theorem dL_appendText_14 : decode cL_appendText 14 = .ok (.ireturn, 1) := by decide +kernel
theorem dL_appendText_15 : decode cL_appendText 15 = .ok (.iconst 0, 1) := by decide +kernel
theorem dL_appendText_16 : decode cL_appendText 16 = .ok (.ireturn, 1) := by decide +kernel
theorem dL_truncateText_0 : decode cL_truncateText 0 = .ok (.aload_n 2, 1) := by decide +kernel
theorem dL_truncateText_1 : decode cL_truncateText 1 = .ok (.iconst 0, 1) := by decide +kernel
theorem dL_truncateText_2 : decode cL_truncateText 2 = .ok (.aload_n 0, 1) := by decide +kernel
theorem dL_truncateText_3 : decode cL_truncateText 3 = .ok (.iload_n 1, 1) := by decide +kernel
theorem dL_truncateText_4 : decode cL_truncateText 4 = .ok (.invokevirtual 15, 3) := by decide +kernel
theorem dL_truncateText_7 : decode cL_truncateText 7 = .ok (.i2l, 1) := by decide +kernel
theorem dL_truncateText_8 : decode cL_truncateText 8 = .ok (.lastore, 1) := by decide +kernel
theorem dL_truncateText_9 : decode cL_truncateText 9 = .ok (.goto 6, 3) := by decide +kernel
theorem dL_truncateText_12 : decode cL_truncateText 12 = .ok (.astore_n 3, 1) := by decide +kernel
theorem dL_truncateText_13 : decode cL_truncateText 13 = .ok (.iconst 1, 1) := by decide +kernel
theorem dL_truncateText_14 : decode cL_truncateText 14 = .ok (.ireturn, 1) := by decide +kernel
theorem dL_truncateText_15 : decode cL_truncateText 15 = .ok (.iconst 0, 1) := by decide +kernel
theorem dL_truncateText_16 : decode cL_truncateText 16 = .ok (.ireturn, 1) := by decide +kernel
theorem dL_count_0 : decode cL_count 0 = .ok (.aload_n 2, 1) := by decide +kernel
theorem dL_count_1 : decode cL_count 1 = .ok (.iconst 0, 1) := by decide +kernel
theorem dL_count_2 : decode cL_count 2 = .ok (.aload_n 0, 1) := by decide +kernel
theorem dL_count_3 : decode cL_count 3 = .ok (.iload_n 1, 1) := by decide +kernel
theorem dL_count_4 : decode cL_count 4 = .ok (.invokevirtual 20, 3) := by decide +kernel
theorem dL_count_7 : decode cL_count 7 = .ok (.i2l, 1) := by decide +kernel
theorem dL_count_8 : decode cL_count 8 = .ok (.lastore, 1) := by decide +kernel
theorem dL_count_9 : decode cL_count 9 = .ok (.goto 6, 3) := by decide +kernel
theorem dL_count_12 : decode cL_count 12 = .ok (.astore_n 3, 1) := by decide +kernel
theorem dL_count_13 : decode cL_count 13 = .ok (.iconst 1, 1) := by decide +kernel
theorem dL_count_14 : decode cL_count 14 = .ok (.ireturn, 1) := by decide +kernel
theorem dL_count_15 : decode cL_count 15 = .ok (.iconst 0, 1) := by decide +kernel
theorem dL_count_16 : decode cL_count 16 = .ok (.ireturn, 1) := by decide +kernel
theorem dL_tally_0 : decode cL_tally 0 = .ok (.aload_n 2, 1) := by decide +kernel
theorem dL_tally_1 : decode cL_tally 1 = .ok (.iconst 0, 1) := by decide +kernel
theorem dL_tally_2 : decode cL_tally 2 = .ok (.aload_n 0, 1) := by decide +kernel
theorem dL_tally_3 : decode cL_tally 3 = .ok (.iload_n 1, 1) := by decide +kernel
theorem dL_tally_4 : decode cL_tally 4 = .ok (.invokevirtual 23, 3) := by decide +kernel
theorem dL_tally_7 : decode cL_tally 7 = .ok (.i2l, 1) := by decide +kernel
theorem dL_tally_8 : decode cL_tally 8 = .ok (.lastore, 1) := by decide +kernel
theorem dL_tally_9 : decode cL_tally 9 = .ok (.goto 6, 3) := by decide +kernel
theorem dL_tally_12 : decode cL_tally 12 = .ok (.astore_n 3, 1) := by decide +kernel
theorem dL_tally_13 : decode cL_tally 13 = .ok (.iconst 1, 1) := by decide +kernel
theorem dL_tally_14 : decode cL_tally 14 = .ok (.ireturn, 1) := by decide +kernel
theorem dL_tally_15 : decode cL_tally 15 = .ok (.iconst 0, 1) := by decide +kernel
theorem dL_tally_16 : decode cL_tally 16 = .ok (.ireturn, 1) := by decide +kernel
theorem dL_pupil_0 : decode cL_pupil 0 = .ok (.aload_n 3, 1) := by decide +kernel
theorem dL_pupil_1 : decode cL_pupil 1 = .ok (.iconst 0, 1) := by decide +kernel
theorem dL_pupil_2 : decode cL_pupil 2 = .ok (.aload_n 0, 1) := by decide +kernel
theorem dL_pupil_3 : decode cL_pupil 3 = .ok (.iload_n 1, 1) := by decide +kernel
theorem dL_pupil_4 : decode cL_pupil 4 = .ok (.iload_n 2, 1) := by decide +kernel
theorem dL_pupil_5 : decode cL_pupil 5 = .ok (.invokevirtual 26, 3) := by decide +kernel
theorem dL_pupil_8 : decode cL_pupil 8 = .ok (.i2l, 1) := by decide +kernel
theorem dL_pupil_9 : decode cL_pupil 9 = .ok (.lastore, 1) := by decide +kernel
theorem dL_pupil_10 : decode cL_pupil 10 = .ok (.goto 11, 3) := by decide +kernel
theorem dL_pupil_13 : decode cL_pupil 13 = .ok (.astore 4, 2) := by decide +kernel
theorem dL_pupil_15 : decode cL_pupil 15 = .ok (.iconst 1, 1) := by decide +kernel
theorem dL_pupil_16 : decode cL_pupil 16 = .ok (.ireturn, 1) := by decide +kernel
theorem dL_pupil_17 : decode cL_pupil 17 = .ok (.astore 4, 2) := by decide +kernel
theorem dL_pupil_19 : decode cL_pupil 19 = .ok (.iconst 2, 1) := by decide +kernel
theorem dL_pupil_20 : decode cL_pupil 20 = .ok (.ireturn, 1) := by decide +kernel
theorem dL_pupil_21 : decode cL_pupil 21 = .ok (.iconst 0, 1) := by decide +kernel
theorem dL_pupil_22 : decode cL_pupil 22 = .ok (.ireturn, 1) := by decide +kernel
theorem dL_piece_0 : decode cL_piece 0 = .ok (.aload 4, 2) := by decide +kernel
theorem dL_piece_2 : decode cL_piece 2 = .ok (.iconst 0, 1) := by decide +kernel
theorem dL_piece_3 : decode cL_piece 3 = .ok (.aload_n 0, 1) := by decide +kernel
theorem dL_piece_4 : decode cL_piece 4 = .ok (.iload_n 1, 1) := by decide +kernel
theorem dL_piece_5 : decode cL_piece 5 = .ok (.iload_n 2, 1) := by decide +kernel
theorem dL_piece_6 : decode cL_piece 6 = .ok (.iload_n 3, 1) := by decide +kernel
theorem dL_piece_7 : decode cL_piece 7 = .ok (.invokevirtual 32, 3) := by decide +kernel
theorem dL_piece_10 : decode cL_piece 10 = .ok (.i2l, 1) := by decide +kernel
theorem dL_piece_11 : decode cL_piece 11 = .ok (.lastore, 1) := by decide +kernel
theorem dL_piece_12 : decode cL_piece 12 = .ok (.goto 11, 3) := by decide +kernel
theorem dL_piece_15 : decode cL_piece 15 = .ok (.astore 5, 2) := by decide +kernel
theorem dL_piece_17 : decode cL_piece 17 = .ok (.iconst 1, 1) := by decide +kernel
theorem dL_piece_18 : decode cL_piece 18 = .ok (.ireturn, 1) := by decide +kernel
theorem dL_piece_19 : decode cL_piece 19 = .ok (.astore 5, 2) := by decide +kernel
theorem dL_piece_21 : decode cL_piece 21 = .ok (.iconst 2, 1) := by decide +kernel
theorem dL_piece_22 : decode cL_piece 22 = .ok (.ireturn, 1) := by decide +kernel
theorem dL_piece_23 : decode cL_piece 23 = .ok (.iconst 0, 1) := by decide +kernel
theorem dL_piece_24 : decode cL_piece 24 = .ok (.ireturn, 1) := by decide +kernel
theorem dL_madeBy_0 : decode cL_madeBy 0 = .ok (.aload 4, 2) := by decide +kernel
theorem dL_madeBy_2 : decode cL_madeBy 2 = .ok (.iconst 0, 1) := by decide +kernel
theorem dL_madeBy_3 : decode cL_madeBy 3 = .ok (.aload_n 0, 1) := by decide +kernel
theorem dL_madeBy_4 : decode cL_madeBy 4 = .ok (.iload_n 1, 1) := by decide +kernel
theorem dL_madeBy_5 : decode cL_madeBy 5 = .ok (.iload_n 2, 1) := by decide +kernel
theorem dL_madeBy_6 : decode cL_madeBy 6 = .ok (.iload_n 3, 1) := by decide +kernel
theorem dL_madeBy_7 : decode cL_madeBy 7 = .ok (.invokevirtual 36, 3) := by decide +kernel
theorem dL_madeBy_10 : decode cL_madeBy 10 = .ok (.i2l, 1) := by decide +kernel
theorem dL_madeBy_11 : decode cL_madeBy 11 = .ok (.lastore, 1) := by decide +kernel
theorem dL_madeBy_12 : decode cL_madeBy 12 = .ok (.goto 11, 3) := by decide +kernel
theorem dL_madeBy_15 : decode cL_madeBy 15 = .ok (.astore 5, 2) := by decide +kernel
theorem dL_madeBy_17 : decode cL_madeBy 17 = .ok (.iconst 1, 1) := by decide +kernel
theorem dL_madeBy_18 : decode cL_madeBy 18 = .ok (.ireturn, 1) := by decide +kernel
theorem dL_madeBy_19 : decode cL_madeBy 19 = .ok (.astore 5, 2) := by decide +kernel
theorem dL_madeBy_21 : decode cL_madeBy 21 = .ok (.iconst 2, 1) := by decide +kernel
theorem dL_madeBy_22 : decode cL_madeBy 22 = .ok (.ireturn, 1) := by decide +kernel
theorem dL_madeBy_23 : decode cL_madeBy 23 = .ok (.iconst 0, 1) := by decide +kernel
theorem dL_madeBy_24 : decode cL_madeBy 24 = .ok (.ireturn, 1) := by decide +kernel
theorem dL_debt_0 : decode cL_debt 0 = .ok (.aload_n 3, 1) := by decide +kernel
theorem dL_debt_1 : decode cL_debt 1 = .ok (.iconst 0, 1) := by decide +kernel
theorem dL_debt_2 : decode cL_debt 2 = .ok (.aload_n 0, 1) := by decide +kernel
theorem dL_debt_3 : decode cL_debt 3 = .ok (.iload_n 1, 1) := by decide +kernel
theorem dL_debt_4 : decode cL_debt 4 = .ok (.iload_n 2, 1) := by decide +kernel
theorem dL_debt_5 : decode cL_debt 5 = .ok (.invokevirtual 39, 3) := by decide +kernel
theorem dL_debt_8 : decode cL_debt 8 = .ok (.i2l, 1) := by decide +kernel
theorem dL_debt_9 : decode cL_debt 9 = .ok (.lastore, 1) := by decide +kernel
theorem dL_debt_10 : decode cL_debt 10 = .ok (.goto 11, 3) := by decide +kernel
theorem dL_debt_13 : decode cL_debt 13 = .ok (.astore 4, 2) := by decide +kernel
theorem dL_debt_15 : decode cL_debt 15 = .ok (.iconst 1, 1) := by decide +kernel
theorem dL_debt_16 : decode cL_debt 16 = .ok (.ireturn, 1) := by decide +kernel
theorem dL_debt_17 : decode cL_debt 17 = .ok (.astore 4, 2) := by decide +kernel
theorem dL_debt_19 : decode cL_debt 19 = .ok (.iconst 2, 1) := by decide +kernel
theorem dL_debt_20 : decode cL_debt 20 = .ok (.ireturn, 1) := by decide +kernel
theorem dL_debt_21 : decode cL_debt 21 = .ok (.iconst 0, 1) := by decide +kernel
theorem dL_debt_22 : decode cL_debt 22 = .ok (.ireturn, 1) := by decide +kernel
theorem dL_owes_0 : decode cL_owes 0 = .ok (.aload 4, 2) := by decide +kernel
theorem dL_owes_2 : decode cL_owes 2 = .ok (.iconst 0, 1) := by decide +kernel
theorem dL_owes_3 : decode cL_owes 3 = .ok (.aload_n 0, 1) := by decide +kernel
theorem dL_owes_4 : decode cL_owes 4 = .ok (.iload_n 1, 1) := by decide +kernel
theorem dL_owes_5 : decode cL_owes 5 = .ok (.iload_n 2, 1) := by decide +kernel
theorem dL_owes_6 : decode cL_owes 6 = .ok (.iload_n 3, 1) := by decide +kernel
theorem dL_owes_7 : decode cL_owes 7 = .ok (.invokevirtual 42, 3) := by decide +kernel
theorem dL_owes_10 : decode cL_owes 10 = .ok (.i2l, 1) := by decide +kernel
theorem dL_owes_11 : decode cL_owes 11 = .ok (.lastore, 1) := by decide +kernel
theorem dL_owes_12 : decode cL_owes 12 = .ok (.goto 11, 3) := by decide +kernel
theorem dL_owes_15 : decode cL_owes 15 = .ok (.astore 5, 2) := by decide +kernel
theorem dL_owes_17 : decode cL_owes 17 = .ok (.iconst 1, 1) := by decide +kernel
theorem dL_owes_18 : decode cL_owes 18 = .ok (.ireturn, 1) := by decide +kernel
theorem dL_owes_19 : decode cL_owes 19 = .ok (.astore 5, 2) := by decide +kernel
theorem dL_owes_21 : decode cL_owes 21 = .ok (.iconst 2, 1) := by decide +kernel
theorem dL_owes_22 : decode cL_owes 22 = .ok (.ireturn, 1) := by decide +kernel
theorem dL_owes_23 : decode cL_owes 23 = .ok (.iconst 0, 1) := by decide +kernel
theorem dL_owes_24 : decode cL_owes 24 = .ok (.ireturn, 1) := by decide +kernel
theorem dL_isNear_0 : decode cL_isNear 0 = .ok (.aload_n 3, 1) := by decide +kernel
theorem dL_isNear_1 : decode cL_isNear 1 = .ok (.iconst 0, 1) := by decide +kernel
theorem dL_isNear_2 : decode cL_isNear 2 = .ok (.aload_n 0, 1) := by decide +kernel
theorem dL_isNear_3 : decode cL_isNear 3 = .ok (.iload_n 1, 1) := by decide +kernel
theorem dL_isNear_4 : decode cL_isNear 4 = .ok (.iload_n 2, 1) := by decide +kernel
theorem dL_isNear_5 : decode cL_isNear 5 = .ok (.invokevirtual 45, 3) := by decide +kernel
theorem dL_isNear_8 : decode cL_isNear 8 = .ok (.ifCond .eq 7, 3) := by decide +kernel
theorem dL_isNear_11 : decode cL_isNear 11 = .ok (.lconst 1, 1) := by decide +kernel
theorem dL_isNear_12 : decode cL_isNear 12 = .ok (.goto 4, 3) := by decide +kernel
theorem dL_isNear_15 : decode cL_isNear 15 = .ok (.lconst 0, 1) := by decide +kernel
theorem dL_isNear_16 : decode cL_isNear 16 = .ok (.lastore, 1) := by decide +kernel
theorem dL_isNear_17 : decode cL_isNear 17 = .ok (.goto 7, 3) := by decide +kernel
theorem dL_isNear_20 : decode cL_isNear 20 = .ok (.astore 4, 2) := by decide +kernel
theorem dL_isNear_22 : decode cL_isNear 22 = .ok (.iconst 1, 1) := by decide +kernel
theorem dL_isNear_23 : decode cL_isNear 23 = .ok (.ireturn, 1) := by decide +kernel
theorem dL_isNear_24 : decode cL_isNear 24 = .ok (.iconst 0, 1) := by decide +kernel
theorem dL_isNear_25 : decode cL_isNear 25 = .ok (.ireturn, 1) := by decide +kernel
theorem dL_witness_0 : decode cL_witness 0 = .ok (.aload_n 3, 1) := by decide +kernel
theorem dL_witness_1 : decode cL_witness 1 = .ok (.iconst 0, 1) := by decide +kernel
theorem dL_witness_2 : decode cL_witness 2 = .ok (.aload_n 0, 1) := by decide +kernel
theorem dL_witness_3 : decode cL_witness 3 = .ok (.iload_n 1, 1) := by decide +kernel
theorem dL_witness_4 : decode cL_witness 4 = .ok (.iload_n 2, 1) := by decide +kernel
theorem dL_witness_5 : decode cL_witness 5 = .ok (.invokevirtual 49, 3) := by decide +kernel
theorem dL_witness_8 : decode cL_witness 8 = .ok (.i2l, 1) := by decide +kernel
theorem dL_witness_9 : decode cL_witness 9 = .ok (.lastore, 1) := by decide +kernel
theorem dL_witness_10 : decode cL_witness 10 = .ok (.goto 7, 3) := by decide +kernel
theorem dL_witness_13 : decode cL_witness 13 = .ok (.astore 4, 2) := by decide +kernel
theorem dL_witness_15 : decode cL_witness 15 = .ok (.iconst 1, 1) := by decide +kernel
theorem dL_witness_16 : decode cL_witness 16 = .ok (.ireturn, 1) := by decide +kernel
theorem dL_witness_17 : decode cL_witness 17 = .ok (.iconst 0, 1) := by decide +kernel
theorem dL_witness_18 : decode cL_witness 18 = .ok (.ireturn, 1) := by decide +kernel
theorem dL_bench_0 : decode cL_bench 0 = .ok (.aload_n 3, 1) := by decide +kernel
theorem dL_bench_1 : decode cL_bench 1 = .ok (.iconst 0, 1) := by decide +kernel
theorem dL_bench_2 : decode cL_bench 2 = .ok (.aload_n 0, 1) := by decide +kernel
theorem dL_bench_3 : decode cL_bench 3 = .ok (.iload_n 1, 1) := by decide +kernel
theorem dL_bench_4 : decode cL_bench 4 = .ok (.iload_n 2, 1) := by decide +kernel
theorem dL_bench_5 : decode cL_bench 5 = .ok (.invokevirtual 52, 3) := by decide +kernel
theorem dL_bench_8 : decode cL_bench 8 = .ok (.i2l, 1) := by decide +kernel
theorem dL_bench_9 : decode cL_bench 9 = .ok (.lastore, 1) := by decide +kernel
theorem dL_bench_10 : decode cL_bench 10 = .ok (.goto 7, 3) := by decide +kernel
theorem dL_bench_13 : decode cL_bench 13 = .ok (.astore 4, 2) := by decide +kernel
theorem dL_bench_15 : decode cL_bench 15 = .ok (.iconst 1, 1) := by decide +kernel
theorem dL_bench_16 : decode cL_bench 16 = .ok (.ireturn, 1) := by decide +kernel
theorem dL_bench_17 : decode cL_bench 17 = .ok (.iconst 0, 1) := by decide +kernel
theorem dL_bench_18 : decode cL_bench 18 = .ok (.ireturn, 1) := by decide +kernel
theorem dL_seers_0 : decode cL_seers 0 = .ok (.aload_n 3, 1) := by decide +kernel
theorem dL_seers_1 : decode cL_seers 1 = .ok (.iconst 0, 1) := by decide +kernel
theorem dL_seers_2 : decode cL_seers 2 = .ok (.aload_n 0, 1) := by decide +kernel
theorem dL_seers_3 : decode cL_seers 3 = .ok (.iload_n 1, 1) := by decide +kernel
theorem dL_seers_4 : decode cL_seers 4 = .ok (.iload_n 2, 1) := by decide +kernel
theorem dL_seers_5 : decode cL_seers 5 = .ok (.invokevirtual 55, 3) := by decide +kernel
theorem dL_seers_8 : decode cL_seers 8 = .ok (.i2l, 1) := by decide +kernel
theorem dL_seers_9 : decode cL_seers 9 = .ok (.lastore, 1) := by decide +kernel
theorem dL_seers_10 : decode cL_seers 10 = .ok (.goto 11, 3) := by decide +kernel
theorem dL_seers_13 : decode cL_seers 13 = .ok (.astore 4, 2) := by decide +kernel
theorem dL_seers_15 : decode cL_seers 15 = .ok (.iconst 1, 1) := by decide +kernel
theorem dL_seers_16 : decode cL_seers 16 = .ok (.ireturn, 1) := by decide +kernel
theorem dL_seers_17 : decode cL_seers 17 = .ok (.astore 4, 2) := by decide +kernel
theorem dL_seers_19 : decode cL_seers 19 = .ok (.iconst 2, 1) := by decide +kernel
theorem dL_seers_20 : decode cL_seers 20 = .ok (.ireturn, 1) := by decide +kernel
theorem dL_seers_21 : decode cL_seers 21 = .ok (.iconst 0, 1) := by decide +kernel
theorem dL_seers_22 : decode cL_seers 22 = .ok (.ireturn, 1) := by decide +kernel
theorem dL_why_0 : decode cL_why 0 = .ok (.aload_n 3, 1) := by decide +kernel
theorem dL_why_1 : decode cL_why 1 = .ok (.iconst 0, 1) := by decide +kernel
theorem dL_why_2 : decode cL_why 2 = .ok (.aload_n 0, 1) := by decide +kernel
theorem dL_why_3 : decode cL_why 3 = .ok (.iload_n 1, 1) := by decide +kernel
theorem dL_why_4 : decode cL_why 4 = .ok (.iload_n 2, 1) := by decide +kernel
theorem dL_why_5 : decode cL_why 5 = .ok (.invokevirtual 58, 3) := by decide +kernel
theorem dL_why_8 : decode cL_why 8 = .ok (.i2l, 1) := by decide +kernel
theorem dL_why_9 : decode cL_why 9 = .ok (.lastore, 1) := by decide +kernel
theorem dL_why_10 : decode cL_why 10 = .ok (.goto 11, 3) := by decide +kernel
theorem dL_why_13 : decode cL_why 13 = .ok (.astore 4, 2) := by decide +kernel
theorem dL_why_15 : decode cL_why 15 = .ok (.iconst 1, 1) := by decide +kernel
theorem dL_why_16 : decode cL_why 16 = .ok (.ireturn, 1) := by decide +kernel
theorem dL_why_17 : decode cL_why 17 = .ok (.astore 4, 2) := by decide +kernel
theorem dL_why_19 : decode cL_why 19 = .ok (.iconst 2, 1) := by decide +kernel
theorem dL_why_20 : decode cL_why 20 = .ok (.ireturn, 1) := by decide +kernel
theorem dL_why_21 : decode cL_why 21 = .ok (.iconst 0, 1) := by decide +kernel
theorem dL_why_22 : decode cL_why 22 = .ok (.ireturn, 1) := by decide +kernel
theorem dL_most_0 : decode cL_most 0 = .ok (.aload_n 2, 1) := by decide +kernel
theorem dL_most_1 : decode cL_most 1 = .ok (.iconst 0, 1) := by decide +kernel
theorem dL_most_2 : decode cL_most 2 = .ok (.aload_n 0, 1) := by decide +kernel
theorem dL_most_3 : decode cL_most 3 = .ok (.iload_n 1, 1) := by decide +kernel
theorem dL_most_4 : decode cL_most 4 = .ok (.invokevirtual 61, 3) := by decide +kernel
theorem dL_most_7 : decode cL_most 7 = .ok (.i2l, 1) := by decide +kernel
theorem dL_most_8 : decode cL_most 8 = .ok (.lastore, 1) := by decide +kernel
theorem dL_most_9 : decode cL_most 9 = .ok (.goto 6, 3) := by decide +kernel
theorem dL_most_12 : decode cL_most 12 = .ok (.astore_n 3, 1) := by decide +kernel
theorem dL_most_13 : decode cL_most 13 = .ok (.iconst 1, 1) := by decide +kernel
theorem dL_most_14 : decode cL_most 14 = .ok (.ireturn, 1) := by decide +kernel
theorem dL_most_15 : decode cL_most 15 = .ok (.iconst 0, 1) := by decide +kernel
theorem dL_most_16 : decode cL_most 16 = .ok (.ireturn, 1) := by decide +kernel
theorem dL_ranked_0 : decode cL_ranked 0 = .ok (.aload_n 3, 1) := by decide +kernel
theorem dL_ranked_1 : decode cL_ranked 1 = .ok (.iconst 0, 1) := by decide +kernel
theorem dL_ranked_2 : decode cL_ranked 2 = .ok (.aload_n 0, 1) := by decide +kernel
theorem dL_ranked_3 : decode cL_ranked 3 = .ok (.iload_n 1, 1) := by decide +kernel
theorem dL_ranked_4 : decode cL_ranked 4 = .ok (.iload_n 2, 1) := by decide +kernel
theorem dL_ranked_5 : decode cL_ranked 5 = .ok (.invokevirtual 64, 3) := by decide +kernel
theorem dL_ranked_8 : decode cL_ranked 8 = .ok (.i2l, 1) := by decide +kernel
theorem dL_ranked_9 : decode cL_ranked 9 = .ok (.lastore, 1) := by decide +kernel
theorem dL_ranked_10 : decode cL_ranked 10 = .ok (.goto 7, 3) := by decide +kernel
theorem dL_ranked_13 : decode cL_ranked 13 = .ok (.astore 4, 2) := by decide +kernel
theorem dL_ranked_15 : decode cL_ranked 15 = .ok (.iconst 1, 1) := by decide +kernel
theorem dL_ranked_16 : decode cL_ranked 16 = .ok (.ireturn, 1) := by decide +kernel
theorem dL_ranked_17 : decode cL_ranked 17 = .ok (.iconst 0, 1) := by decide +kernel
theorem dL_ranked_18 : decode cL_ranked 18 = .ok (.ireturn, 1) := by decide +kernel
theorem dL_mostOf_0 : decode cL_mostOf 0 = .ok (.aload_n 2, 1) := by decide +kernel
theorem dL_mostOf_1 : decode cL_mostOf 1 = .ok (.iconst 0, 1) := by decide +kernel
theorem dL_mostOf_2 : decode cL_mostOf 2 = .ok (.aload_n 0, 1) := by decide +kernel
theorem dL_mostOf_3 : decode cL_mostOf 3 = .ok (.iload_n 1, 1) := by decide +kernel
theorem dL_mostOf_4 : decode cL_mostOf 4 = .ok (.invokevirtual 67, 3) := by decide +kernel
theorem dL_mostOf_7 : decode cL_mostOf 7 = .ok (.i2l, 1) := by decide +kernel
theorem dL_mostOf_8 : decode cL_mostOf 8 = .ok (.lastore, 1) := by decide +kernel
theorem dL_mostOf_9 : decode cL_mostOf 9 = .ok (.goto 6, 3) := by decide +kernel
theorem dL_mostOf_12 : decode cL_mostOf 12 = .ok (.astore_n 3, 1) := by decide +kernel
theorem dL_mostOf_13 : decode cL_mostOf 13 = .ok (.iconst 1, 1) := by decide +kernel
theorem dL_mostOf_14 : decode cL_mostOf 14 = .ok (.ireturn, 1) := by decide +kernel
theorem dL_mostOf_15 : decode cL_mostOf 15 = .ok (.iconst 0, 1) := by decide +kernel
theorem dL_mostOf_16 : decode cL_mostOf 16 = .ok (.ireturn, 1) := by decide +kernel
theorem dL_makers_0 : decode cL_makers 0 = .ok (.aload_n 3, 1) := by decide +kernel
theorem dL_makers_1 : decode cL_makers 1 = .ok (.iconst 0, 1) := by decide +kernel
theorem dL_makers_2 : decode cL_makers 2 = .ok (.aload_n 0, 1) := by decide +kernel
theorem dL_makers_3 : decode cL_makers 3 = .ok (.iload_n 1, 1) := by decide +kernel
theorem dL_makers_4 : decode cL_makers 4 = .ok (.iload_n 2, 1) := by decide +kernel
theorem dL_makers_5 : decode cL_makers 5 = .ok (.invokevirtual 70, 3) := by decide +kernel
theorem dL_makers_8 : decode cL_makers 8 = .ok (.i2l, 1) := by decide +kernel
theorem dL_makers_9 : decode cL_makers 9 = .ok (.lastore, 1) := by decide +kernel
theorem dL_makers_10 : decode cL_makers 10 = .ok (.goto 11, 3) := by decide +kernel
theorem dL_makers_13 : decode cL_makers 13 = .ok (.astore 4, 2) := by decide +kernel
theorem dL_makers_15 : decode cL_makers 15 = .ok (.iconst 1, 1) := by decide +kernel
theorem dL_makers_16 : decode cL_makers 16 = .ok (.ireturn, 1) := by decide +kernel
theorem dL_makers_17 : decode cL_makers 17 = .ok (.astore 4, 2) := by decide +kernel
theorem dL_makers_19 : decode cL_makers 19 = .ok (.iconst 2, 1) := by decide +kernel
theorem dL_makers_20 : decode cL_makers 20 = .ok (.ireturn, 1) := by decide +kernel
theorem dL_makers_21 : decode cL_makers 21 = .ok (.iconst 0, 1) := by decide +kernel
theorem dL_makers_22 : decode cL_makers 22 = .ok (.ireturn, 1) := by decide +kernel
theorem dL_needs_0 : decode cL_needs 0 = .ok (.aload_n 3, 1) := by decide +kernel
theorem dL_needs_1 : decode cL_needs 1 = .ok (.iconst 0, 1) := by decide +kernel
theorem dL_needs_2 : decode cL_needs 2 = .ok (.aload_n 0, 1) := by decide +kernel
theorem dL_needs_3 : decode cL_needs 3 = .ok (.iload_n 1, 1) := by decide +kernel
theorem dL_needs_4 : decode cL_needs 4 = .ok (.iload_n 2, 1) := by decide +kernel
theorem dL_needs_5 : decode cL_needs 5 = .ok (.invokevirtual 73, 3) := by decide +kernel
theorem dL_needs_8 : decode cL_needs 8 = .ok (.i2l, 1) := by decide +kernel
theorem dL_needs_9 : decode cL_needs 9 = .ok (.lastore, 1) := by decide +kernel
theorem dL_needs_10 : decode cL_needs 10 = .ok (.goto 11, 3) := by decide +kernel
theorem dL_needs_13 : decode cL_needs 13 = .ok (.astore 4, 2) := by decide +kernel
theorem dL_needs_15 : decode cL_needs 15 = .ok (.iconst 1, 1) := by decide +kernel
theorem dL_needs_16 : decode cL_needs 16 = .ok (.ireturn, 1) := by decide +kernel
theorem dL_needs_17 : decode cL_needs 17 = .ok (.astore 4, 2) := by decide +kernel
theorem dL_needs_19 : decode cL_needs 19 = .ok (.iconst 2, 1) := by decide +kernel
theorem dL_needs_20 : decode cL_needs 20 = .ok (.ireturn, 1) := by decide +kernel
theorem dL_needs_21 : decode cL_needs 21 = .ok (.iconst 0, 1) := by decide +kernel
theorem dL_needs_22 : decode cL_needs 22 = .ok (.ireturn, 1) := by decide +kernel
theorem dL_nearTo_0 : decode cL_nearTo 0 = .ok (.aload_n 3, 1) := by decide +kernel
theorem dL_nearTo_1 : decode cL_nearTo 1 = .ok (.iconst 0, 1) := by decide +kernel
theorem dL_nearTo_2 : decode cL_nearTo 2 = .ok (.aload_n 0, 1) := by decide +kernel
theorem dL_nearTo_3 : decode cL_nearTo 3 = .ok (.iload_n 1, 1) := by decide +kernel
theorem dL_nearTo_4 : decode cL_nearTo 4 = .ok (.iload_n 2, 1) := by decide +kernel
theorem dL_nearTo_5 : decode cL_nearTo 5 = .ok (.invokevirtual 76, 3) := by decide +kernel
theorem dL_nearTo_8 : decode cL_nearTo 8 = .ok (.i2l, 1) := by decide +kernel
theorem dL_nearTo_9 : decode cL_nearTo 9 = .ok (.lastore, 1) := by decide +kernel
theorem dL_nearTo_10 : decode cL_nearTo 10 = .ok (.goto 7, 3) := by decide +kernel
theorem dL_nearTo_13 : decode cL_nearTo 13 = .ok (.astore 4, 2) := by decide +kernel
theorem dL_nearTo_15 : decode cL_nearTo 15 = .ok (.iconst 1, 1) := by decide +kernel
theorem dL_nearTo_16 : decode cL_nearTo 16 = .ok (.ireturn, 1) := by decide +kernel
theorem dL_nearTo_17 : decode cL_nearTo 17 = .ok (.iconst 0, 1) := by decide +kernel
theorem dL_nearTo_18 : decode cL_nearTo 18 = .ok (.ireturn, 1) := by decide +kernel
theorem dL_debtOf_0 : decode cL_debtOf 0 = .ok (.aload_n 3, 1) := by decide +kernel
theorem dL_debtOf_1 : decode cL_debtOf 1 = .ok (.iconst 0, 1) := by decide +kernel
theorem dL_debtOf_2 : decode cL_debtOf 2 = .ok (.aload_n 0, 1) := by decide +kernel
theorem dL_debtOf_3 : decode cL_debtOf 3 = .ok (.iload_n 1, 1) := by decide +kernel
theorem dL_debtOf_4 : decode cL_debtOf 4 = .ok (.iload_n 2, 1) := by decide +kernel
theorem dL_debtOf_5 : decode cL_debtOf 5 = .ok (.invokevirtual 79, 3) := by decide +kernel
theorem dL_debtOf_8 : decode cL_debtOf 8 = .ok (.i2l, 1) := by decide +kernel
theorem dL_debtOf_9 : decode cL_debtOf 9 = .ok (.lastore, 1) := by decide +kernel
theorem dL_debtOf_10 : decode cL_debtOf 10 = .ok (.goto 7, 3) := by decide +kernel
theorem dL_debtOf_13 : decode cL_debtOf 13 = .ok (.astore 4, 2) := by decide +kernel
theorem dL_debtOf_15 : decode cL_debtOf 15 = .ok (.iconst 1, 1) := by decide +kernel
theorem dL_debtOf_16 : decode cL_debtOf 16 = .ok (.ireturn, 1) := by decide +kernel
theorem dL_debtOf_17 : decode cL_debtOf 17 = .ok (.iconst 0, 1) := by decide +kernel
theorem dL_debtOf_18 : decode cL_debtOf 18 = .ok (.ireturn, 1) := by decide +kernel
theorem dL_canPay_0 : decode cL_canPay 0 = .ok (.aload_n 2, 1) := by decide +kernel
theorem dL_canPay_1 : decode cL_canPay 1 = .ok (.iconst 0, 1) := by decide +kernel
theorem dL_canPay_2 : decode cL_canPay 2 = .ok (.aload_n 0, 1) := by decide +kernel
theorem dL_canPay_3 : decode cL_canPay 3 = .ok (.iload_n 1, 1) := by decide +kernel
theorem dL_canPay_4 : decode cL_canPay 4 = .ok (.invokevirtual 82, 3) := by decide +kernel
theorem dL_canPay_7 : decode cL_canPay 7 = .ok (.ifCond .eq 7, 3) := by decide +kernel
theorem dL_canPay_10 : decode cL_canPay 10 = .ok (.lconst 1, 1) := by decide +kernel
theorem dL_canPay_11 : decode cL_canPay 11 = .ok (.goto 4, 3) := by decide +kernel
theorem dL_canPay_14 : decode cL_canPay 14 = .ok (.lconst 0, 1) := by decide +kernel
theorem dL_canPay_15 : decode cL_canPay 15 = .ok (.lastore, 1) := by decide +kernel
theorem dL_canPay_16 : decode cL_canPay 16 = .ok (.goto 6, 3) := by decide +kernel
theorem dL_canPay_19 : decode cL_canPay 19 = .ok (.astore_n 3, 1) := by decide +kernel
theorem dL_canPay_20 : decode cL_canPay 20 = .ok (.iconst 1, 1) := by decide +kernel
theorem dL_canPay_21 : decode cL_canPay 21 = .ok (.ireturn, 1) := by decide +kernel
theorem dL_canPay_22 : decode cL_canPay 22 = .ok (.iconst 0, 1) := by decide +kernel
theorem dL_canPay_23 : decode cL_canPay 23 = .ok (.ireturn, 1) := by decide +kernel
theorem dL_refusals_0 : decode cL_refusals 0 = .ok (.aload_n 2, 1) := by decide +kernel
theorem dL_refusals_1 : decode cL_refusals 1 = .ok (.iconst 0, 1) := by decide +kernel
theorem dL_refusals_2 : decode cL_refusals 2 = .ok (.aload_n 0, 1) := by decide +kernel
theorem dL_refusals_3 : decode cL_refusals 3 = .ok (.iload_n 1, 1) := by decide +kernel
theorem dL_refusals_4 : decode cL_refusals 4 = .ok (.invokevirtual 86, 3) := by decide +kernel
theorem dL_refusals_7 : decode cL_refusals 7 = .ok (.i2l, 1) := by decide +kernel
theorem dL_refusals_8 : decode cL_refusals 8 = .ok (.lastore, 1) := by decide +kernel
theorem dL_refusals_9 : decode cL_refusals 9 = .ok (.goto 6, 3) := by decide +kernel
theorem dL_refusals_12 : decode cL_refusals 12 = .ok (.astore_n 3, 1) := by decide +kernel
theorem dL_refusals_13 : decode cL_refusals 13 = .ok (.iconst 1, 1) := by decide +kernel
theorem dL_refusals_14 : decode cL_refusals 14 = .ok (.ireturn, 1) := by decide +kernel
theorem dL_refusals_15 : decode cL_refusals 15 = .ok (.iconst 0, 1) := by decide +kernel
theorem dL_refusals_16 : decode cL_refusals 16 = .ok (.ireturn, 1) := by decide +kernel
theorem dL_ownShare_0 : decode cL_ownShare 0 = .ok (.aload_n 2, 1) := by decide +kernel
theorem dL_ownShare_1 : decode cL_ownShare 1 = .ok (.iconst 0, 1) := by decide +kernel
theorem dL_ownShare_2 : decode cL_ownShare 2 = .ok (.aload_n 0, 1) := by decide +kernel
theorem dL_ownShare_3 : decode cL_ownShare 3 = .ok (.iload_n 1, 1) := by decide +kernel
theorem dL_ownShare_4 : decode cL_ownShare 4 = .ok (.invokevirtual 89, 3) := by decide +kernel
theorem dL_ownShare_7 : decode cL_ownShare 7 = .ok (.f2d, 1) := by decide +kernel
theorem dL_ownShare_8 : decode cL_ownShare 8 = .ok (.dastore, 1) := by decide +kernel
theorem dL_ownShare_9 : decode cL_ownShare 9 = .ok (.goto 6, 3) := by decide +kernel
theorem dL_ownShare_12 : decode cL_ownShare 12 = .ok (.astore_n 3, 1) := by decide +kernel
theorem dL_ownShare_13 : decode cL_ownShare 13 = .ok (.iconst 1, 1) := by decide +kernel
theorem dL_ownShare_14 : decode cL_ownShare 14 = .ok (.ireturn, 1) := by decide +kernel
theorem dL_ownShare_15 : decode cL_ownShare 15 = .ok (.iconst 0, 1) := by decide +kernel
theorem dL_ownShare_16 : decode cL_ownShare 16 = .ok (.ireturn, 1) := by decide +kernel
theorem dL_couldMake_0 : decode cL_couldMake 0 = .ok (.aload_n 3, 1) := by decide +kernel
theorem dL_couldMake_1 : decode cL_couldMake 1 = .ok (.iconst 0, 1) := by decide +kernel
theorem dL_couldMake_2 : decode cL_couldMake 2 = .ok (.aload_n 0, 1) := by decide +kernel
theorem dL_couldMake_3 : decode cL_couldMake 3 = .ok (.iload_n 1, 1) := by decide +kernel
theorem dL_couldMake_4 : decode cL_couldMake 4 = .ok (.iload_n 2, 1) := by decide +kernel
theorem dL_couldMake_5 : decode cL_couldMake 5 = .ok (.invokevirtual 93, 3) := by decide +kernel
theorem dL_couldMake_8 : decode cL_couldMake 8 = .ok (.i2l, 1) := by decide +kernel
theorem dL_couldMake_9 : decode cL_couldMake 9 = .ok (.lastore, 1) := by decide +kernel
theorem dL_couldMake_10 : decode cL_couldMake 10 = .ok (.goto 11, 3) := by decide +kernel
theorem dL_couldMake_13 : decode cL_couldMake 13 = .ok (.astore 4, 2) := by decide +kernel
theorem dL_couldMake_15 : decode cL_couldMake 15 = .ok (.iconst 1, 1) := by decide +kernel
theorem dL_couldMake_16 : decode cL_couldMake 16 = .ok (.ireturn, 1) := by decide +kernel
theorem dL_couldMake_17 : decode cL_couldMake 17 = .ok (.astore 4, 2) := by decide +kernel
theorem dL_couldMake_19 : decode cL_couldMake 19 = .ok (.iconst 2, 1) := by decide +kernel
theorem dL_couldMake_20 : decode cL_couldMake 20 = .ok (.ireturn, 1) := by decide +kernel
theorem dL_couldMake_21 : decode cL_couldMake 21 = .ok (.iconst 0, 1) := by decide +kernel
theorem dL_couldMake_22 : decode cL_couldMake 22 = .ok (.ireturn, 1) := by decide +kernel
theorem dL_ifWeek_0 : decode cL_ifWeek 0 = .ok (.aload_n 3, 1) := by decide +kernel
theorem dL_ifWeek_1 : decode cL_ifWeek 1 = .ok (.iconst 0, 1) := by decide +kernel
theorem dL_ifWeek_2 : decode cL_ifWeek 2 = .ok (.aload_n 0, 1) := by decide +kernel
theorem dL_ifWeek_3 : decode cL_ifWeek 3 = .ok (.iload_n 1, 1) := by decide +kernel
theorem dL_ifWeek_4 : decode cL_ifWeek 4 = .ok (.iload_n 2, 1) := by decide +kernel
theorem dL_ifWeek_5 : decode cL_ifWeek 5 = .ok (.invokevirtual 96, 3) := by decide +kernel
theorem dL_ifWeek_8 : decode cL_ifWeek 8 = .ok (.i2l, 1) := by decide +kernel
theorem dL_ifWeek_9 : decode cL_ifWeek 9 = .ok (.lastore, 1) := by decide +kernel
theorem dL_ifWeek_10 : decode cL_ifWeek 10 = .ok (.goto 11, 3) := by decide +kernel
theorem dL_ifWeek_13 : decode cL_ifWeek 13 = .ok (.astore 4, 2) := by decide +kernel
theorem dL_ifWeek_15 : decode cL_ifWeek 15 = .ok (.iconst 1, 1) := by decide +kernel
theorem dL_ifWeek_16 : decode cL_ifWeek 16 = .ok (.ireturn, 1) := by decide +kernel
theorem dL_ifWeek_17 : decode cL_ifWeek 17 = .ok (.astore 4, 2) := by decide +kernel
theorem dL_ifWeek_19 : decode cL_ifWeek 19 = .ok (.iconst 2, 1) := by decide +kernel
theorem dL_ifWeek_20 : decode cL_ifWeek 20 = .ok (.ireturn, 1) := by decide +kernel
theorem dL_ifWeek_21 : decode cL_ifWeek 21 = .ok (.iconst 0, 1) := by decide +kernel
theorem dL_ifWeek_22 : decode cL_ifWeek 22 = .ok (.ireturn, 1) := by decide +kernel
theorem dL_ifPassed_0 : decode cL_ifPassed 0 = .ok (.aload_n 3, 1) := by decide +kernel
theorem dL_ifPassed_1 : decode cL_ifPassed 1 = .ok (.iconst 0, 1) := by decide +kernel
theorem dL_ifPassed_2 : decode cL_ifPassed 2 = .ok (.aload_n 0, 1) := by decide +kernel
theorem dL_ifPassed_3 : decode cL_ifPassed 3 = .ok (.iload_n 1, 1) := by decide +kernel
theorem dL_ifPassed_4 : decode cL_ifPassed 4 = .ok (.iload_n 2, 1) := by decide +kernel
theorem dL_ifPassed_5 : decode cL_ifPassed 5 = .ok (.invokevirtual 99, 3) := by decide +kernel
theorem dL_ifPassed_8 : decode cL_ifPassed 8 = .ok (.i2l, 1) := by decide +kernel
theorem dL_ifPassed_9 : decode cL_ifPassed 9 = .ok (.lastore, 1) := by decide +kernel
theorem dL_ifPassed_10 : decode cL_ifPassed 10 = .ok (.goto 7, 3) := by decide +kernel
theorem dL_ifPassed_13 : decode cL_ifPassed 13 = .ok (.astore 4, 2) := by decide +kernel
theorem dL_ifPassed_15 : decode cL_ifPassed 15 = .ok (.iconst 1, 1) := by decide +kernel
theorem dL_ifPassed_16 : decode cL_ifPassed 16 = .ok (.ireturn, 1) := by decide +kernel
theorem dL_ifPassed_17 : decode cL_ifPassed 17 = .ok (.iconst 0, 1) := by decide +kernel
theorem dL_ifPassed_18 : decode cL_ifPassed 18 = .ok (.ireturn, 1) := by decide +kernel
theorem dL_freeIn_0 : decode cL_freeIn 0 = .ok (.aload_n 2, 1) := by decide +kernel
theorem dL_freeIn_1 : decode cL_freeIn 1 = .ok (.iconst 0, 1) := by decide +kernel
theorem dL_freeIn_2 : decode cL_freeIn 2 = .ok (.aload_n 0, 1) := by decide +kernel
theorem dL_freeIn_3 : decode cL_freeIn 3 = .ok (.iload_n 1, 1) := by decide +kernel
theorem dL_freeIn_4 : decode cL_freeIn 4 = .ok (.invokevirtual 102, 3) := by decide +kernel
theorem dL_freeIn_7 : decode cL_freeIn 7 = .ok (.i2l, 1) := by decide +kernel
theorem dL_freeIn_8 : decode cL_freeIn 8 = .ok (.lastore, 1) := by decide +kernel
theorem dL_freeIn_9 : decode cL_freeIn 9 = .ok (.goto 6, 3) := by decide +kernel
theorem dL_freeIn_12 : decode cL_freeIn 12 = .ok (.astore_n 3, 1) := by decide +kernel
theorem dL_freeIn_13 : decode cL_freeIn 13 = .ok (.iconst 1, 1) := by decide +kernel
theorem dL_freeIn_14 : decode cL_freeIn 14 = .ok (.ireturn, 1) := by decide +kernel
theorem dL_freeIn_15 : decode cL_freeIn 15 = .ok (.iconst 0, 1) := by decide +kernel
theorem dL_freeIn_16 : decode cL_freeIn 16 = .ok (.ireturn, 1) := by decide +kernel
theorem dL_ifMoved_0 : decode cL_ifMoved 0 = .ok (.aload 4, 2) := by decide +kernel
theorem dL_ifMoved_2 : decode cL_ifMoved 2 = .ok (.iconst 0, 1) := by decide +kernel
theorem dL_ifMoved_3 : decode cL_ifMoved 3 = .ok (.aload_n 0, 1) := by decide +kernel
theorem dL_ifMoved_4 : decode cL_ifMoved 4 = .ok (.iload_n 1, 1) := by decide +kernel
theorem dL_ifMoved_5 : decode cL_ifMoved 5 = .ok (.iload_n 2, 1) := by decide +kernel
theorem dL_ifMoved_6 : decode cL_ifMoved 6 = .ok (.iload_n 3, 1) := by decide +kernel
theorem dL_ifMoved_7 : decode cL_ifMoved 7 = .ok (.invokevirtual 105, 3) := by decide +kernel
theorem dL_ifMoved_10 : decode cL_ifMoved 10 = .ok (.i2l, 1) := by decide +kernel
theorem dL_ifMoved_11 : decode cL_ifMoved 11 = .ok (.lastore, 1) := by decide +kernel
theorem dL_ifMoved_12 : decode cL_ifMoved 12 = .ok (.goto 11, 3) := by decide +kernel
theorem dL_ifMoved_15 : decode cL_ifMoved 15 = .ok (.astore 5, 2) := by decide +kernel
theorem dL_ifMoved_17 : decode cL_ifMoved 17 = .ok (.iconst 1, 1) := by decide +kernel
theorem dL_ifMoved_18 : decode cL_ifMoved 18 = .ok (.ireturn, 1) := by decide +kernel
theorem dL_ifMoved_19 : decode cL_ifMoved 19 = .ok (.astore 5, 2) := by decide +kernel
theorem dL_ifMoved_21 : decode cL_ifMoved 21 = .ok (.iconst 2, 1) := by decide +kernel
theorem dL_ifMoved_22 : decode cL_ifMoved 22 = .ok (.ireturn, 1) := by decide +kernel
theorem dL_ifMoved_23 : decode cL_ifMoved 23 = .ok (.iconst 0, 1) := by decide +kernel
theorem dL_ifMoved_24 : decode cL_ifMoved 24 = .ok (.ireturn, 1) := by decide +kernel
theorem dL_whySwap_0 : decode cL_whySwap 0 = .ok (.aload 5, 2) := by decide +kernel
theorem dL_whySwap_2 : decode cL_whySwap 2 = .ok (.iconst 0, 1) := by decide +kernel
theorem dL_whySwap_3 : decode cL_whySwap 3 = .ok (.aload_n 0, 1) := by decide +kernel
theorem dL_whySwap_4 : decode cL_whySwap 4 = .ok (.iload_n 1, 1) := by decide +kernel
theorem dL_whySwap_5 : decode cL_whySwap 5 = .ok (.iload_n 2, 1) := by decide +kernel
theorem dL_whySwap_6 : decode cL_whySwap 6 = .ok (.iload_n 3, 1) := by decide +kernel
theorem dL_whySwap_7 : decode cL_whySwap 7 = .ok (.iload 4, 2) := by decide +kernel
theorem dL_whySwap_9 : decode cL_whySwap 9 = .ok (.invokevirtual 108, 3) := by decide +kernel
theorem dL_whySwap_12 : decode cL_whySwap 12 = .ok (.i2l, 1) := by decide +kernel
theorem dL_whySwap_13 : decode cL_whySwap 13 = .ok (.lastore, 1) := by decide +kernel
theorem dL_whySwap_14 : decode cL_whySwap 14 = .ok (.goto 11, 3) := by decide +kernel
theorem dL_whySwap_17 : decode cL_whySwap 17 = .ok (.astore 6, 2) := by decide +kernel
theorem dL_whySwap_19 : decode cL_whySwap 19 = .ok (.iconst 1, 1) := by decide +kernel
theorem dL_whySwap_20 : decode cL_whySwap 20 = .ok (.ireturn, 1) := by decide +kernel
theorem dL_whySwap_21 : decode cL_whySwap 21 = .ok (.astore 6, 2) := by decide +kernel
theorem dL_whySwap_23 : decode cL_whySwap 23 = .ok (.iconst 2, 1) := by decide +kernel
theorem dL_whySwap_24 : decode cL_whySwap 24 = .ok (.ireturn, 1) := by decide +kernel
theorem dL_whySwap_25 : decode cL_whySwap 25 = .ok (.iconst 0, 1) := by decide +kernel
theorem dL_whySwap_26 : decode cL_whySwap 26 = .ok (.ireturn, 1) := by decide +kernel
theorem dL_whyLend_0 : decode cL_whyLend 0 = .ok (.aload 5, 2) := by decide +kernel
theorem dL_whyLend_2 : decode cL_whyLend 2 = .ok (.iconst 0, 1) := by decide +kernel
theorem dL_whyLend_3 : decode cL_whyLend 3 = .ok (.aload_n 0, 1) := by decide +kernel
theorem dL_whyLend_4 : decode cL_whyLend 4 = .ok (.iload_n 1, 1) := by decide +kernel
theorem dL_whyLend_5 : decode cL_whyLend 5 = .ok (.iload_n 2, 1) := by decide +kernel
theorem dL_whyLend_6 : decode cL_whyLend 6 = .ok (.iload_n 3, 1) := by decide +kernel
theorem dL_whyLend_7 : decode cL_whyLend 7 = .ok (.iload 4, 2) := by decide +kernel
theorem dL_whyLend_9 : decode cL_whyLend 9 = .ok (.invokevirtual 112, 3) := by decide +kernel
theorem dL_whyLend_12 : decode cL_whyLend 12 = .ok (.i2l, 1) := by decide +kernel
theorem dL_whyLend_13 : decode cL_whyLend 13 = .ok (.lastore, 1) := by decide +kernel
theorem dL_whyLend_14 : decode cL_whyLend 14 = .ok (.goto 11, 3) := by decide +kernel
theorem dL_whyLend_17 : decode cL_whyLend 17 = .ok (.astore 6, 2) := by decide +kernel
theorem dL_whyLend_19 : decode cL_whyLend 19 = .ok (.iconst 1, 1) := by decide +kernel
theorem dL_whyLend_20 : decode cL_whyLend 20 = .ok (.ireturn, 1) := by decide +kernel
theorem dL_whyLend_21 : decode cL_whyLend 21 = .ok (.astore 6, 2) := by decide +kernel
theorem dL_whyLend_23 : decode cL_whyLend 23 = .ok (.iconst 2, 1) := by decide +kernel
theorem dL_whyLend_24 : decode cL_whyLend 24 = .ok (.ireturn, 1) := by decide +kernel
theorem dL_whyLend_25 : decode cL_whyLend 25 = .ok (.iconst 0, 1) := by decide +kernel
theorem dL_whyLend_26 : decode cL_whyLend 26 = .ok (.ireturn, 1) := by decide +kernel
theorem dL_safestBench_0 : decode cL_safestBench 0 = .ok (.aload_n 2, 1) := by decide +kernel
theorem dL_safestBench_1 : decode cL_safestBench 1 = .ok (.iconst 0, 1) := by decide +kernel
theorem dL_safestBench_2 : decode cL_safestBench 2 = .ok (.aload_n 0, 1) := by decide +kernel
theorem dL_safestBench_3 : decode cL_safestBench 3 = .ok (.iload_n 1, 1) := by decide +kernel
theorem dL_safestBench_4 : decode cL_safestBench 4 = .ok (.invokevirtual 115, 3) := by decide +kernel
theorem dL_safestBench_7 : decode cL_safestBench 7 = .ok (.i2l, 1) := by decide +kernel
theorem dL_safestBench_8 : decode cL_safestBench 8 = .ok (.lastore, 1) := by decide +kernel
theorem dL_safestBench_9 : decode cL_safestBench 9 = .ok (.goto 6, 3) := by decide +kernel
theorem dL_safestBench_12 : decode cL_safestBench 12 = .ok (.astore_n 3, 1) := by decide +kernel
theorem dL_safestBench_13 : decode cL_safestBench 13 = .ok (.iconst 1, 1) := by decide +kernel
theorem dL_safestBench_14 : decode cL_safestBench 14 = .ok (.ireturn, 1) := by decide +kernel
theorem dL_safestBench_15 : decode cL_safestBench 15 = .ok (.iconst 0, 1) := by decide +kernel
theorem dL_safestBench_16 : decode cL_safestBench 16 = .ok (.ireturn, 1) := by decide +kernel
theorem dL_safestPartner_0 : decode cL_safestPartner 0 = .ok (.aload_n 2, 1) := by decide +kernel
theorem dL_safestPartner_1 : decode cL_safestPartner 1 = .ok (.iconst 0, 1) := by decide +kernel
theorem dL_safestPartner_2 : decode cL_safestPartner 2 = .ok (.aload_n 0, 1) := by decide +kernel
theorem dL_safestPartner_3 : decode cL_safestPartner 3 = .ok (.iload_n 1, 1) := by decide +kernel
theorem dL_safestPartner_4 : decode cL_safestPartner 4 = .ok (.invokevirtual 118, 3) := by decide +kernel
theorem dL_safestPartner_7 : decode cL_safestPartner 7 = .ok (.i2l, 1) := by decide +kernel
theorem dL_safestPartner_8 : decode cL_safestPartner 8 = .ok (.lastore, 1) := by decide +kernel
theorem dL_safestPartner_9 : decode cL_safestPartner 9 = .ok (.goto 6, 3) := by decide +kernel
theorem dL_safestPartner_12 : decode cL_safestPartner 12 = .ok (.astore_n 3, 1) := by decide +kernel
theorem dL_safestPartner_13 : decode cL_safestPartner 13 = .ok (.iconst 1, 1) := by decide +kernel
theorem dL_safestPartner_14 : decode cL_safestPartner 14 = .ok (.ireturn, 1) := by decide +kernel
theorem dL_safestPartner_15 : decode cL_safestPartner 15 = .ok (.iconst 0, 1) := by decide +kernel
theorem dL_safestPartner_16 : decode cL_safestPartner 16 = .ok (.ireturn, 1) := by decide +kernel
theorem dL_drownsIn_0 : decode cL_drownsIn 0 = .ok (.aload_n 3, 1) := by decide +kernel
theorem dL_drownsIn_1 : decode cL_drownsIn 1 = .ok (.iconst 0, 1) := by decide +kernel
theorem dL_drownsIn_2 : decode cL_drownsIn 2 = .ok (.aload_n 0, 1) := by decide +kernel
theorem dL_drownsIn_3 : decode cL_drownsIn 3 = .ok (.iload_n 1, 1) := by decide +kernel
theorem dL_drownsIn_4 : decode cL_drownsIn 4 = .ok (.iload_n 2, 1) := by decide +kernel
theorem dL_drownsIn_5 : decode cL_drownsIn 5 = .ok (.invokevirtual 121, 3) := by decide +kernel
theorem dL_drownsIn_8 : decode cL_drownsIn 8 = .ok (.i2l, 1) := by decide +kernel
theorem dL_drownsIn_9 : decode cL_drownsIn 9 = .ok (.lastore, 1) := by decide +kernel
theorem dL_drownsIn_10 : decode cL_drownsIn 10 = .ok (.goto 11, 3) := by decide +kernel
theorem dL_drownsIn_13 : decode cL_drownsIn 13 = .ok (.astore 4, 2) := by decide +kernel
theorem dL_drownsIn_15 : decode cL_drownsIn 15 = .ok (.iconst 1, 1) := by decide +kernel
theorem dL_drownsIn_16 : decode cL_drownsIn 16 = .ok (.ireturn, 1) := by decide +kernel
theorem dL_drownsIn_17 : decode cL_drownsIn 17 = .ok (.astore 4, 2) := by decide +kernel
theorem dL_drownsIn_19 : decode cL_drownsIn 19 = .ok (.iconst 2, 1) := by decide +kernel
theorem dL_drownsIn_20 : decode cL_drownsIn 20 = .ok (.ireturn, 1) := by decide +kernel
theorem dL_drownsIn_21 : decode cL_drownsIn 21 = .ok (.iconst 0, 1) := by decide +kernel
theorem dL_drownsIn_22 : decode cL_drownsIn 22 = .ok (.ireturn, 1) := by decide +kernel
theorem dL_work_0 : decode cL_work 0 = .ok (.aload 4, 2) := by decide +kernel
theorem dL_work_2 : decode cL_work 2 = .ok (.iconst 0, 1) := by decide +kernel
theorem dL_work_3 : decode cL_work 3 = .ok (.aload_n 0, 1) := by decide +kernel
theorem dL_work_4 : decode cL_work 4 = .ok (.iload_n 1, 1) := by decide +kernel
theorem dL_work_5 : decode cL_work 5 = .ok (.iload_n 2, 1) := by decide +kernel
theorem dL_work_6 : decode cL_work 6 = .ok (.iload_n 3, 1) := by decide +kernel
theorem dL_work_7 : decode cL_work 7 = .ok (.invokevirtual 124, 3) := by decide +kernel
theorem dL_work_10 : decode cL_work 10 = .ok (.i2l, 1) := by decide +kernel
theorem dL_work_11 : decode cL_work 11 = .ok (.lastore, 1) := by decide +kernel
theorem dL_work_12 : decode cL_work 12 = .ok (.goto 11, 3) := by decide +kernel
theorem dL_work_15 : decode cL_work 15 = .ok (.astore 5, 2) := by decide +kernel
theorem dL_work_17 : decode cL_work 17 = .ok (.iconst 1, 1) := by decide +kernel
theorem dL_work_18 : decode cL_work 18 = .ok (.ireturn, 1) := by decide +kernel
theorem dL_work_19 : decode cL_work 19 = .ok (.astore 5, 2) := by decide +kernel
theorem dL_work_21 : decode cL_work 21 = .ok (.iconst 2, 1) := by decide +kernel
theorem dL_work_22 : decode cL_work 22 = .ok (.ireturn, 1) := by decide +kernel
theorem dL_work_23 : decode cL_work 23 = .ok (.iconst 0, 1) := by decide +kernel
theorem dL_work_24 : decode cL_work 24 = .ok (.ireturn, 1) := by decide +kernel
theorem dL_swap_0 : decode cL_swap 0 = .ok (.aload 5, 2) := by decide +kernel
theorem dL_swap_2 : decode cL_swap 2 = .ok (.iconst 0, 1) := by decide +kernel
theorem dL_swap_3 : decode cL_swap 3 = .ok (.aload_n 0, 1) := by decide +kernel
theorem dL_swap_4 : decode cL_swap 4 = .ok (.iload_n 1, 1) := by decide +kernel
theorem dL_swap_5 : decode cL_swap 5 = .ok (.iload_n 2, 1) := by decide +kernel
theorem dL_swap_6 : decode cL_swap 6 = .ok (.iload_n 3, 1) := by decide +kernel
theorem dL_swap_7 : decode cL_swap 7 = .ok (.iload 4, 2) := by decide +kernel
theorem dL_swap_9 : decode cL_swap 9 = .ok (.invokevirtual 127, 3) := by decide +kernel
theorem dL_swap_12 : decode cL_swap 12 = .ok (.i2l, 1) := by decide +kernel
theorem dL_swap_13 : decode cL_swap 13 = .ok (.lastore, 1) := by decide +kernel
theorem dL_swap_14 : decode cL_swap 14 = .ok (.goto 11, 3) := by decide +kernel
theorem dL_swap_17 : decode cL_swap 17 = .ok (.astore 6, 2) := by decide +kernel
theorem dL_swap_19 : decode cL_swap 19 = .ok (.iconst 1, 1) := by decide +kernel
theorem dL_swap_20 : decode cL_swap 20 = .ok (.ireturn, 1) := by decide +kernel
theorem dL_swap_21 : decode cL_swap 21 = .ok (.astore 6, 2) := by decide +kernel
theorem dL_swap_23 : decode cL_swap 23 = .ok (.iconst 2, 1) := by decide +kernel
theorem dL_swap_24 : decode cL_swap 24 = .ok (.ireturn, 1) := by decide +kernel
theorem dL_swap_25 : decode cL_swap 25 = .ok (.iconst 0, 1) := by decide +kernel
theorem dL_swap_26 : decode cL_swap 26 = .ok (.ireturn, 1) := by decide +kernel
theorem dL_lend_0 : decode cL_lend 0 = .ok (.aload 5, 2) := by decide +kernel
theorem dL_lend_2 : decode cL_lend 2 = .ok (.iconst 0, 1) := by decide +kernel
theorem dL_lend_3 : decode cL_lend 3 = .ok (.aload_n 0, 1) := by decide +kernel
theorem dL_lend_4 : decode cL_lend 4 = .ok (.iload_n 1, 1) := by decide +kernel
theorem dL_lend_5 : decode cL_lend 5 = .ok (.iload_n 2, 1) := by decide +kernel
theorem dL_lend_6 : decode cL_lend 6 = .ok (.iload_n 3, 1) := by decide +kernel
theorem dL_lend_7 : decode cL_lend 7 = .ok (.iload 4, 2) := by decide +kernel
theorem dL_lend_9 : decode cL_lend 9 = .ok (.invokevirtual 130, 3) := by decide +kernel
theorem dL_lend_12 : decode cL_lend 12 = .ok (.i2l, 1) := by decide +kernel
theorem dL_lend_13 : decode cL_lend 13 = .ok (.lastore, 1) := by decide +kernel
theorem dL_lend_14 : decode cL_lend 14 = .ok (.goto 11, 3) := by decide +kernel
theorem dL_lend_17 : decode cL_lend 17 = .ok (.astore 6, 2) := by decide +kernel
theorem dL_lend_19 : decode cL_lend 19 = .ok (.iconst 1, 1) := by decide +kernel
theorem dL_lend_20 : decode cL_lend 20 = .ok (.ireturn, 1) := by decide +kernel
theorem dL_lend_21 : decode cL_lend 21 = .ok (.astore 6, 2) := by decide +kernel
theorem dL_lend_23 : decode cL_lend 23 = .ok (.iconst 2, 1) := by decide +kernel
theorem dL_lend_24 : decode cL_lend 24 = .ok (.ireturn, 1) := by decide +kernel
theorem dL_lend_25 : decode cL_lend 25 = .ok (.iconst 0, 1) := by decide +kernel
theorem dL_lend_26 : decode cL_lend 26 = .ok (.ireturn, 1) := by decide +kernel
theorem dL_payBack_0 : decode cL_payBack 0 = .ok (.aload 5, 2) := by decide +kernel
theorem dL_payBack_2 : decode cL_payBack 2 = .ok (.iconst 0, 1) := by decide +kernel
theorem dL_payBack_3 : decode cL_payBack 3 = .ok (.aload_n 0, 1) := by decide +kernel
theorem dL_payBack_4 : decode cL_payBack 4 = .ok (.iload_n 1, 1) := by decide +kernel
theorem dL_payBack_5 : decode cL_payBack 5 = .ok (.iload_n 2, 1) := by decide +kernel
theorem dL_payBack_6 : decode cL_payBack 6 = .ok (.iload_n 3, 1) := by decide +kernel
theorem dL_payBack_7 : decode cL_payBack 7 = .ok (.iload 4, 2) := by decide +kernel
theorem dL_payBack_9 : decode cL_payBack 9 = .ok (.invokevirtual 133, 3) := by decide +kernel
theorem dL_payBack_12 : decode cL_payBack 12 = .ok (.i2l, 1) := by decide +kernel
theorem dL_payBack_13 : decode cL_payBack 13 = .ok (.lastore, 1) := by decide +kernel
theorem dL_payBack_14 : decode cL_payBack 14 = .ok (.goto 11, 3) := by decide +kernel
theorem dL_payBack_17 : decode cL_payBack 17 = .ok (.astore 6, 2) := by decide +kernel
theorem dL_payBack_19 : decode cL_payBack 19 = .ok (.iconst 1, 1) := by decide +kernel
theorem dL_payBack_20 : decode cL_payBack 20 = .ok (.ireturn, 1) := by decide +kernel
theorem dL_payBack_21 : decode cL_payBack 21 = .ok (.astore 6, 2) := by decide +kernel
theorem dL_payBack_23 : decode cL_payBack 23 = .ok (.iconst 2, 1) := by decide +kernel
theorem dL_payBack_24 : decode cL_payBack 24 = .ok (.ireturn, 1) := by decide +kernel
theorem dL_payBack_25 : decode cL_payBack 25 = .ok (.iconst 0, 1) := by decide +kernel
theorem dL_payBack_26 : decode cL_payBack 26 = .ok (.ireturn, 1) := by decide +kernel
theorem dL_move_0 : decode cL_move 0 = .ok (.aload 4, 2) := by decide +kernel
theorem dL_move_2 : decode cL_move 2 = .ok (.iconst 0, 1) := by decide +kernel
theorem dL_move_3 : decode cL_move 3 = .ok (.aload_n 0, 1) := by decide +kernel
theorem dL_move_4 : decode cL_move 4 = .ok (.iload_n 1, 1) := by decide +kernel
theorem dL_move_5 : decode cL_move 5 = .ok (.iload_n 2, 1) := by decide +kernel
theorem dL_move_6 : decode cL_move 6 = .ok (.iload_n 3, 1) := by decide +kernel
theorem dL_move_7 : decode cL_move 7 = .ok (.invokevirtual 136, 3) := by decide +kernel
theorem dL_move_10 : decode cL_move 10 = .ok (.i2l, 1) := by decide +kernel
theorem dL_move_11 : decode cL_move 11 = .ok (.lastore, 1) := by decide +kernel
theorem dL_move_12 : decode cL_move 12 = .ok (.goto 11, 3) := by decide +kernel
theorem dL_move_15 : decode cL_move 15 = .ok (.astore 5, 2) := by decide +kernel
theorem dL_move_17 : decode cL_move 17 = .ok (.iconst 1, 1) := by decide +kernel
theorem dL_move_18 : decode cL_move 18 = .ok (.ireturn, 1) := by decide +kernel
theorem dL_move_19 : decode cL_move 19 = .ok (.astore 5, 2) := by decide +kernel
theorem dL_move_21 : decode cL_move 21 = .ok (.iconst 2, 1) := by decide +kernel
theorem dL_move_22 : decode cL_move 22 = .ok (.ireturn, 1) := by decide +kernel
theorem dL_move_23 : decode cL_move 23 = .ok (.iconst 0, 1) := by decide +kernel
theorem dL_move_24 : decode cL_move 24 = .ok (.ireturn, 1) := by decide +kernel
theorem dL_confess_0 : decode cL_confess 0 = .ok (.aload_n 2, 1) := by decide +kernel
theorem dL_confess_1 : decode cL_confess 1 = .ok (.iconst 0, 1) := by decide +kernel
theorem dL_confess_2 : decode cL_confess 2 = .ok (.aload_n 0, 1) := by decide +kernel
theorem dL_confess_3 : decode cL_confess 3 = .ok (.iload_n 1, 1) := by decide +kernel
theorem dL_confess_4 : decode cL_confess 4 = .ok (.invokevirtual 139, 3) := by decide +kernel
theorem dL_confess_7 : decode cL_confess 7 = .ok (.i2l, 1) := by decide +kernel
theorem dL_confess_8 : decode cL_confess 8 = .ok (.lastore, 1) := by decide +kernel
theorem dL_confess_9 : decode cL_confess 9 = .ok (.goto 6, 3) := by decide +kernel
theorem dL_confess_12 : decode cL_confess 12 = .ok (.astore_n 3, 1) := by decide +kernel
theorem dL_confess_13 : decode cL_confess 13 = .ok (.iconst 1, 1) := by decide +kernel
theorem dL_confess_14 : decode cL_confess 14 = .ok (.ireturn, 1) := by decide +kernel
theorem dL_confess_15 : decode cL_confess 15 = .ok (.iconst 0, 1) := by decide +kernel
theorem dL_confess_16 : decode cL_confess 16 = .ok (.ireturn, 1) := by decide +kernel
theorem dL_pass_0 : decode cL_pass 0 = .ok (.aload_n 2, 1) := by decide +kernel
theorem dL_pass_1 : decode cL_pass 1 = .ok (.iconst 0, 1) := by decide +kernel
theorem dL_pass_2 : decode cL_pass 2 = .ok (.aload_n 0, 1) := by decide +kernel
theorem dL_pass_3 : decode cL_pass 3 = .ok (.iload_n 1, 1) := by decide +kernel
theorem dL_pass_4 : decode cL_pass 4 = .ok (.invokevirtual 142, 3) := by decide +kernel
theorem dL_pass_7 : decode cL_pass 7 = .ok (.i2l, 1) := by decide +kernel
theorem dL_pass_8 : decode cL_pass 8 = .ok (.lastore, 1) := by decide +kernel
theorem dL_pass_9 : decode cL_pass 9 = .ok (.goto 6, 3) := by decide +kernel
theorem dL_pass_12 : decode cL_pass 12 = .ok (.astore_n 3, 1) := by decide +kernel
theorem dL_pass_13 : decode cL_pass 13 = .ok (.iconst 1, 1) := by decide +kernel
theorem dL_pass_14 : decode cL_pass 14 = .ok (.ireturn, 1) := by decide +kernel
theorem dL_pass_15 : decode cL_pass 15 = .ok (.iconst 0, 1) := by decide +kernel
theorem dL_pass_16 : decode cL_pass 16 = .ok (.ireturn, 1) := by decide +kernel
theorem dL_write_0 : decode cL_write 0 = .ok (.aload_n 2, 1) := by decide +kernel
theorem dL_write_1 : decode cL_write 1 = .ok (.iconst 0, 1) := by decide +kernel
theorem dL_write_2 : decode cL_write 2 = .ok (.aload_n 0, 1) := by decide +kernel
theorem dL_write_3 : decode cL_write 3 = .ok (.iload_n 1, 1) := by decide +kernel
theorem dL_write_4 : decode cL_write 4 = .ok (.invokevirtual 145, 3) := by decide +kernel
theorem dL_write_7 : decode cL_write 7 = .ok (.i2l, 1) := by decide +kernel
theorem dL_write_8 : decode cL_write 8 = .ok (.lastore, 1) := by decide +kernel
theorem dL_write_9 : decode cL_write 9 = .ok (.goto 6, 3) := by decide +kernel
theorem dL_write_12 : decode cL_write 12 = .ok (.astore_n 3, 1) := by decide +kernel
theorem dL_write_13 : decode cL_write 13 = .ok (.iconst 1, 1) := by decide +kernel
theorem dL_write_14 : decode cL_write 14 = .ok (.ireturn, 1) := by decide +kernel
theorem dL_write_15 : decode cL_write 15 = .ok (.iconst 0, 1) := by decide +kernel
theorem dL_write_16 : decode cL_write 16 = .ok (.ireturn, 1) := by decide +kernel
theorem dL_save_0 : decode cL_save 0 = .ok (.aload_n 0, 1) := by decide +kernel
theorem dL_save_1 : decode cL_save 1 = .ok (.iload_n 1, 1) := by decide +kernel
theorem dL_save_2 : decode cL_save 2 = .ok (.invokevirtual 148, 3) := by decide +kernel
theorem dL_save_5 : decode cL_save 5 = .ok (.goto 6, 3) := by decide +kernel
theorem dL_save_8 : decode cL_save 8 = .ok (.astore_n 2, 1) := by decide +kernel
theorem dL_save_9 : decode cL_save 9 = .ok (.iconst 1, 1) := by decide +kernel
theorem dL_save_10 : decode cL_save 10 = .ok (.ireturn, 1) := by decide +kernel
theorem dL_save_11 : decode cL_save 11 = .ok (.iconst 0, 1) := by decide +kernel
theorem dL_save_12 : decode cL_save 12 = .ok (.ireturn, 1) := by decide +kernel
theorem dL_restore_0 : decode cL_restore 0 = .ok (.aload_n 0, 1) := by decide +kernel
theorem dL_restore_1 : decode cL_restore 1 = .ok (.iload_n 1, 1) := by decide +kernel
theorem dL_restore_2 : decode cL_restore 2 = .ok (.invokevirtual 152, 3) := by decide +kernel
theorem dL_restore_5 : decode cL_restore 5 = .ok (.goto 9, 3) := by decide +kernel
theorem dL_restore_8 : decode cL_restore 8 = .ok (.astore_n 2, 1) := by decide +kernel
theorem dL_restore_9 : decode cL_restore 9 = .ok (.iconst 1, 1) := by decide +kernel
theorem dL_restore_10 : decode cL_restore 10 = .ok (.ireturn, 1) := by decide +kernel
theorem dL_restore_11 : decode cL_restore 11 = .ok (.astore_n 2, 1) := by decide +kernel
theorem dL_restore_12 : decode cL_restore 12 = .ok (.iconst 2, 1) := by decide +kernel
theorem dL_restore_13 : decode cL_restore 13 = .ok (.ireturn, 1) := by decide +kernel
theorem dL_restore_14 : decode cL_restore 14 = .ok (.iconst 0, 1) := by decide +kernel
theorem dL_restore_15 : decode cL_restore 15 = .ok (.ireturn, 1) := by decide +kernel
theorem dL_law_0 : decode cL_law 0 = .ok (.new 8, 3) := by decide +kernel
theorem dL_law_3 : decode cL_law 3 = .ok (.dup, 1) := by decide +kernel
theorem dL_law_4 : decode cL_law 4 = .ok (.invokespecial 155, 3) := by decide +kernel
theorem dL_law_7 : decode cL_law 7 = .ok (.astore_n 1, 1) := by decide +kernel
theorem dL_law_8 : decode cL_law 8 = .ok (.new 156, 3) := by decide +kernel
theorem dL_law_11 : decode cL_law 11 = .ok (.dup, 1) := by decide +kernel
theorem dL_law_12 : decode cL_law 12 = .ok (.invokespecial 158, 3) := by decide +kernel
theorem dL_law_15 : decode cL_law 15 = .ok (.astore_n 2, 1) := by decide +kernel
theorem dL_law_16 : decode cL_law 16 = .ok (.iconst 1, 1) := by decide +kernel
theorem dL_law_17 : decode cL_law 17 = .ok (.newarray .long, 2) := by decide +kernel
theorem dL_law_19 : decode cL_law 19 = .ok (.astore_n 3, 1) := by decide +kernel
theorem dL_law_20 : decode cL_law 20 = .ok (.iconst 1, 1) := by decide +kernel
theorem dL_law_21 : decode cL_law 21 = .ok (.newarray .double, 2) := by decide +kernel
theorem dL_law_23 : decode cL_law 23 = .ok (.astore 4, 2) := by decide +kernel
theorem dL_law_25 : decode cL_law 25 = .ok (.iconst 0, 1) := by decide +kernel
theorem dL_law_26 : decode cL_law 26 = .ok (.istore 5, 2) := by decide +kernel
theorem dL_law_28 : decode cL_law 28 = .ok (.iload 5, 2) := by decide +kernel
theorem dL_law_30 : decode cL_law 30 = .ok (.aload_n 0, 1) := by decide +kernel
theorem dL_law_31 : decode cL_law 31 = .ok (.arraylength, 1) := by decide +kernel
theorem dL_law_32 : decode cL_law 32 = .ok (.iconst 5, 1) := by decide +kernel
theorem dL_law_33 : decode cL_law 33 = .ok (.isub, 1) := by decide +kernel
theorem dL_law_34 : decode cL_law 34 = .ok (.if_icmp .gt 3360, 3) := by decide +kernel
theorem dL_law_37 : decode cL_law 37 = .ok (.aload_n 0, 1) := by decide +kernel
theorem dL_law_38 : decode cL_law 38 = .ok (.iload 5, 2) := by decide +kernel
theorem dL_law_40 : decode cL_law 40 = .ok (.iaload, 1) := by decide +kernel
theorem dL_law_41 : decode cL_law 41 = .ok (.bipush 63, 2) := by decide +kernel
theorem dL_law_43 : decode cL_law 43 = .ok (.iand, 1) := by decide +kernel
theorem dL_law_44 : decode cL_law 44 = .ok (.tableswitch 3344 0 51 #[224, 280, 336, 349, 362, 375, 388, 444, 500, 568, 648, 728, 796, 876, 951, 1019, 1087, 1155, 1223, 1279, 1347, 1403, 1471, 1539, 1607, 1675, 1738, 1794, 1807, 1848, 1926, 1994, 2062, 2130, 2186, 2266, 2358, 2450, 2506, 2562, 2630, 2710, 2802, 2894, 2986, 3066, 3122, 3178, 3234, 3259, 3272, 3308], 224) := by decide +kernel
theorem dL_law_268 : decode cL_law 268 = .ok (.aload_n 1, 1) := by decide +kernel
theorem dL_law_269 : decode cL_law 269 = .ok (.aload_n 0, 1) := by decide +kernel
theorem dL_law_270 : decode cL_law 270 = .ok (.iload 5, 2) := by decide +kernel
theorem dL_law_272 : decode cL_law 272 = .ok (.iconst 1, 1) := by decide +kernel
theorem dL_law_273 : decode cL_law 273 = .ok (.iadd, 1) := by decide +kernel
theorem dL_law_274 : decode cL_law 274 = .ok (.iaload, 1) := by decide +kernel
theorem dL_law_275 : decode cL_law 275 = .ok (.aload_n 3, 1) := by decide +kernel
theorem dL_law_276 : decode cL_law 276 = .ok (.invokestatic 159, 3) := by decide +kernel
theorem dL_law_279 : decode cL_law 279 = .ok (.istore 6, 2) := by decide +kernel
theorem dL_law_281 : decode cL_law 281 = .ok (.aload_n 2, 1) := by decide +kernel
theorem dL_law_282 : decode cL_law 282 = .ok (.aload_n 0, 1) := by decide +kernel
theorem dL_law_283 : decode cL_law 283 = .ok (.iload 5, 2) := by decide +kernel
theorem dL_law_285 : decode cL_law 285 = .ok (.iconst 1, 1) := by decide +kernel
theorem dL_law_286 : decode cL_law 286 = .ok (.iadd, 1) := by decide +kernel
theorem dL_law_287 : decode cL_law 287 = .ok (.iaload, 1) := by decide +kernel
theorem dL_law_288 : decode cL_law 288 = .ok (.invokevirtual 164, 3) := by decide +kernel
theorem dL_law_291 : decode cL_law 291 = .ok (.istore 7, 2) := by decide +kernel
theorem dL_law_293 : decode cL_law 293 = .ok (.aload_n 2, 1) := by decide +kernel
theorem dL_law_294 : decode cL_law 294 = .ok (.invokevirtual 165, 3) := by decide +kernel
theorem dL_law_297 : decode cL_law 297 = .ok (.iload 6, 2) := by decide +kernel
theorem dL_law_299 : decode cL_law 299 = .ok (.if_icmp .eq 5, 3) := by decide +kernel
theorem dL_law_302 : decode cL_law 302 = .ok (.iconst 0, 1) := by decide +kernel
theorem dL_law_303 : decode cL_law 303 = .ok (.ireturn, 1) := by decide +kernel
theorem dL_law_304 : decode cL_law 304 = .ok (.iload 6, 2) := by decide +kernel
theorem dL_law_306 : decode cL_law 306 = .ok (.ifCond .ne 15, 3) := by decide +kernel
theorem dL_law_309 : decode cL_law 309 = .ok (.aload_n 3, 1) := by decide +kernel
theorem dL_law_310 : decode cL_law 310 = .ok (.iconst 0, 1) := by decide +kernel
theorem dL_law_311 : decode cL_law 311 = .ok (.laload, 1) := by decide +kernel
theorem dL_law_312 : decode cL_law 312 = .ok (.iload 7, 2) := by decide +kernel
theorem dL_law_314 : decode cL_law 314 = .ok (.i2l, 1) := by decide +kernel
theorem dL_law_315 : decode cL_law 315 = .ok (.lcmp, 1) := by decide +kernel
theorem dL_law_316 : decode cL_law 316 = .ok (.ifCond .eq 5, 3) := by decide +kernel
theorem dL_law_319 : decode cL_law 319 = .ok (.iconst 0, 1) := by decide +kernel
theorem dL_law_320 : decode cL_law 320 = .ok (.ireturn, 1) := by decide +kernel
theorem dL_law_321 : decode cL_law 321 = .ok (.goto 3067, 3) := by decide +kernel
theorem dL_law_324 : decode cL_law 324 = .ok (.aload_n 1, 1) := by decide +kernel
theorem dL_law_325 : decode cL_law 325 = .ok (.aload_n 0, 1) := by decide +kernel
theorem dL_law_326 : decode cL_law 326 = .ok (.iload 5, 2) := by decide +kernel
theorem dL_law_328 : decode cL_law 328 = .ok (.iconst 1, 1) := by decide +kernel
theorem dL_law_329 : decode cL_law 329 = .ok (.iadd, 1) := by decide +kernel
theorem dL_law_330 : decode cL_law 330 = .ok (.iaload, 1) := by decide +kernel
theorem dL_law_331 : decode cL_law 331 = .ok (.aload_n 3, 1) := by decide +kernel
theorem dL_law_332 : decode cL_law 332 = .ok (.invokestatic 169, 3) := by decide +kernel
theorem dL_law_335 : decode cL_law 335 = .ok (.istore 6, 2) := by decide +kernel
theorem dL_law_337 : decode cL_law 337 = .ok (.aload_n 2, 1) := by decide +kernel
theorem dL_law_338 : decode cL_law 338 = .ok (.aload_n 0, 1) := by decide +kernel
theorem dL_law_339 : decode cL_law 339 = .ok (.iload 5, 2) := by decide +kernel
theorem dL_law_341 : decode cL_law 341 = .ok (.iconst 1, 1) := by decide +kernel
theorem dL_law_342 : decode cL_law 342 = .ok (.iadd, 1) := by decide +kernel
theorem dL_law_343 : decode cL_law 343 = .ok (.iaload, 1) := by decide +kernel
theorem dL_law_344 : decode cL_law 344 = .ok (.invokevirtual 171, 3) := by decide +kernel
theorem dL_law_347 : decode cL_law 347 = .ok (.istore 7, 2) := by decide +kernel
theorem dL_law_349 : decode cL_law 349 = .ok (.aload_n 2, 1) := by decide +kernel
theorem dL_law_350 : decode cL_law 350 = .ok (.invokevirtual 165, 3) := by decide +kernel
theorem dL_law_353 : decode cL_law 353 = .ok (.iload 6, 2) := by decide +kernel
theorem dL_law_355 : decode cL_law 355 = .ok (.if_icmp .eq 5, 3) := by decide +kernel
theorem dL_law_358 : decode cL_law 358 = .ok (.iconst 0, 1) := by decide +kernel
theorem dL_law_359 : decode cL_law 359 = .ok (.ireturn, 1) := by decide +kernel
theorem dL_law_360 : decode cL_law 360 = .ok (.iload 6, 2) := by decide +kernel
theorem dL_law_362 : decode cL_law 362 = .ok (.ifCond .ne 15, 3) := by decide +kernel
theorem dL_law_365 : decode cL_law 365 = .ok (.aload_n 3, 1) := by decide +kernel
theorem dL_law_366 : decode cL_law 366 = .ok (.iconst 0, 1) := by decide +kernel
theorem dL_law_367 : decode cL_law 367 = .ok (.laload, 1) := by decide +kernel
theorem dL_law_368 : decode cL_law 368 = .ok (.iload 7, 2) := by decide +kernel
theorem dL_law_370 : decode cL_law 370 = .ok (.i2l, 1) := by decide +kernel
theorem dL_law_371 : decode cL_law 371 = .ok (.lcmp, 1) := by decide +kernel
theorem dL_law_372 : decode cL_law 372 = .ok (.ifCond .eq 5, 3) := by decide +kernel
theorem dL_law_375 : decode cL_law 375 = .ok (.iconst 0, 1) := by decide +kernel
theorem dL_law_376 : decode cL_law 376 = .ok (.ireturn, 1) := by decide +kernel
theorem dL_law_377 : decode cL_law 377 = .ok (.goto 3011, 3) := by decide +kernel
theorem dL_law_380 : decode cL_law 380 = .ok (.aload_n 1, 1) := by decide +kernel
theorem dL_law_381 : decode cL_law 381 = .ok (.invokevirtual 172, 3) := by decide +kernel
theorem dL_law_384 : decode cL_law 384 = .ok (.aload_n 2, 1) := by decide +kernel
theorem dL_law_385 : decode cL_law 385 = .ok (.invokevirtual 175, 3) := by decide +kernel
theorem dL_law_388 : decode cL_law 388 = .ok (.if_icmp .eq 3000, 3) := by decide +kernel
theorem dL_law_391 : decode cL_law 391 = .ok (.iconst 0, 1) := by decide +kernel
theorem dL_law_392 : decode cL_law 392 = .ok (.ireturn, 1) := by decide +kernel
theorem dL_law_393 : decode cL_law 393 = .ok (.aload_n 1, 1) := by decide +kernel
theorem dL_law_394 : decode cL_law 394 = .ok (.invokevirtual 176, 3) := by decide +kernel
theorem dL_law_397 : decode cL_law 397 = .ok (.aload_n 2, 1) := by decide +kernel
theorem dL_law_398 : decode cL_law 398 = .ok (.invokevirtual 179, 3) := by decide +kernel
theorem dL_law_401 : decode cL_law 401 = .ok (.if_icmp .eq 2987, 3) := by decide +kernel
theorem dL_law_404 : decode cL_law 404 = .ok (.iconst 0, 1) := by decide +kernel
theorem dL_law_405 : decode cL_law 405 = .ok (.ireturn, 1) := by decide +kernel
theorem dL_law_406 : decode cL_law 406 = .ok (.aload_n 1, 1) := by decide +kernel
theorem dL_law_407 : decode cL_law 407 = .ok (.invokevirtual 180, 3) := by decide +kernel
theorem dL_law_410 : decode cL_law 410 = .ok (.aload_n 2, 1) := by decide +kernel
theorem dL_law_411 : decode cL_law 411 = .ok (.invokevirtual 183, 3) := by decide +kernel
theorem dL_law_414 : decode cL_law 414 = .ok (.if_icmp .eq 2974, 3) := by decide +kernel
theorem dL_law_417 : decode cL_law 417 = .ok (.iconst 0, 1) := by decide +kernel
theorem dL_law_418 : decode cL_law 418 = .ok (.ireturn, 1) := by decide +kernel
theorem dL_law_419 : decode cL_law 419 = .ok (.aload_n 1, 1) := by decide +kernel
theorem dL_law_420 : decode cL_law 420 = .ok (.invokevirtual 184, 3) := by decide +kernel
theorem dL_law_423 : decode cL_law 423 = .ok (.aload_n 2, 1) := by decide +kernel
theorem dL_law_424 : decode cL_law 424 = .ok (.invokevirtual 187, 3) := by decide +kernel
theorem dL_law_427 : decode cL_law 427 = .ok (.if_icmp .eq 2961, 3) := by decide +kernel
