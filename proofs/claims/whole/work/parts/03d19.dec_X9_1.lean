theorem dX9_pupilOn_12 : decode cX9_pupilOn 12 = .ok (.iload_n 3, 1) := by decide +kernel
theorem dX9_pupilOn_13 : decode cX9_pupilOn 13 = .ok (.iconst 0, 1) := by decide +kernel
theorem dX9_pupilOn_14 : decode cX9_pupilOn 14 = .ok (.invokevirtual 54, 3) := by decide +kernel
theorem dX9_pupilOn_17 : decode cX9_pupilOn 17 = .ok (.iload_n 1, 1) := by decide +kernel
theorem dX9_pupilOn_18 : decode cX9_pupilOn 18 = .ok (.if_icmp .ne 15, 3) := by decide +kernel
theorem dX9_pupilOn_21 : decode cX9_pupilOn 21 = .ok (.aload_n 0, 1) := by decide +kernel
theorem dX9_pupilOn_22 : decode cX9_pupilOn 22 = .ok (.iload_n 3, 1) := by decide +kernel
theorem dX9_pupilOn_23 : decode cX9_pupilOn 23 = .ok (.iconst 1, 1) := by decide +kernel
theorem dX9_pupilOn_24 : decode cX9_pupilOn 24 = .ok (.invokevirtual 54, 3) := by decide +kernel
theorem dX9_pupilOn_27 : decode cX9_pupilOn 27 = .ok (.iload_n 2, 1) := by decide +kernel
theorem dX9_pupilOn_28 : decode cX9_pupilOn 28 = .ok (.if_icmp .ne 5, 3) := by decide +kernel
theorem dX9_pupilOn_31 : decode cX9_pupilOn 31 = .ok (.iload_n 3, 1) := by decide +kernel
theorem dX9_pupilOn_32 : decode cX9_pupilOn 32 = .ok (.ireturn, 1) := by decide +kernel
theorem dX9_pupilOn_33 : decode cX9_pupilOn 33 = .ok (.iinc 3 1, 3) := by decide +kernel
theorem dX9_pupilOn_36 : decode cX9_pupilOn 36 = .ok (.goto (-34), 3) := by decide +kernel
theorem dX9_pupilOn_39 : decode cX9_pupilOn 39 = .ok (.iconst (-1), 1) := by decide +kernel
theorem dX9_pupilOn_40 : decode cX9_pupilOn 40 = .ok (.ireturn, 1) := by decide +kernel
theorem dX9_handsIn_0 : decode cX9_handsIn 0 = .ok (.aload_n 0, 1) := by decide +kernel
theorem dX9_handsIn_1 : decode cX9_handsIn 1 = .ok (.iload_n 1, 1) := by decide +kernel
theorem dX9_handsIn_2 : decode cX9_handsIn 2 = .ok (.iload_n 2, 1) := by decide +kernel
theorem dX9_handsIn_3 : decode cX9_handsIn 3 = .ok (.invokevirtual 65, 3) := by decide +kernel
theorem dX9_handsIn_6 : decode cX9_handsIn 6 = .ok (.aload_n 0, 1) := by decide +kernel
theorem dX9_handsIn_7 : decode cX9_handsIn 7 = .ok (.iconst 4, 1) := by decide +kernel
theorem dX9_handsIn_8 : decode cX9_handsIn 8 = .ok (.iload_n 2, 1) := by decide +kernel
theorem dX9_handsIn_9 : decode cX9_handsIn 9 = .ok (.iadd, 1) := by decide +kernel
theorem dX9_handsIn_10 : decode cX9_handsIn 10 = .ok (.invokevirtual 50, 3) := by decide +kernel
theorem dX9_handsIn_13 : decode cX9_handsIn 13 = .ok (.invokestatic 120, 3) := by decide +kernel
theorem dX9_handsIn_16 : decode cX9_handsIn 16 = .ok (.ireturn, 1) := by decide +kernel
theorem dX9_marks_0 : decode cX9_marks 0 = .ok (.aload_n 0, 1) := by decide +kernel
theorem dX9_marks_1 : decode cX9_marks 1 = .ok (.iconst 4, 1) := by decide +kernel
theorem dX9_marks_2 : decode cX9_marks 2 = .ok (.invokevirtual 50, 3) := by decide +kernel
theorem dX9_marks_5 : decode cX9_marks 5 = .ok (.aload_n 0, 1) := by decide +kernel
theorem dX9_marks_6 : decode cX9_marks 6 = .ok (.iconst 5, 1) := by decide +kernel
theorem dX9_marks_7 : decode cX9_marks 7 = .ok (.invokevirtual 50, 3) := by decide +kernel
theorem dX9_marks_10 : decode cX9_marks 10 = .ok (.iadd, 1) := by decide +kernel
theorem dX9_marks_11 : decode cX9_marks 11 = .ok (.aload_n 0, 1) := by decide +kernel
theorem dX9_marks_12 : decode cX9_marks 12 = .ok (.iload_n 1, 1) := by decide +kernel
theorem dX9_marks_13 : decode cX9_marks 13 = .ok (.iconst 0, 1) := by decide +kernel
theorem dX9_marks_14 : decode cX9_marks 14 = .ok (.invokevirtual 123, 3) := by decide +kernel
theorem dX9_marks_17 : decode cX9_marks 17 = .ok (.isub, 1) := by decide +kernel
theorem dX9_marks_18 : decode cX9_marks 18 = .ok (.aload_n 0, 1) := by decide +kernel
theorem dX9_marks_19 : decode cX9_marks 19 = .ok (.iload_n 1, 1) := by decide +kernel
theorem dX9_marks_20 : decode cX9_marks 20 = .ok (.iconst 1, 1) := by decide +kernel
theorem dX9_marks_21 : decode cX9_marks 21 = .ok (.invokevirtual 123, 3) := by decide +kernel
theorem dX9_marks_24 : decode cX9_marks 24 = .ok (.isub, 1) := by decide +kernel
theorem dX9_marks_25 : decode cX9_marks 25 = .ok (.ireturn, 1) := by decide +kernel
theorem dX9_ofMaker_0 : decode cX9_ofMaker 0 = .ok (.iconst 0, 1) := by decide +kernel
theorem dX9_ofMaker_1 : decode cX9_ofMaker 1 = .ok (.istore 5, 2) := by decide +kernel
theorem dX9_ofMaker_3 : decode cX9_ofMaker 3 = .ok (.iconst 0, 1) := by decide +kernel
theorem dX9_ofMaker_4 : decode cX9_ofMaker 4 = .ok (.istore 6, 2) := by decide +kernel
theorem dX9_ofMaker_6 : decode cX9_ofMaker 6 = .ok (.iload 6, 2) := by decide +kernel
theorem dX9_ofMaker_8 : decode cX9_ofMaker 8 = .ok (.iload 4, 2) := by decide +kernel
theorem dX9_ofMaker_10 : decode cX9_ofMaker 10 = .ok (.if_icmp .ge 34, 3) := by decide +kernel
theorem dX9_ofMaker_13 : decode cX9_ofMaker 13 = .ok (.iload 5, 2) := by decide +kernel
theorem dX9_ofMaker_15 : decode cX9_ofMaker 15 = .ok (.aload_n 0, 1) := by decide +kernel
theorem dX9_ofMaker_16 : decode cX9_ofMaker 16 = .ok (.iload_n 1, 1) := by decide +kernel
theorem dX9_ofMaker_17 : decode cX9_ofMaker 17 = .ok (.iload_n 2, 1) := by decide +kernel
theorem dX9_ofMaker_18 : decode cX9_ofMaker 18 = .ok (.iload 6, 2) := by decide +kernel
theorem dX9_ofMaker_20 : decode cX9_ofMaker 20 = .ok (.invokevirtual 71, 3) := by decide +kernel
theorem dX9_ofMaker_23 : decode cX9_ofMaker 23 = .ok (.iload_n 3, 1) := by decide +kernel
theorem dX9_ofMaker_24 : decode cX9_ofMaker 24 = .ok (.if_icmp .ne 7, 3) := by decide +kernel
theorem dX9_ofMaker_27 : decode cX9_ofMaker 27 = .ok (.iconst 1, 1) := by decide +kernel
theorem dX9_ofMaker_28 : decode cX9_ofMaker 28 = .ok (.goto 4, 3) := by decide +kernel
theorem dX9_ofMaker_31 : decode cX9_ofMaker 31 = .ok (.iconst 0, 1) := by decide +kernel
theorem dX9_ofMaker_32 : decode cX9_ofMaker 32 = .ok (.invokestatic 110, 3) := by decide +kernel
theorem dX9_ofMaker_35 : decode cX9_ofMaker 35 = .ok (.iadd, 1) := by decide +kernel
theorem dX9_ofMaker_36 : decode cX9_ofMaker 36 = .ok (.istore 5, 2) := by decide +kernel
theorem dX9_ofMaker_38 : decode cX9_ofMaker 38 = .ok (.iinc 6 1, 3) := by decide +kernel
theorem dX9_ofMaker_41 : decode cX9_ofMaker 41 = .ok (.goto (-35), 3) := by decide +kernel
theorem dX9_ofMaker_44 : decode cX9_ofMaker 44 = .ok (.iload 5, 2) := by decide +kernel
theorem dX9_ofMaker_46 : decode cX9_ofMaker 46 = .ok (.ireturn, 1) := by decide +kernel
theorem dX9_growth_0 : decode cX9_growth 0 = .ok (.aload_n 0, 1) := by decide +kernel
theorem dX9_growth_1 : decode cX9_growth 1 = .ok (.iload_n 1, 1) := by decide +kernel
theorem dX9_growth_2 : decode cX9_growth 2 = .ok (.iconst 0, 1) := by decide +kernel
theorem dX9_growth_3 : decode cX9_growth 3 = .ok (.invokevirtual 123, 3) := by decide +kernel
theorem dX9_growth_6 : decode cX9_growth 6 = .ok (.aload_n 0, 1) := by decide +kernel
theorem dX9_growth_7 : decode cX9_growth 7 = .ok (.iload_n 1, 1) := by decide +kernel
theorem dX9_growth_8 : decode cX9_growth 8 = .ok (.iconst 0, 1) := by decide +kernel
theorem dX9_growth_9 : decode cX9_growth 9 = .ok (.iload_n 1, 1) := by decide +kernel
theorem dX9_growth_10 : decode cX9_growth 10 = .ok (.aload_n 0, 1) := by decide +kernel
theorem dX9_growth_11 : decode cX9_growth 11 = .ok (.iload_n 1, 1) := by decide +kernel
theorem dX9_growth_12 : decode cX9_growth 12 = .ok (.iconst 0, 1) := by decide +kernel
theorem dX9_growth_13 : decode cX9_growth 13 = .ok (.invokevirtual 123, 3) := by decide +kernel
theorem dX9_growth_16 : decode cX9_growth 16 = .ok (.invokevirtual 126, 3) := by decide +kernel
theorem dX9_growth_19 : decode cX9_growth 19 = .ok (.isub, 1) := by decide +kernel
theorem dX9_growth_20 : decode cX9_growth 20 = .ok (.istore_n 2, 1) := by decide +kernel
theorem dX9_growth_21 : decode cX9_growth 21 = .ok (.iload_n 2, 1) := by decide +kernel
theorem dX9_growth_22 : decode cX9_growth 22 = .ok (.iconst 3, 1) := by decide +kernel
theorem dX9_growth_23 : decode cX9_growth 23 = .ok (.idiv, 1) := by decide +kernel
theorem dX9_growth_24 : decode cX9_growth 24 = .ok (.istore_n 3, 1) := by decide +kernel
theorem dX9_growth_25 : decode cX9_growth 25 = .ok (.iconst 0, 1) := by decide +kernel
theorem dX9_growth_26 : decode cX9_growth 26 = .ok (.istore 4, 2) := by decide +kernel
theorem dX9_growth_28 : decode cX9_growth 28 = .ok (.iload 4, 2) := by decide +kernel
theorem dX9_growth_30 : decode cX9_growth 30 = .ok (.aload_n 0, 1) := by decide +kernel
theorem dX9_growth_31 : decode cX9_growth 31 = .ok (.iconst 0, 1) := by decide +kernel
theorem dX9_growth_32 : decode cX9_growth 32 = .ok (.invokevirtual 50, 3) := by decide +kernel
theorem dX9_growth_35 : decode cX9_growth 35 = .ok (.if_icmp .ge 38, 3) := by decide +kernel
theorem dX9_growth_38 : decode cX9_growth 38 = .ok (.iload 4, 2) := by decide +kernel
theorem dX9_growth_40 : decode cX9_growth 40 = .ok (.iload_n 1, 1) := by decide +kernel
theorem dX9_growth_41 : decode cX9_growth 41 = .ok (.if_icmp .eq 26, 3) := by decide +kernel
theorem dX9_growth_44 : decode cX9_growth 44 = .ok (.iload_n 3, 1) := by decide +kernel
theorem dX9_growth_45 : decode cX9_growth 45 = .ok (.iconst 0, 1) := by decide +kernel
theorem dX9_growth_46 : decode cX9_growth 46 = .ok (.aload_n 0, 1) := by decide +kernel
theorem dX9_growth_47 : decode cX9_growth 47 = .ok (.iload_n 1, 1) := by decide +kernel
theorem dX9_growth_48 : decode cX9_growth 48 = .ok (.iconst 1, 1) := by decide +kernel
theorem dX9_growth_49 : decode cX9_growth 49 = .ok (.iload 4, 2) := by decide +kernel
theorem dX9_growth_51 : decode cX9_growth 51 = .ok (.aload_n 0, 1) := by decide +kernel
theorem dX9_growth_52 : decode cX9_growth 52 = .ok (.iload_n 1, 1) := by decide +kernel
theorem dX9_growth_53 : decode cX9_growth 53 = .ok (.iconst 1, 1) := by decide +kernel
theorem dX9_growth_54 : decode cX9_growth 54 = .ok (.invokevirtual 123, 3) := by decide +kernel
theorem dX9_growth_57 : decode cX9_growth 57 = .ok (.invokevirtual 126, 3) := by decide +kernel
theorem dX9_growth_60 : decode cX9_growth 60 = .ok (.iconst 1, 1) := by decide +kernel
theorem dX9_growth_61 : decode cX9_growth 61 = .ok (.isub, 1) := by decide +kernel
theorem dX9_growth_62 : decode cX9_growth 62 = .ok (.invokestatic 130, 3) := by decide +kernel
theorem dX9_growth_65 : decode cX9_growth 65 = .ok (.iadd, 1) := by decide +kernel
theorem dX9_growth_66 : decode cX9_growth 66 = .ok (.istore_n 3, 1) := by decide +kernel
theorem dX9_growth_67 : decode cX9_growth 67 = .ok (.iinc 4 1, 3) := by decide +kernel
theorem dX9_growth_70 : decode cX9_growth 70 = .ok (.goto (-42), 3) := by decide +kernel
theorem dX9_growth_73 : decode cX9_growth 73 = .ok (.iload_n 3, 1) := by decide +kernel
theorem dX9_growth_74 : decode cX9_growth 74 = .ok (.ireturn, 1) := by decide +kernel
theorem dX9_punishment_0 : decode cX9_punishment 0 = .ok (.bipush 9, 2) := by decide +kernel
theorem dX9_punishment_2 : decode cX9_punishment 2 = .ok (.iconst 1, 1) := by decide +kernel
theorem dX9_punishment_3 : decode cX9_punishment 3 = .ok (.iload_n 1, 1) := by decide +kernel
theorem dX9_punishment_4 : decode cX9_punishment 4 = .ok (.aload_n 0, 1) := by decide +kernel
theorem dX9_punishment_5 : decode cX9_punishment 5 = .ok (.iconst 3, 1) := by decide +kernel
theorem dX9_punishment_6 : decode cX9_punishment 6 = .ok (.invokevirtual 50, 3) := by decide +kernel
theorem dX9_punishment_9 : decode cX9_punishment 9 = .ok (.isub, 1) := by decide +kernel
theorem dX9_punishment_10 : decode cX9_punishment 10 = .ok (.iconst 3, 1) := by decide +kernel
theorem dX9_punishment_11 : decode cX9_punishment 11 = .ok (.idiv, 1) := by decide +kernel
theorem dX9_punishment_12 : decode cX9_punishment 12 = .ok (.iadd, 1) := by decide +kernel
theorem dX9_punishment_13 : decode cX9_punishment 13 = .ok (.invokestatic 120, 3) := by decide +kernel
theorem dX9_punishment_16 : decode cX9_punishment 16 = .ok (.ireturn, 1) := by decide +kernel
theorem dX9_handsAllIn_0 : decode cX9_handsAllIn 0 = .ok (.aload_n 0, 1) := by decide +kernel
theorem dX9_handsAllIn_1 : decode cX9_handsAllIn 1 = .ok (.iload_n 1, 1) := by decide +kernel
theorem dX9_handsAllIn_2 : decode cX9_handsAllIn 2 = .ok (.bipush 6, 2) := by decide +kernel
theorem dX9_handsAllIn_4 : decode cX9_handsAllIn 4 = .ok (.aload_n 0, 1) := by decide +kernel
theorem dX9_handsAllIn_5 : decode cX9_handsAllIn 5 = .ok (.iload_n 1, 1) := by decide +kernel
theorem dX9_handsAllIn_6 : decode cX9_handsAllIn 6 = .ok (.invokevirtual 133, 3) := by decide +kernel
theorem dX9_handsAllIn_9 : decode cX9_handsAllIn 9 = .ok (.invokevirtual 68, 3) := by decide +kernel
theorem dX9_handsAllIn_12 : decode cX9_handsAllIn 12 = .ok (.aload_n 0, 1) := by decide +kernel
theorem dX9_handsAllIn_13 : decode cX9_handsAllIn 13 = .ok (.iload_n 1, 1) := by decide +kernel
theorem dX9_handsAllIn_14 : decode cX9_handsAllIn 14 = .ok (.bipush 7, 2) := by decide +kernel
theorem dX9_handsAllIn_16 : decode cX9_handsAllIn 16 = .ok (.aload_n 0, 1) := by decide +kernel
theorem dX9_handsAllIn_17 : decode cX9_handsAllIn 17 = .ok (.iload_n 1, 1) := by decide +kernel
theorem dX9_handsAllIn_18 : decode cX9_handsAllIn 18 = .ok (.invokevirtual 136, 3) := by decide +kernel
theorem dX9_handsAllIn_21 : decode cX9_handsAllIn 21 = .ok (.invokevirtual 68, 3) := by decide +kernel
theorem dX9_handsAllIn_24 : decode cX9_handsAllIn 24 = .ok (.iconst 0, 1) := by decide +kernel
theorem dX9_handsAllIn_25 : decode cX9_handsAllIn 25 = .ok (.istore_n 2, 1) := by decide +kernel
theorem dX9_handsAllIn_26 : decode cX9_handsAllIn 26 = .ok (.iload_n 2, 1) := by decide +kernel
theorem dX9_handsAllIn_27 : decode cX9_handsAllIn 27 = .ok (.iconst 2, 1) := by decide +kernel
theorem dX9_handsAllIn_28 : decode cX9_handsAllIn 28 = .ok (.if_icmp .ge 29, 3) := by decide +kernel
theorem dX9_handsAllIn_31 : decode cX9_handsAllIn 31 = .ok (.aload_n 0, 1) := by decide +kernel
theorem dX9_handsAllIn_32 : decode cX9_handsAllIn 32 = .ok (.iload_n 1, 1) := by decide +kernel
theorem dX9_handsAllIn_33 : decode cX9_handsAllIn 33 = .ok (.iload_n 2, 1) := by decide +kernel
theorem dX9_handsAllIn_34 : decode cX9_handsAllIn 34 = .ok (.invokevirtual 123, 3) := by decide +kernel
theorem dX9_handsAllIn_37 : decode cX9_handsAllIn 37 = .ok (.istore_n 3, 1) := by decide +kernel
theorem dX9_handsAllIn_38 : decode cX9_handsAllIn 38 = .ok (.aload_n 0, 1) := by decide +kernel
theorem dX9_handsAllIn_39 : decode cX9_handsAllIn 39 = .ok (.iconst 5, 1) := by decide +kernel
theorem dX9_handsAllIn_40 : decode cX9_handsAllIn 40 = .ok (.iload_n 3, 1) := by decide +kernel
theorem dX9_handsAllIn_41 : decode cX9_handsAllIn 41 = .ok (.invokevirtual 117, 3) := by decide +kernel
theorem dX9_handsAllIn_44 : decode cX9_handsAllIn 44 = .ok (.aload_n 0, 1) := by decide +kernel
theorem dX9_handsAllIn_45 : decode cX9_handsAllIn 45 = .ok (.iload_n 1, 1) := by decide +kernel
theorem dX9_handsAllIn_46 : decode cX9_handsAllIn 46 = .ok (.iload_n 2, 1) := by decide +kernel
theorem dX9_handsAllIn_47 : decode cX9_handsAllIn 47 = .ok (.iload_n 3, 1) := by decide +kernel
theorem dX9_handsAllIn_48 : decode cX9_handsAllIn 48 = .ok (.invokevirtual 78, 3) := by decide +kernel
theorem dX9_handsAllIn_51 : decode cX9_handsAllIn 51 = .ok (.iinc 2 1, 3) := by decide +kernel
theorem dX9_handsAllIn_54 : decode cX9_handsAllIn 54 = .ok (.goto (-28), 3) := by decide +kernel
theorem dX9_handsAllIn_57 : decode cX9_handsAllIn 57 = .ok (.return_, 1) := by decide +kernel
theorem dX9_isLookedAt_0 : decode cX9_isLookedAt 0 = .ok (.aload_n 0, 1) := by decide +kernel
theorem dX9_isLookedAt_1 : decode cX9_isLookedAt 1 = .ok (.iload_n 1, 1) := by decide +kernel
theorem dX9_isLookedAt_2 : decode cX9_isLookedAt 2 = .ok (.bipush 6, 2) := by decide +kernel
theorem dX9_isLookedAt_4 : decode cX9_isLookedAt 4 = .ok (.invokevirtual 54, 3) := by decide +kernel
theorem dX9_isLookedAt_7 : decode cX9_isLookedAt 7 = .ok (.aload_n 0, 1) := by decide +kernel
theorem dX9_isLookedAt_8 : decode cX9_isLookedAt 8 = .ok (.iconst 3, 1) := by decide +kernel
theorem dX9_isLookedAt_9 : decode cX9_isLookedAt 9 = .ok (.invokevirtual 50, 3) := by decide +kernel
theorem dX9_isLookedAt_12 : decode cX9_isLookedAt 12 = .ok (.if_icmp .ge 20, 3) := by decide +kernel
theorem dX9_isLookedAt_15 : decode cX9_isLookedAt 15 = .ok (.aload_n 0, 1) := by decide +kernel
theorem dX9_isLookedAt_16 : decode cX9_isLookedAt 16 = .ok (.iload_n 1, 1) := by decide +kernel
theorem dX9_isLookedAt_17 : decode cX9_isLookedAt 17 = .ok (.bipush 8, 2) := by decide +kernel
theorem dX9_isLookedAt_19 : decode cX9_isLookedAt 19 = .ok (.aload_n 0, 1) := by decide +kernel
theorem dX9_isLookedAt_20 : decode cX9_isLookedAt 20 = .ok (.iload_n 1, 1) := by decide +kernel
theorem dX9_isLookedAt_21 : decode cX9_isLookedAt 21 = .ok (.invokevirtual 99, 3) := by decide +kernel
theorem dX9_isLookedAt_24 : decode cX9_isLookedAt 24 = .ok (.invokestatic 110, 3) := by decide +kernel
theorem dX9_isLookedAt_27 : decode cX9_isLookedAt 27 = .ok (.ineg, 1) := by decide +kernel
theorem dX9_isLookedAt_28 : decode cX9_isLookedAt 28 = .ok (.invokevirtual 68, 3) := by decide +kernel
theorem dX9_isLookedAt_31 : decode cX9_isLookedAt 31 = .ok (.return_, 1) := by decide +kernel
theorem dX9_isLookedAt_32 : decode cX9_isLookedAt 32 = .ok (.aload_n 0, 1) := by decide +kernel
theorem dX9_isLookedAt_33 : decode cX9_isLookedAt 33 = .ok (.iload_n 1, 1) := by decide +kernel
theorem dX9_isLookedAt_34 : decode cX9_isLookedAt 34 = .ok (.bipush 8, 2) := by decide +kernel
theorem dX9_isLookedAt_36 : decode cX9_isLookedAt 36 = .ok (.aload_n 0, 1) := by decide +kernel
theorem dX9_isLookedAt_37 : decode cX9_isLookedAt 37 = .ok (.aload_n 0, 1) := by decide +kernel
theorem dX9_isLookedAt_38 : decode cX9_isLookedAt 38 = .ok (.iload_n 1, 1) := by decide +kernel
theorem dX9_isLookedAt_39 : decode cX9_isLookedAt 39 = .ok (.bipush 6, 2) := by decide +kernel
theorem dX9_isLookedAt_41 : decode cX9_isLookedAt 41 = .ok (.invokevirtual 54, 3) := by decide +kernel
theorem dX9_isLookedAt_44 : decode cX9_isLookedAt 44 = .ok (.invokevirtual 139, 3) := by decide +kernel
theorem dX9_isLookedAt_47 : decode cX9_isLookedAt 47 = .ok (.invokevirtual 58, 3) := by decide +kernel
theorem dX9_isLookedAt_50 : decode cX9_isLookedAt 50 = .ok (.aload_n 0, 1) := by decide +kernel
theorem dX9_isLookedAt_51 : decode cX9_isLookedAt 51 = .ok (.iload_n 1, 1) := by decide +kernel
theorem dX9_isLookedAt_52 : decode cX9_isLookedAt 52 = .ok (.bipush 6, 2) := by decide +kernel
theorem dX9_isLookedAt_54 : decode cX9_isLookedAt 54 = .ok (.iconst 0, 1) := by decide +kernel
theorem dX9_isLookedAt_55 : decode cX9_isLookedAt 55 = .ok (.invokevirtual 58, 3) := by decide +kernel
theorem dX9_isLookedAt_58 : decode cX9_isLookedAt 58 = .ok (.aload_n 0, 1) := by decide +kernel
theorem dX9_isLookedAt_59 : decode cX9_isLookedAt 59 = .ok (.iload_n 1, 1) := by decide +kernel
theorem dX9_isLookedAt_60 : decode cX9_isLookedAt 60 = .ok (.bipush 9, 2) := by decide +kernel
theorem dX9_isLookedAt_62 : decode cX9_isLookedAt 62 = .ok (.iconst 0, 1) := by decide +kernel
theorem dX9_isLookedAt_63 : decode cX9_isLookedAt 63 = .ok (.invokevirtual 58, 3) := by decide +kernel
theorem dX9_isLookedAt_66 : decode cX9_isLookedAt 66 = .ok (.iconst 0, 1) := by decide +kernel
theorem dX9_isLookedAt_67 : decode cX9_isLookedAt 67 = .ok (.istore_n 2, 1) := by decide +kernel
theorem dX9_isLookedAt_68 : decode cX9_isLookedAt 68 = .ok (.iload_n 2, 1) := by decide +kernel
theorem dX9_isLookedAt_69 : decode cX9_isLookedAt 69 = .ok (.iconst 2, 1) := by decide +kernel
theorem dX9_isLookedAt_70 : decode cX9_isLookedAt 70 = .ok (.if_icmp .ge 31, 3) := by decide +kernel
theorem dX9_isLookedAt_73 : decode cX9_isLookedAt 73 = .ok (.aload_n 0, 1) := by decide +kernel
theorem dX9_isLookedAt_74 : decode cX9_isLookedAt 74 = .ok (.bipush 6, 2) := by decide +kernel
theorem dX9_isLookedAt_76 : decode cX9_isLookedAt 76 = .ok (.aload_n 0, 1) := by decide +kernel
theorem dX9_isLookedAt_77 : decode cX9_isLookedAt 77 = .ok (.iload_n 1, 1) := by decide +kernel
theorem dX9_isLookedAt_78 : decode cX9_isLookedAt 78 = .ok (.iload_n 2, 1) := by decide +kernel
theorem dX9_isLookedAt_79 : decode cX9_isLookedAt 79 = .ok (.invokevirtual 65, 3) := by decide +kernel
theorem dX9_isLookedAt_82 : decode cX9_isLookedAt 82 = .ok (.invokevirtual 117, 3) := by decide +kernel
theorem dX9_isLookedAt_85 : decode cX9_isLookedAt 85 = .ok (.aload_n 0, 1) := by decide +kernel
theorem dX9_isLookedAt_86 : decode cX9_isLookedAt 86 = .ok (.iload_n 1, 1) := by decide +kernel
theorem dX9_isLookedAt_87 : decode cX9_isLookedAt 87 = .ok (.bipush 10, 2) := by decide +kernel
theorem dX9_isLookedAt_89 : decode cX9_isLookedAt 89 = .ok (.iload_n 2, 1) := by decide +kernel
theorem dX9_isLookedAt_90 : decode cX9_isLookedAt 90 = .ok (.iadd, 1) := by decide +kernel
theorem dX9_isLookedAt_91 : decode cX9_isLookedAt 91 = .ok (.iconst 0, 1) := by decide +kernel
theorem dX9_isLookedAt_92 : decode cX9_isLookedAt 92 = .ok (.invokevirtual 58, 3) := by decide +kernel
theorem dX9_isLookedAt_95 : decode cX9_isLookedAt 95 = .ok (.iinc 2 1, 3) := by decide +kernel
theorem dX9_isLookedAt_98 : decode cX9_isLookedAt 98 = .ok (.goto (-30), 3) := by decide +kernel
theorem dX9_isLookedAt_101 : decode cX9_isLookedAt 101 = .ok (.aload_n 0, 1) := by decide +kernel
theorem dX9_isLookedAt_102 : decode cX9_isLookedAt 102 = .ok (.bipush 8, 2) := by decide +kernel
theorem dX9_isLookedAt_104 : decode cX9_isLookedAt 104 = .ok (.iconst 1, 1) := by decide +kernel
theorem dX9_isLookedAt_105 : decode cX9_isLookedAt 105 = .ok (.invokevirtual 117, 3) := by decide +kernel
theorem dX9_isLookedAt_108 : decode cX9_isLookedAt 108 = .ok (.return_, 1) := by decide +kernel
theorem dX9_weekEnds_0 : decode cX9_weekEnds 0 = .ok (.iconst 0, 1) := by decide +kernel
theorem dX9_weekEnds_1 : decode cX9_weekEnds 1 = .ok (.istore_n 1, 1) := by decide +kernel
theorem dX9_weekEnds_2 : decode cX9_weekEnds 2 = .ok (.iload_n 1, 1) := by decide +kernel
theorem dX9_weekEnds_3 : decode cX9_weekEnds 3 = .ok (.aload_n 0, 1) := by decide +kernel
theorem dX9_weekEnds_4 : decode cX9_weekEnds 4 = .ok (.iconst 0, 1) := by decide +kernel
theorem dX9_weekEnds_5 : decode cX9_weekEnds 5 = .ok (.invokevirtual 50, 3) := by decide +kernel
theorem dX9_weekEnds_8 : decode cX9_weekEnds 8 = .ok (.if_icmp .ge 14, 3) := by decide +kernel
theorem dX9_weekEnds_11 : decode cX9_weekEnds 11 = .ok (.aload_n 0, 1) := by decide +kernel
theorem dX9_weekEnds_12 : decode cX9_weekEnds 12 = .ok (.iload_n 1, 1) := by decide +kernel
theorem dX9_weekEnds_13 : decode cX9_weekEnds 13 = .ok (.invokevirtual 142, 3) := by decide +kernel
theorem dX9_weekEnds_16 : decode cX9_weekEnds 16 = .ok (.iinc 1 1, 3) := by decide +kernel
theorem dX9_weekEnds_19 : decode cX9_weekEnds 19 = .ok (.goto (-17), 3) := by decide +kernel
theorem dX9_weekEnds_22 : decode cX9_weekEnds 22 = .ok (.iconst 0, 1) := by decide +kernel
theorem dX9_weekEnds_23 : decode cX9_weekEnds 23 = .ok (.istore_n 1, 1) := by decide +kernel
theorem dX9_weekEnds_24 : decode cX9_weekEnds 24 = .ok (.iload_n 1, 1) := by decide +kernel
theorem dX9_weekEnds_25 : decode cX9_weekEnds 25 = .ok (.aload_n 0, 1) := by decide +kernel
theorem dX9_weekEnds_26 : decode cX9_weekEnds 26 = .ok (.iconst 0, 1) := by decide +kernel
theorem dX9_weekEnds_27 : decode cX9_weekEnds 27 = .ok (.invokevirtual 50, 3) := by decide +kernel
theorem dX9_weekEnds_30 : decode cX9_weekEnds 30 = .ok (.if_icmp .ge 14, 3) := by decide +kernel
theorem dX9_weekEnds_33 : decode cX9_weekEnds 33 = .ok (.aload_n 0, 1) := by decide +kernel
theorem dX9_weekEnds_34 : decode cX9_weekEnds 34 = .ok (.iload_n 1, 1) := by decide +kernel
theorem dX9_weekEnds_35 : decode cX9_weekEnds 35 = .ok (.invokevirtual 146, 3) := by decide +kernel
theorem dX9_weekEnds_38 : decode cX9_weekEnds 38 = .ok (.iinc 1 1, 3) := by decide +kernel
theorem dX9_weekEnds_41 : decode cX9_weekEnds 41 = .ok (.goto (-17), 3) := by decide +kernel
theorem dX9_weekEnds_44 : decode cX9_weekEnds 44 = .ok (.iconst 0, 1) := by decide +kernel
theorem dX9_weekEnds_45 : decode cX9_weekEnds 45 = .ok (.istore_n 1, 1) := by decide +kernel
theorem dX9_weekEnds_46 : decode cX9_weekEnds 46 = .ok (.iload_n 1, 1) := by decide +kernel
theorem dX9_weekEnds_47 : decode cX9_weekEnds 47 = .ok (.aload_n 0, 1) := by decide +kernel
theorem dX9_weekEnds_48 : decode cX9_weekEnds 48 = .ok (.iconst 0, 1) := by decide +kernel
theorem dX9_weekEnds_49 : decode cX9_weekEnds 49 = .ok (.invokevirtual 50, 3) := by decide +kernel
theorem dX9_weekEnds_52 : decode cX9_weekEnds 52 = .ok (.if_icmp .ge 38, 3) := by decide +kernel
theorem dX9_weekEnds_55 : decode cX9_weekEnds 55 = .ok (.aload_n 0, 1) := by decide +kernel
theorem dX9_weekEnds_56 : decode cX9_weekEnds 56 = .ok (.iload_n 1, 1) := by decide +kernel
theorem dX9_weekEnds_57 : decode cX9_weekEnds 57 = .ok (.iconst 5, 1) := by decide +kernel
theorem dX9_weekEnds_58 : decode cX9_weekEnds 58 = .ok (.aload_n 0, 1) := by decide +kernel
theorem dX9_weekEnds_59 : decode cX9_weekEnds 59 = .ok (.iload_n 1, 1) := by decide +kernel
theorem dX9_weekEnds_60 : decode cX9_weekEnds 60 = .ok (.invokevirtual 99, 3) := by decide +kernel
theorem dX9_weekEnds_63 : decode cX9_weekEnds 63 = .ok (.ifCond .eq 13, 3) := by decide +kernel
theorem dX9_weekEnds_66 : decode cX9_weekEnds 66 = .ok (.aload_n 0, 1) := by decide +kernel
theorem dX9_weekEnds_67 : decode cX9_weekEnds 67 = .ok (.iconst 2, 1) := by decide +kernel
theorem dX9_weekEnds_68 : decode cX9_weekEnds 68 = .ok (.invokevirtual 50, 3) := by decide +kernel
theorem dX9_weekEnds_71 : decode cX9_weekEnds 71 = .ok (.iconst 2, 1) := by decide +kernel
theorem dX9_weekEnds_72 : decode cX9_weekEnds 72 = .ok (.idiv, 1) := by decide +kernel
theorem dX9_weekEnds_73 : decode cX9_weekEnds 73 = .ok (.goto 8, 3) := by decide +kernel
theorem dX9_weekEnds_76 : decode cX9_weekEnds 76 = .ok (.aload_n 0, 1) := by decide +kernel
theorem dX9_weekEnds_77 : decode cX9_weekEnds 77 = .ok (.iconst 2, 1) := by decide +kernel
theorem dX9_weekEnds_78 : decode cX9_weekEnds 78 = .ok (.invokevirtual 50, 3) := by decide +kernel
theorem dX9_weekEnds_81 : decode cX9_weekEnds 81 = .ok (.invokevirtual 58, 3) := by decide +kernel
theorem dX9_weekEnds_84 : decode cX9_weekEnds 84 = .ok (.iinc 1 1, 3) := by decide +kernel
theorem dX9_weekEnds_87 : decode cX9_weekEnds 87 = .ok (.goto (-41), 3) := by decide +kernel
theorem dX9_weekEnds_90 : decode cX9_weekEnds 90 = .ok (.iconst 0, 1) := by decide +kernel
theorem dX9_weekEnds_91 : decode cX9_weekEnds 91 = .ok (.istore_n 1, 1) := by decide +kernel
theorem dX9_weekEnds_92 : decode cX9_weekEnds 92 = .ok (.iload_n 1, 1) := by decide +kernel
theorem dX9_weekEnds_93 : decode cX9_weekEnds 93 = .ok (.aload_n 0, 1) := by decide +kernel
theorem dX9_weekEnds_94 : decode cX9_weekEnds 94 = .ok (.bipush 6, 2) := by decide +kernel
theorem dX9_weekEnds_96 : decode cX9_weekEnds 96 = .ok (.invokevirtual 50, 3) := by decide +kernel
theorem dX9_weekEnds_99 : decode cX9_weekEnds 99 = .ok (.if_icmp .ge 44, 3) := by decide +kernel
theorem dX9_weekEnds_102 : decode cX9_weekEnds 102 = .ok (.aload_n 0, 1) := by decide +kernel
theorem dX9_weekEnds_103 : decode cX9_weekEnds 103 = .ok (.iload_n 1, 1) := by decide +kernel
theorem dX9_weekEnds_104 : decode cX9_weekEnds 104 = .ok (.iconst 3, 1) := by decide +kernel
theorem dX9_weekEnds_105 : decode cX9_weekEnds 105 = .ok (.invokevirtual 84, 3) := by decide +kernel
theorem dX9_weekEnds_108 : decode cX9_weekEnds 108 = .ok (.bipush 99, 2) := by decide +kernel
theorem dX9_weekEnds_110 : decode cX9_weekEnds 110 = .ok (.if_icmp .ne 6, 3) := by decide +kernel
theorem dX9_weekEnds_113 : decode cX9_weekEnds 113 = .ok (.goto 24, 3) := by decide +kernel
theorem dX9_weekEnds_116 : decode cX9_weekEnds 116 = .ok (.aload_n 0, 1) := by decide +kernel
theorem dX9_weekEnds_117 : decode cX9_weekEnds 117 = .ok (.sipush 641, 3) := by decide +kernel
theorem dX9_weekEnds_120 : decode cX9_weekEnds 120 = .ok (.iconst 4, 1) := by decide +kernel
theorem dX9_weekEnds_121 : decode cX9_weekEnds 121 = .ok (.iload_n 1, 1) := by decide +kernel
theorem dX9_weekEnds_122 : decode cX9_weekEnds 122 = .ok (.imul, 1) := by decide +kernel
theorem dX9_weekEnds_123 : decode cX9_weekEnds 123 = .ok (.iadd, 1) := by decide +kernel
theorem dX9_weekEnds_124 : decode cX9_weekEnds 124 = .ok (.iconst 3, 1) := by decide +kernel
theorem dX9_weekEnds_125 : decode cX9_weekEnds 125 = .ok (.iadd, 1) := by decide +kernel
theorem dX9_weekEnds_126 : decode cX9_weekEnds 126 = .ok (.iconst 1, 1) := by decide +kernel
theorem dX9_weekEnds_127 : decode cX9_weekEnds 127 = .ok (.invokevirtual 47, 3) := by decide +kernel
theorem dX9_weekEnds_130 : decode cX9_weekEnds 130 = .ok (.aload_n 0, 1) := by decide +kernel
theorem dX9_weekEnds_131 : decode cX9_weekEnds 131 = .ok (.bipush 9, 2) := by decide +kernel
theorem dX9_weekEnds_133 : decode cX9_weekEnds 133 = .ok (.iconst 1, 1) := by decide +kernel
theorem dX9_weekEnds_134 : decode cX9_weekEnds 134 = .ok (.invokevirtual 117, 3) := by decide +kernel
theorem dX9_weekEnds_137 : decode cX9_weekEnds 137 = .ok (.iinc 1 1, 3) := by decide +kernel
theorem dX9_weekEnds_140 : decode cX9_weekEnds 140 = .ok (.goto (-48), 3) := by decide +kernel
theorem dX9_weekEnds_143 : decode cX9_weekEnds 143 = .ok (.aload_n 0, 1) := by decide +kernel
theorem dX9_weekEnds_144 : decode cX9_weekEnds 144 = .ok (.iconst 1, 1) := by decide +kernel
theorem dX9_weekEnds_145 : decode cX9_weekEnds 145 = .ok (.iconst 1, 1) := by decide +kernel
theorem dX9_weekEnds_146 : decode cX9_weekEnds 146 = .ok (.invokevirtual 47, 3) := by decide +kernel
theorem dX9_weekEnds_149 : decode cX9_weekEnds 149 = .ok (.return_, 1) := by decide +kernel
theorem dX9_passes_0 : decode cX9_passes 0 = .ok (.aload_n 0, 1) := by decide +kernel
theorem dX9_passes_1 : decode cX9_passes 1 = .ok (.bipush 15, 2) := by decide +kernel
theorem dX9_passes_3 : decode cX9_passes 3 = .ok (.invokevirtual 50, 3) := by decide +kernel
theorem dX9_passes_6 : decode cX9_passes 6 = .ok (.istore_n 2, 1) := by decide +kernel
theorem dX9_passes_7 : decode cX9_passes 7 = .ok (.iconst 0, 1) := by decide +kernel
theorem dX9_passes_8 : decode cX9_passes 8 = .ok (.istore_n 3, 1) := by decide +kernel
theorem dX9_passes_9 : decode cX9_passes 9 = .ok (.iload_n 3, 1) := by decide +kernel
theorem dX9_passes_10 : decode cX9_passes 10 = .ok (.iload_n 1, 1) := by decide +kernel
theorem dX9_passes_11 : decode cX9_passes 11 = .ok (.if_icmp .ge 13, 3) := by decide +kernel
theorem dX9_passes_14 : decode cX9_passes 14 = .ok (.aload_n 0, 1) := by decide +kernel
theorem dX9_passes_15 : decode cX9_passes 15 = .ok (.invokevirtual 149, 3) := by decide +kernel
theorem dX9_passes_18 : decode cX9_passes 18 = .ok (.iinc 3 1, 3) := by decide +kernel
theorem dX9_passes_21 : decode cX9_passes 21 = .ok (.goto (-12), 3) := by decide +kernel
theorem dX9_passes_24 : decode cX9_passes 24 = .ok (.aload_n 0, 1) := by decide +kernel
theorem dX9_passes_25 : decode cX9_passes 25 = .ok (.bipush 15, 2) := by decide +kernel
theorem dX9_passes_27 : decode cX9_passes 27 = .ok (.invokevirtual 50, 3) := by decide +kernel
theorem dX9_passes_30 : decode cX9_passes 30 = .ok (.iload_n 2, 1) := by decide +kernel
theorem dX9_passes_31 : decode cX9_passes 31 = .ok (.isub, 1) := by decide +kernel
theorem dX9_passes_32 : decode cX9_passes 32 = .ok (.ireturn, 1) := by decide +kernel
theorem dX9_tries_0 : decode cX9_tries 0 = .ok (.aload_n 0, 1) := by decide +kernel
theorem dX9_tries_1 : decode cX9_tries 1 = .ok (.iconst 0, 1) := by decide +kernel
theorem dX9_tries_2 : decode cX9_tries 2 = .ok (.bipush 9, 2) := by decide +kernel
theorem dX9_tries_4 : decode cX9_tries 4 = .ok (.invokevirtual 152, 3) := by decide +kernel
theorem dX9_tries_7 : decode cX9_tries 7 = .ok (.aload_n 0, 1) := by decide +kernel
theorem dX9_tries_8 : decode cX9_tries 8 = .ok (.bipush 9, 2) := by decide +kernel
theorem dX9_tries_10 : decode cX9_tries 10 = .ok (.putfield 44, 3) := by decide +kernel
theorem dX9_tries_13 : decode cX9_tries 13 = .ok (.return_, 1) := by decide +kernel
theorem dX9_isBack_0 : decode cX9_isBack 0 = .ok (.aload_n 0, 1) := by decide +kernel
theorem dX9_isBack_1 : decode cX9_isBack 1 = .ok (.iconst 0, 1) := by decide +kernel
theorem dX9_isBack_2 : decode cX9_isBack 2 = .ok (.putfield 44, 3) := by decide +kernel
theorem dX9_isBack_5 : decode cX9_isBack 5 = .ok (.iload_n 1, 1) := by decide +kernel
theorem dX9_isBack_6 : decode cX9_isBack 6 = .ok (.ireturn, 1) := by decide +kernel
theorem dX9_appendText_0 : decode cX9_appendText 0 = .ok (.aload_n 0, 1) := by decide +kernel
theorem dX9_appendText_1 : decode cX9_appendText 1 = .ok (.iconst 0, 1) := by decide +kernel
theorem dX9_appendText_2 : decode cX9_appendText 2 = .ok (.putfield 41, 3) := by decide +kernel
theorem dX9_appendText_5 : decode cX9_appendText 5 = .ok (.aload_n 0, 1) := by decide +kernel
theorem dX9_appendText_6 : decode cX9_appendText 6 = .ok (.aload_n 0, 1) := by decide +kernel
theorem dX9_appendText_7 : decode cX9_appendText 7 = .ok (.getfield 155, 3) := by decide +kernel
theorem dX9_appendText_10 : decode cX9_appendText 10 = .ok (.iconst 4, 1) := by decide +kernel
theorem dX9_appendText_11 : decode cX9_appendText 11 = .ok (.iadd, 1) := by decide +kernel
theorem dX9_appendText_12 : decode cX9_appendText 12 = .ok (.sipush 500, 3) := by decide +kernel
theorem dX9_appendText_15 : decode cX9_appendText 15 = .ok (.if_icmp .gt 7, 3) := by decide +kernel
theorem dX9_appendText_18 : decode cX9_appendText 18 = .ok (.iconst 1, 1) := by decide +kernel
theorem dX9_appendText_19 : decode cX9_appendText 19 = .ok (.goto 4, 3) := by decide +kernel
theorem dX9_appendText_22 : decode cX9_appendText 22 = .ok (.iconst 0, 1) := by decide +kernel
theorem dX9_appendText_23 : decode cX9_appendText 23 = .ok (.iconst 1, 1) := by decide +kernel
theorem dX9_appendText_24 : decode cX9_appendText 24 = .ok (.invokevirtual 158, 3) := by decide +kernel
theorem dX9_appendText_27 : decode cX9_appendText 27 = .ok (.ifCond .ne 5, 3) := by decide +kernel
theorem dX9_appendText_30 : decode cX9_appendText 30 = .ok (.iconst 0, 1) := by decide +kernel
theorem dX9_appendText_31 : decode cX9_appendText 31 = .ok (.ireturn, 1) := by decide +kernel
theorem dX9_appendText_32 : decode cX9_appendText 32 = .ok (.bipush 24, 2) := by decide +kernel
theorem dX9_appendText_34 : decode cX9_appendText 34 = .ok (.istore_n 2, 1) := by decide +kernel
theorem dX9_appendText_35 : decode cX9_appendText 35 = .ok (.iload_n 2, 1) := by decide +kernel
theorem dX9_appendText_36 : decode cX9_appendText 36 = .ok (.ifCond .lt 35, 3) := by decide +kernel
theorem dX9_appendText_39 : decode cX9_appendText 39 = .ok (.aload_n 0, 1) := by decide +kernel
theorem dX9_appendText_40 : decode cX9_appendText 40 = .ok (.getfield 20, 3) := by decide +kernel
theorem dX9_appendText_43 : decode cX9_appendText 43 = .ok (.aload_n 0, 1) := by decide +kernel
theorem dX9_appendText_44 : decode cX9_appendText 44 = .ok (.getfield 155, 3) := by decide +kernel
theorem dX9_appendText_47 : decode cX9_appendText 47 = .ok (.iload_n 1, 1) := by decide +kernel
theorem dX9_appendText_48 : decode cX9_appendText 48 = .ok (.iload_n 2, 1) := by decide +kernel
theorem dX9_appendText_49 : decode cX9_appendText 49 = .ok (.ishr, 1) := by decide +kernel
theorem dX9_appendText_50 : decode cX9_appendText 50 = .ok (.sipush 255, 3) := by decide +kernel
theorem dX9_appendText_53 : decode cX9_appendText 53 = .ok (.iand, 1) := by decide +kernel
theorem dX9_appendText_54 : decode cX9_appendText 54 = .ok (.iastore, 1) := by decide +kernel
theorem dX9_appendText_55 : decode cX9_appendText 55 = .ok (.aload_n 0, 1) := by decide +kernel
theorem dX9_appendText_56 : decode cX9_appendText 56 = .ok (.dup, 1) := by decide +kernel
theorem dX9_appendText_57 : decode cX9_appendText 57 = .ok (.getfield 155, 3) := by decide +kernel
theorem dX9_appendText_60 : decode cX9_appendText 60 = .ok (.iconst 1, 1) := by decide +kernel
theorem dX9_appendText_61 : decode cX9_appendText 61 = .ok (.iadd, 1) := by decide +kernel
theorem dX9_appendText_62 : decode cX9_appendText 62 = .ok (.putfield 155, 3) := by decide +kernel
theorem dX9_appendText_65 : decode cX9_appendText 65 = .ok (.iinc 2 (-8), 3) := by decide +kernel
theorem dX9_appendText_68 : decode cX9_appendText 68 = .ok (.goto (-33), 3) := by decide +kernel
theorem dX9_appendText_71 : decode cX9_appendText 71 = .ok (.aload_n 0, 1) := by decide +kernel
theorem dX9_appendText_72 : decode cX9_appendText 72 = .ok (.getfield 155, 3) := by decide +kernel
theorem dX9_appendText_75 : decode cX9_appendText 75 = .ok (.ireturn, 1) := by decide +kernel
theorem dX9_truncateText_0 : decode cX9_truncateText 0 = .ok (.aload_n 0, 1) := by decide +kernel
theorem dX9_truncateText_1 : decode cX9_truncateText 1 = .ok (.iconst 0, 1) := by decide +kernel
theorem dX9_truncateText_2 : decode cX9_truncateText 2 = .ok (.putfield 41, 3) := by decide +kernel
theorem dX9_truncateText_5 : decode cX9_truncateText 5 = .ok (.aload_n 0, 1) := by decide +kernel
theorem dX9_truncateText_6 : decode cX9_truncateText 6 = .ok (.iload_n 1, 1) := by decide +kernel
theorem dX9_truncateText_7 : decode cX9_truncateText 7 = .ok (.iconst 0, 1) := by decide +kernel
theorem dX9_truncateText_8 : decode cX9_truncateText 8 = .ok (.aload_n 0, 1) := by decide +kernel
theorem dX9_truncateText_9 : decode cX9_truncateText 9 = .ok (.getfield 155, 3) := by decide +kernel
theorem dX9_truncateText_12 : decode cX9_truncateText 12 = .ok (.invokestatic 162, 3) := by decide +kernel
theorem dX9_truncateText_15 : decode cX9_truncateText 15 = .ok (.iconst 1, 1) := by decide +kernel
theorem dX9_truncateText_16 : decode cX9_truncateText 16 = .ok (.invokevirtual 158, 3) := by decide +kernel
theorem dX9_truncateText_19 : decode cX9_truncateText 19 = .ok (.ifCond .ne 5, 3) := by decide +kernel
theorem dX9_truncateText_22 : decode cX9_truncateText 22 = .ok (.iconst 0, 1) := by decide +kernel
theorem dX9_truncateText_23 : decode cX9_truncateText 23 = .ok (.ireturn, 1) := by decide +kernel
theorem dX9_truncateText_24 : decode cX9_truncateText 24 = .ok (.aload_n 0, 1) := by decide +kernel
theorem dX9_truncateText_25 : decode cX9_truncateText 25 = .ok (.iload_n 1, 1) := by decide +kernel
theorem dX9_truncateText_26 : decode cX9_truncateText 26 = .ok (.putfield 155, 3) := by decide +kernel
theorem dX9_truncateText_29 : decode cX9_truncateText 29 = .ok (.iload_n 1, 1) := by decide +kernel
theorem dX9_truncateText_30 : decode cX9_truncateText 30 = .ok (.ireturn, 1) := by decide +kernel
theorem dX9_isByte_0 : decode cX9_isByte 0 = .ok (.aload_n 0, 1) := by decide +kernel
theorem dX9_isByte_1 : decode cX9_isByte 1 = .ok (.getfield 165, 3) := by decide +kernel
theorem dX9_isByte_4 : decode cX9_isByte 4 = .ok (.aload_n 0, 1) := by decide +kernel
theorem dX9_isByte_5 : decode cX9_isByte 5 = .ok (.getfield 155, 3) := by decide +kernel
theorem dX9_isByte_8 : decode cX9_isByte 8 = .ok (.if_icmp .ge 24, 3) := by decide +kernel
theorem dX9_isByte_11 : decode cX9_isByte 11 = .ok (.aload_n 0, 1) := by decide +kernel
theorem dX9_isByte_12 : decode cX9_isByte 12 = .ok (.getfield 20, 3) := by decide +kernel
theorem dX9_isByte_15 : decode cX9_isByte 15 = .ok (.aload_n 0, 1) := by decide +kernel
theorem dX9_isByte_16 : decode cX9_isByte 16 = .ok (.getfield 165, 3) := by decide +kernel
theorem dX9_isByte_19 : decode cX9_isByte 19 = .ok (.iaload, 1) := by decide +kernel
theorem dX9_isByte_20 : decode cX9_isByte 20 = .ok (.iload_n 1, 1) := by decide +kernel
theorem dX9_isByte_21 : decode cX9_isByte 21 = .ok (.iload_n 2, 1) := by decide +kernel
theorem dX9_isByte_22 : decode cX9_isByte 22 = .ok (.invokestatic 162, 3) := by decide +kernel
theorem dX9_isByte_25 : decode cX9_isByte 25 = .ok (.ifCond .eq 7, 3) := by decide +kernel
theorem dX9_isByte_28 : decode cX9_isByte 28 = .ok (.iconst 1, 1) := by decide +kernel
theorem dX9_isByte_29 : decode cX9_isByte 29 = .ok (.goto 4, 3) := by decide +kernel
theorem dX9_isByte_32 : decode cX9_isByte 32 = .ok (.iconst 0, 1) := by decide +kernel
theorem dX9_isByte_33 : decode cX9_isByte 33 = .ok (.ireturn, 1) := by decide +kernel
theorem dX9_next_0 : decode cX9_next 0 = .ok (.aload_n 0, 1) := by decide +kernel
theorem dX9_next_1 : decode cX9_next 1 = .ok (.bipush 32, 2) := by decide +kernel
theorem dX9_next_3 : decode cX9_next 3 = .ok (.bipush 32, 2) := by decide +kernel
theorem dX9_next_5 : decode cX9_next 5 = .ok (.invokevirtual 168, 3) := by decide +kernel
theorem dX9_next_8 : decode cX9_next 8 = .ok (.ifCond .ne 14, 3) := by decide +kernel
theorem dX9_next_11 : decode cX9_next 11 = .ok (.aload_n 0, 1) := by decide +kernel
theorem dX9_next_12 : decode cX9_next 12 = .ok (.bipush 10, 2) := by decide +kernel
theorem dX9_next_14 : decode cX9_next 14 = .ok (.bipush 10, 2) := by decide +kernel
theorem dX9_next_16 : decode cX9_next 16 = .ok (.invokevirtual 168, 3) := by decide +kernel
theorem dX9_next_19 : decode cX9_next 19 = .ok (.ifCond .eq 16, 3) := by decide +kernel
theorem dX9_next_22 : decode cX9_next 22 = .ok (.aload_n 0, 1) := by decide +kernel
theorem dX9_next_23 : decode cX9_next 23 = .ok (.dup, 1) := by decide +kernel
theorem dX9_next_24 : decode cX9_next 24 = .ok (.getfield 165, 3) := by decide +kernel
theorem dX9_next_27 : decode cX9_next 27 = .ok (.iconst 1, 1) := by decide +kernel
theorem dX9_next_28 : decode cX9_next 28 = .ok (.iadd, 1) := by decide +kernel
theorem dX9_next_29 : decode cX9_next 29 = .ok (.putfield 165, 3) := by decide +kernel
theorem dX9_next_32 : decode cX9_next 32 = .ok (.goto (-32), 3) := by decide +kernel
theorem dX9_next_35 : decode cX9_next 35 = .ok (.aload_n 0, 1) := by decide +kernel
theorem dX9_next_36 : decode cX9_next 36 = .ok (.aload_n 0, 1) := by decide +kernel
theorem dX9_next_37 : decode cX9_next 37 = .ok (.getfield 165, 3) := by decide +kernel
theorem dX9_next_40 : decode cX9_next 40 = .ok (.putfield 171, 3) := by decide +kernel
theorem dX9_next_43 : decode cX9_next 43 = .ok (.aload_n 0, 1) := by decide +kernel
theorem dX9_next_44 : decode cX9_next 44 = .ok (.getfield 165, 3) := by decide +kernel
theorem dX9_next_47 : decode cX9_next 47 = .ok (.aload_n 0, 1) := by decide +kernel
theorem dX9_next_48 : decode cX9_next 48 = .ok (.getfield 155, 3) := by decide +kernel
theorem dX9_next_51 : decode cX9_next 51 = .ok (.if_icmp .ne 11, 3) := by decide +kernel
theorem dX9_next_54 : decode cX9_next 54 = .ok (.aload_n 0, 1) := by decide +kernel
theorem dX9_next_55 : decode cX9_next 55 = .ok (.iconst 0, 1) := by decide +kernel
theorem dX9_next_56 : decode cX9_next 56 = .ok (.putfield 174, 3) := by decide +kernel
theorem dX9_next_59 : decode cX9_next 59 = .ok (.goto 164, 3) := by decide +kernel
theorem dX9_next_62 : decode cX9_next 62 = .ok (.aload_n 0, 1) := by decide +kernel
theorem dX9_next_63 : decode cX9_next 63 = .ok (.bipush 97, 2) := by decide +kernel
theorem dX9_next_65 : decode cX9_next 65 = .ok (.bipush 122, 2) := by decide +kernel
theorem dX9_next_67 : decode cX9_next 67 = .ok (.invokevirtual 168, 3) := by decide +kernel
theorem dX9_next_70 : decode cX9_next 70 = .ok (.ifCond .eq 35, 3) := by decide +kernel
theorem dX9_next_73 : decode cX9_next 73 = .ok (.aload_n 0, 1) := by decide +kernel
theorem dX9_next_74 : decode cX9_next 74 = .ok (.bipush 97, 2) := by decide +kernel
theorem dX9_next_76 : decode cX9_next 76 = .ok (.bipush 122, 2) := by decide +kernel
theorem dX9_next_78 : decode cX9_next 78 = .ok (.invokevirtual 168, 3) := by decide +kernel
theorem dX9_next_81 : decode cX9_next 81 = .ok (.ifCond .eq 16, 3) := by decide +kernel
theorem dX9_next_84 : decode cX9_next 84 = .ok (.aload_n 0, 1) := by decide +kernel
theorem dX9_next_85 : decode cX9_next 85 = .ok (.dup, 1) := by decide +kernel
theorem dX9_next_86 : decode cX9_next 86 = .ok (.getfield 165, 3) := by decide +kernel
theorem dX9_next_89 : decode cX9_next 89 = .ok (.iconst 1, 1) := by decide +kernel
theorem dX9_next_90 : decode cX9_next 90 = .ok (.iadd, 1) := by decide +kernel
theorem dX9_next_91 : decode cX9_next 91 = .ok (.putfield 165, 3) := by decide +kernel
theorem dX9_next_94 : decode cX9_next 94 = .ok (.goto (-21), 3) := by decide +kernel
theorem dX9_next_97 : decode cX9_next 97 = .ok (.aload_n 0, 1) := by decide +kernel
theorem dX9_next_98 : decode cX9_next 98 = .ok (.iconst 1, 1) := by decide +kernel
theorem dX9_next_99 : decode cX9_next 99 = .ok (.putfield 174, 3) := by decide +kernel
theorem dX9_next_102 : decode cX9_next 102 = .ok (.goto 121, 3) := by decide +kernel
theorem dX9_next_105 : decode cX9_next 105 = .ok (.aload_n 0, 1) := by decide +kernel
theorem dX9_next_106 : decode cX9_next 106 = .ok (.bipush 48, 2) := by decide +kernel
theorem dX9_next_108 : decode cX9_next 108 = .ok (.bipush 57, 2) := by decide +kernel
theorem dX9_next_110 : decode cX9_next 110 = .ok (.invokevirtual 168, 3) := by decide +kernel
theorem dX9_next_113 : decode cX9_next 113 = .ok (.ifCond .eq 80, 3) := by decide +kernel
theorem dX9_next_116 : decode cX9_next 116 = .ok (.aload_n 0, 1) := by decide +kernel
theorem dX9_next_117 : decode cX9_next 117 = .ok (.iconst 0, 1) := by decide +kernel
theorem dX9_next_118 : decode cX9_next 118 = .ok (.putfield 177, 3) := by decide +kernel
theorem dX9_next_121 : decode cX9_next 121 = .ok (.aload_n 0, 1) := by decide +kernel
theorem dX9_next_122 : decode cX9_next 122 = .ok (.bipush 48, 2) := by decide +kernel
theorem dX9_next_124 : decode cX9_next 124 = .ok (.bipush 57, 2) := by decide +kernel
theorem dX9_next_126 : decode cX9_next 126 = .ok (.invokevirtual 168, 3) := by decide +kernel
theorem dX9_next_129 : decode cX9_next 129 = .ok (.ifCond .eq 56, 3) := by decide +kernel
theorem dX9_next_132 : decode cX9_next 132 = .ok (.aload_n 0, 1) := by decide +kernel
theorem dX9_next_133 : decode cX9_next 133 = .ok (.aload_n 0, 1) := by decide +kernel
theorem dX9_next_134 : decode cX9_next 134 = .ok (.getfield 177, 3) := by decide +kernel
theorem dX9_next_137 : decode cX9_next 137 = .ok (.ldc 180, 2) := by decide +kernel
theorem dX9_next_139 : decode cX9_next 139 = .ok (.if_icmp .le 10, 3) := by decide +kernel
theorem dX9_next_142 : decode cX9_next 142 = .ok (.aload_n 0, 1) := by decide +kernel
theorem dX9_next_143 : decode cX9_next 143 = .ok (.getfield 177, 3) := by decide +kernel
theorem dX9_next_146 : decode cX9_next 146 = .ok (.goto 23, 3) := by decide +kernel
theorem dX9_next_149 : decode cX9_next 149 = .ok (.bipush 10, 2) := by decide +kernel
theorem dX9_next_151 : decode cX9_next 151 = .ok (.aload_n 0, 1) := by decide +kernel
theorem dX9_next_152 : decode cX9_next 152 = .ok (.getfield 177, 3) := by decide +kernel
theorem dX9_next_155 : decode cX9_next 155 = .ok (.imul, 1) := by decide +kernel
theorem dX9_next_156 : decode cX9_next 156 = .ok (.aload_n 0, 1) := by decide +kernel
theorem dX9_next_157 : decode cX9_next 157 = .ok (.getfield 20, 3) := by decide +kernel
theorem dX9_next_160 : decode cX9_next 160 = .ok (.aload_n 0, 1) := by decide +kernel
theorem dX9_next_161 : decode cX9_next 161 = .ok (.getfield 165, 3) := by decide +kernel
theorem dX9_next_164 : decode cX9_next 164 = .ok (.iaload, 1) := by decide +kernel
theorem dX9_next_165 : decode cX9_next 165 = .ok (.iadd, 1) := by decide +kernel
theorem dX9_next_166 : decode cX9_next 166 = .ok (.bipush 48, 2) := by decide +kernel
theorem dX9_next_168 : decode cX9_next 168 = .ok (.isub, 1) := by decide +kernel
theorem dX9_next_169 : decode cX9_next 169 = .ok (.putfield 177, 3) := by decide +kernel
theorem dX9_next_172 : decode cX9_next 172 = .ok (.aload_n 0, 1) := by decide +kernel
theorem dX9_next_173 : decode cX9_next 173 = .ok (.dup, 1) := by decide +kernel
theorem dX9_next_174 : decode cX9_next 174 = .ok (.getfield 165, 3) := by decide +kernel
theorem dX9_next_177 : decode cX9_next 177 = .ok (.iconst 1, 1) := by decide +kernel
theorem dX9_next_178 : decode cX9_next 178 = .ok (.iadd, 1) := by decide +kernel
theorem dX9_next_179 : decode cX9_next 179 = .ok (.putfield 165, 3) := by decide +kernel
theorem dX9_next_182 : decode cX9_next 182 = .ok (.goto (-61), 3) := by decide +kernel
theorem dX9_next_185 : decode cX9_next 185 = .ok (.aload_n 0, 1) := by decide +kernel
theorem dX9_next_186 : decode cX9_next 186 = .ok (.iconst 2, 1) := by decide +kernel
theorem dX9_next_187 : decode cX9_next 187 = .ok (.putfield 174, 3) := by decide +kernel
theorem dX9_next_190 : decode cX9_next 190 = .ok (.goto 33, 3) := by decide +kernel
theorem dX9_next_193 : decode cX9_next 193 = .ok (.aload_n 0, 1) := by decide +kernel
theorem dX9_next_194 : decode cX9_next 194 = .ok (.aload_n 0, 1) := by decide +kernel
theorem dX9_next_195 : decode cX9_next 195 = .ok (.bipush 59, 2) := by decide +kernel
theorem dX9_next_197 : decode cX9_next 197 = .ok (.bipush 59, 2) := by decide +kernel
theorem dX9_next_199 : decode cX9_next 199 = .ok (.invokevirtual 168, 3) := by decide +kernel
theorem dX9_next_202 : decode cX9_next 202 = .ok (.ifCond .eq 7, 3) := by decide +kernel
theorem dX9_next_205 : decode cX9_next 205 = .ok (.iconst 3, 1) := by decide +kernel
theorem dX9_next_206 : decode cX9_next 206 = .ok (.goto 4, 3) := by decide +kernel
theorem dX9_next_209 : decode cX9_next 209 = .ok (.iconst 4, 1) := by decide +kernel
theorem dX9_next_210 : decode cX9_next 210 = .ok (.putfield 174, 3) := by decide +kernel
theorem dX9_next_213 : decode cX9_next 213 = .ok (.aload_n 0, 1) := by decide +kernel
theorem dX9_next_214 : decode cX9_next 214 = .ok (.dup, 1) := by decide +kernel
theorem dX9_next_215 : decode cX9_next 215 = .ok (.getfield 165, 3) := by decide +kernel
theorem dX9_next_218 : decode cX9_next 218 = .ok (.iconst 1, 1) := by decide +kernel
theorem dX9_next_219 : decode cX9_next 219 = .ok (.iadd, 1) := by decide +kernel
theorem dX9_next_220 : decode cX9_next 220 = .ok (.putfield 165, 3) := by decide +kernel
theorem dX9_next_223 : decode cX9_next 223 = .ok (.return_, 1) := by decide +kernel
theorem dX9_must_0 : decode cX9_must 0 = .ok (.aload_n 0, 1) := by decide +kernel
theorem dX9_must_1 : decode cX9_must 1 = .ok (.getfield 181, 3) := by decide +kernel
theorem dX9_must_4 : decode cX9_must 4 = .ok (.ifCond .ne 20, 3) := by decide +kernel
theorem dX9_must_7 : decode cX9_must 7 = .ok (.iload_n 1, 1) := by decide +kernel
theorem dX9_must_8 : decode cX9_must 8 = .ok (.ifCond .ne 16, 3) := by decide +kernel
theorem dX9_must_11 : decode cX9_must 11 = .ok (.aload_n 0, 1) := by decide +kernel
theorem dX9_must_12 : decode cX9_must 12 = .ok (.iload_n 2, 1) := by decide +kernel
theorem dX9_must_13 : decode cX9_must 13 = .ok (.putfield 181, 3) := by decide +kernel
theorem dX9_must_16 : decode cX9_must 16 = .ok (.aload_n 0, 1) := by decide +kernel
theorem dX9_must_17 : decode cX9_must 17 = .ok (.aload_n 0, 1) := by decide +kernel
theorem dX9_must_18 : decode cX9_must 18 = .ok (.getfield 171, 3) := by decide +kernel
theorem dX9_must_21 : decode cX9_must 21 = .ok (.putfield 23, 3) := by decide +kernel
theorem dX9_must_24 : decode cX9_must 24 = .ok (.aload_n 0, 1) := by decide +kernel
theorem dX9_must_25 : decode cX9_must 25 = .ok (.getfield 181, 3) := by decide +kernel
theorem dX9_must_28 : decode cX9_must 28 = .ok (.ifCond .ne 7, 3) := by decide +kernel
theorem dX9_must_31 : decode cX9_must 31 = .ok (.iconst 1, 1) := by decide +kernel
theorem dX9_must_32 : decode cX9_must 32 = .ok (.goto 4, 3) := by decide +kernel
theorem dX9_must_35 : decode cX9_must 35 = .ok (.iconst 0, 1) := by decide +kernel
theorem dX9_must_36 : decode cX9_must 36 = .ok (.ireturn, 1) := by decide +kernel
theorem dX9_isWord_0 : decode cX9_isWord 0 = .ok (.aload_n 0, 1) := by decide +kernel
theorem dX9_isWord_1 : decode cX9_isWord 1 = .ok (.getfield 181, 3) := by decide +kernel
theorem dX9_isWord_4 : decode cX9_isWord 4 = .ok (.ifCond .ne 27, 3) := by decide +kernel
theorem dX9_isWord_7 : decode cX9_isWord 7 = .ok (.aload_n 0, 1) := by decide +kernel
theorem dX9_isWord_8 : decode cX9_isWord 8 = .ok (.getfield 174, 3) := by decide +kernel
theorem dX9_isWord_11 : decode cX9_isWord 11 = .ok (.iconst 1, 1) := by decide +kernel
theorem dX9_isWord_12 : decode cX9_isWord 12 = .ok (.if_icmp .ne 19, 3) := by decide +kernel
theorem dX9_isWord_15 : decode cX9_isWord 15 = .ok (.aload_n 0, 1) := by decide +kernel
theorem dX9_isWord_16 : decode cX9_isWord 16 = .ok (.getfield 165, 3) := by decide +kernel
theorem dX9_isWord_19 : decode cX9_isWord 19 = .ok (.aload_n 0, 1) := by decide +kernel
theorem dX9_isWord_20 : decode cX9_isWord 20 = .ok (.getfield 171, 3) := by decide +kernel
theorem dX9_isWord_23 : decode cX9_isWord 23 = .ok (.isub, 1) := by decide +kernel
theorem dX9_isWord_24 : decode cX9_isWord 24 = .ok (.aload_n 1, 1) := by decide +kernel
theorem dX9_isWord_25 : decode cX9_isWord 25 = .ok (.invokevirtual 184, 3) := by decide +kernel
theorem dX9_isWord_28 : decode cX9_isWord 28 = .ok (.if_icmp .eq 5, 3) := by decide +kernel
theorem dX9_isWord_31 : decode cX9_isWord 31 = .ok (.iconst 0, 1) := by decide +kernel
theorem dX9_isWord_32 : decode cX9_isWord 32 = .ok (.ireturn, 1) := by decide +kernel
theorem dX9_isWord_33 : decode cX9_isWord 33 = .ok (.iconst 0, 1) := by decide +kernel
theorem dX9_isWord_34 : decode cX9_isWord 34 = .ok (.istore_n 2, 1) := by decide +kernel
theorem dX9_isWord_35 : decode cX9_isWord 35 = .ok (.iload_n 2, 1) := by decide +kernel
theorem dX9_isWord_36 : decode cX9_isWord 36 = .ok (.aload_n 1, 1) := by decide +kernel
theorem dX9_isWord_37 : decode cX9_isWord 37 = .ok (.invokevirtual 184, 3) := by decide +kernel
theorem dX9_isWord_40 : decode cX9_isWord 40 = .ok (.if_icmp .ge 30, 3) := by decide +kernel
theorem dX9_isWord_43 : decode cX9_isWord 43 = .ok (.aload_n 0, 1) := by decide +kernel
theorem dX9_isWord_44 : decode cX9_isWord 44 = .ok (.getfield 20, 3) := by decide +kernel
theorem dX9_isWord_47 : decode cX9_isWord 47 = .ok (.aload_n 0, 1) := by decide +kernel
theorem dX9_isWord_48 : decode cX9_isWord 48 = .ok (.getfield 171, 3) := by decide +kernel
theorem dX9_isWord_51 : decode cX9_isWord 51 = .ok (.iload_n 2, 1) := by decide +kernel
theorem dX9_isWord_52 : decode cX9_isWord 52 = .ok (.iadd, 1) := by decide +kernel
theorem dX9_isWord_53 : decode cX9_isWord 53 = .ok (.iaload, 1) := by decide +kernel
theorem dX9_isWord_54 : decode cX9_isWord 54 = .ok (.aload_n 1, 1) := by decide +kernel
theorem dX9_isWord_55 : decode cX9_isWord 55 = .ok (.iload_n 2, 1) := by decide +kernel
theorem dX9_isWord_56 : decode cX9_isWord 56 = .ok (.invokevirtual 189, 3) := by decide +kernel
theorem dX9_isWord_59 : decode cX9_isWord 59 = .ok (.if_icmp .eq 5, 3) := by decide +kernel
theorem dX9_isWord_62 : decode cX9_isWord 62 = .ok (.iconst 0, 1) := by decide +kernel
theorem dX9_isWord_63 : decode cX9_isWord 63 = .ok (.ireturn, 1) := by decide +kernel
theorem dX9_isWord_64 : decode cX9_isWord 64 = .ok (.iinc 2 1, 3) := by decide +kernel
theorem dX9_isWord_67 : decode cX9_isWord 67 = .ok (.goto (-32), 3) := by decide +kernel
theorem dX9_isWord_70 : decode cX9_isWord 70 = .ok (.iconst 1, 1) := by decide +kernel
theorem dX9_isWord_71 : decode cX9_isWord 71 = .ok (.ireturn, 1) := by decide +kernel
theorem dX9_goesOn_0 : decode cX9_goesOn 0 = .ok (.aload_n 0, 1) := by decide +kernel
theorem dX9_goesOn_1 : decode cX9_goesOn 1 = .ok (.getfield 181, 3) := by decide +kernel
theorem dX9_goesOn_4 : decode cX9_goesOn 4 = .ok (.ifCond .ne 7, 3) := by decide +kernel
theorem dX9_goesOn_7 : decode cX9_goesOn 7 = .ok (.aload_n 0, 1) := by decide +kernel
theorem dX9_goesOn_8 : decode cX9_goesOn 8 = .ok (.invokevirtual 193, 3) := by decide +kernel
theorem dX9_goesOn_11 : decode cX9_goesOn 11 = .ok (.return_, 1) := by decide +kernel
theorem dX9_mustWord_0 : decode cX9_mustWord 0 = .ok (.aload_n 0, 1) := by decide +kernel
theorem dX9_mustWord_1 : decode cX9_mustWord 1 = .ok (.aload_n 0, 1) := by decide +kernel
theorem dX9_mustWord_2 : decode cX9_mustWord 2 = .ok (.aload_n 1, 1) := by decide +kernel
theorem dX9_mustWord_3 : decode cX9_mustWord 3 = .ok (.invokevirtual 196, 3) := by decide +kernel
theorem dX9_mustWord_6 : decode cX9_mustWord 6 = .ok (.iconst 1, 1) := by decide +kernel
theorem dX9_mustWord_7 : decode cX9_mustWord 7 = .ok (.invokevirtual 200, 3) := by decide +kernel
theorem dX9_mustWord_10 : decode cX9_mustWord 10 = .ok (.pop, 1) := by decide +kernel
theorem dX9_mustWord_11 : decode cX9_mustWord 11 = .ok (.aload_n 0, 1) := by decide +kernel
theorem dX9_mustWord_12 : decode cX9_mustWord 12 = .ok (.invokevirtual 203, 3) := by decide +kernel
theorem dX9_mustWord_15 : decode cX9_mustWord 15 = .ok (.return_, 1) := by decide +kernel
theorem dX9_endsLine_0 : decode cX9_endsLine 0 = .ok (.aload_n 0, 1) := by decide +kernel
theorem dX9_endsLine_1 : decode cX9_endsLine 1 = .ok (.aload_n 0, 1) := by decide +kernel
theorem dX9_endsLine_2 : decode cX9_endsLine 2 = .ok (.getfield 174, 3) := by decide +kernel
theorem dX9_endsLine_5 : decode cX9_endsLine 5 = .ok (.iconst 3, 1) := by decide +kernel
theorem dX9_endsLine_6 : decode cX9_endsLine 6 = .ok (.if_icmp .ne 7, 3) := by decide +kernel
theorem dX9_endsLine_9 : decode cX9_endsLine 9 = .ok (.iconst 1, 1) := by decide +kernel
theorem dX9_endsLine_10 : decode cX9_endsLine 10 = .ok (.goto 4, 3) := by decide +kernel
theorem dX9_endsLine_13 : decode cX9_endsLine 13 = .ok (.iconst 0, 1) := by decide +kernel
theorem dX9_endsLine_14 : decode cX9_endsLine 14 = .ok (.iconst 1, 1) := by decide +kernel
theorem dX9_endsLine_15 : decode cX9_endsLine 15 = .ok (.invokevirtual 200, 3) := by decide +kernel
theorem dX9_endsLine_18 : decode cX9_endsLine 18 = .ok (.pop, 1) := by decide +kernel
theorem dX9_endsLine_19 : decode cX9_endsLine 19 = .ok (.aload_n 0, 1) := by decide +kernel
theorem dX9_endsLine_20 : decode cX9_endsLine 20 = .ok (.invokevirtual 203, 3) := by decide +kernel
theorem dX9_endsLine_23 : decode cX9_endsLine 23 = .ok (.return_, 1) := by decide +kernel
theorem dX9_looks_0 : decode cX9_looks 0 = .ok (.aload_n 0, 1) := by decide +kernel
theorem dX9_looks_1 : decode cX9_looks 1 = .ok (.aload_n 0, 1) := by decide +kernel
theorem dX9_looks_2 : decode cX9_looks 2 = .ok (.getfield 174, 3) := by decide +kernel
theorem dX9_looks_5 : decode cX9_looks 5 = .ok (.iconst 2, 1) := by decide +kernel
theorem dX9_looks_6 : decode cX9_looks 6 = .ok (.if_icmp .ne 7, 3) := by decide +kernel
theorem dX9_looks_9 : decode cX9_looks 9 = .ok (.iconst 1, 1) := by decide +kernel
theorem dX9_looks_10 : decode cX9_looks 10 = .ok (.goto 4, 3) := by decide +kernel
theorem dX9_looks_13 : decode cX9_looks 13 = .ok (.iconst 0, 1) := by decide +kernel
theorem dX9_looks_14 : decode cX9_looks 14 = .ok (.iconst 1, 1) := by decide +kernel
theorem dX9_looks_15 : decode cX9_looks 15 = .ok (.invokevirtual 200, 3) := by decide +kernel
theorem dX9_looks_18 : decode cX9_looks 18 = .ok (.ifCond .eq 18, 3) := by decide +kernel
theorem dX9_looks_21 : decode cX9_looks 21 = .ok (.aload_n 0, 1) := by decide +kernel
theorem dX9_looks_22 : decode cX9_looks 22 = .ok (.aload_n 0, 1) := by decide +kernel
theorem dX9_looks_23 : decode cX9_looks 23 = .ok (.getfield 177, 3) := by decide +kernel
theorem dX9_looks_26 : decode cX9_looks 26 = .ok (.iload_n 1, 1) := by decide +kernel
theorem dX9_looks_27 : decode cX9_looks 27 = .ok (.iload_n 2, 1) := by decide +kernel
theorem dX9_looks_28 : decode cX9_looks 28 = .ok (.invokestatic 162, 3) := by decide +kernel
theorem dX9_looks_31 : decode cX9_looks 31 = .ok (.iconst 2, 1) := by decide +kernel
theorem dX9_looks_32 : decode cX9_looks 32 = .ok (.invokevirtual 200, 3) := by decide +kernel
theorem dX9_looks_35 : decode cX9_looks 35 = .ok (.pop, 1) := by decide +kernel
theorem dX9_looks_36 : decode cX9_looks 36 = .ok (.aload_n 0, 1) := by decide +kernel
theorem dX9_looks_37 : decode cX9_looks 37 = .ok (.getfield 181, 3) := by decide +kernel
theorem dX9_looks_40 : decode cX9_looks 40 = .ok (.ifCond .ne 10, 3) := by decide +kernel
theorem dX9_looks_43 : decode cX9_looks 43 = .ok (.aload_n 0, 1) := by decide +kernel
theorem dX9_looks_44 : decode cX9_looks 44 = .ok (.getfield 177, 3) := by decide +kernel
theorem dX9_looks_47 : decode cX9_looks 47 = .ok (.goto 4, 3) := by decide +kernel
theorem dX9_looks_50 : decode cX9_looks 50 = .ok (.iload_n 1, 1) := by decide +kernel
theorem dX9_looks_51 : decode cX9_looks 51 = .ok (.ireturn, 1) := by decide +kernel
theorem dX9_reads_0 : decode cX9_reads 0 = .ok (.aload_n 0, 1) := by decide +kernel
theorem dX9_reads_1 : decode cX9_reads 1 = .ok (.iload_n 1, 1) := by decide +kernel
theorem dX9_reads_2 : decode cX9_reads 2 = .ok (.iload_n 2, 1) := by decide +kernel
theorem dX9_reads_3 : decode cX9_reads 3 = .ok (.invokevirtual 206, 3) := by decide +kernel
theorem dX9_reads_6 : decode cX9_reads 6 = .ok (.istore_n 3, 1) := by decide +kernel
theorem dX9_reads_7 : decode cX9_reads 7 = .ok (.aload_n 0, 1) := by decide +kernel
theorem dX9_reads_8 : decode cX9_reads 8 = .ok (.invokevirtual 203, 3) := by decide +kernel
theorem dX9_reads_11 : decode cX9_reads 11 = .ok (.iload_n 3, 1) := by decide +kernel
theorem dX9_reads_12 : decode cX9_reads 12 = .ok (.ireturn, 1) := by decide +kernel
theorem dX9_starts_0 : decode cX9_starts 0 = .ok (.aload_n 0, 1) := by decide +kernel
theorem dX9_starts_1 : decode cX9_starts 1 = .ok (.iconst 0, 1) := by decide +kernel
theorem dX9_starts_2 : decode cX9_starts 2 = .ok (.putfield 181, 3) := by decide +kernel
theorem dX9_starts_5 : decode cX9_starts 5 = .ok (.aload_n 0, 1) := by decide +kernel
theorem dX9_starts_6 : decode cX9_starts 6 = .ok (.iconst (-1), 1) := by decide +kernel
theorem dX9_starts_7 : decode cX9_starts 7 = .ok (.putfield 23, 3) := by decide +kernel
theorem dX9_starts_10 : decode cX9_starts 10 = .ok (.aload_n 0, 1) := by decide +kernel
theorem dX9_starts_11 : decode cX9_starts 11 = .ok (.iconst 0, 1) := by decide +kernel
theorem dX9_starts_12 : decode cX9_starts 12 = .ok (.putfield 165, 3) := by decide +kernel
theorem dX9_starts_15 : decode cX9_starts 15 = .ok (.aload_n 0, 1) := by decide +kernel
theorem dX9_starts_16 : decode cX9_starts 16 = .ok (.invokevirtual 193, 3) := by decide +kernel
theorem dX9_starts_19 : decode cX9_starts 19 = .ok (.return_, 1) := by decide +kernel
theorem dX9_readsPupil_0 : decode cX9_readsPupil 0 = .ok (.aload_n 0, 1) := by decide +kernel
theorem dX9_readsPupil_1 : decode cX9_readsPupil 1 = .ok (.aload_n 0, 1) := by decide +kernel
theorem dX9_readsPupil_2 : decode cX9_readsPupil 2 = .ok (.ldc 209, 2) := by decide +kernel
theorem dX9_readsPupil_4 : decode cX9_readsPupil 4 = .ok (.invokevirtual 196, 3) := by decide +kernel
theorem dX9_readsPupil_7 : decode cX9_readsPupil 7 = .ok (.iconst 1, 1) := by decide +kernel
theorem dX9_readsPupil_8 : decode cX9_readsPupil 8 = .ok (.invokevirtual 200, 3) := by decide +kernel
theorem dX9_readsPupil_11 : decode cX9_readsPupil 11 = .ok (.ifCond .eq 26, 3) := by decide +kernel
theorem dX9_readsPupil_14 : decode cX9_readsPupil 14 = .ok (.aload_n 0, 1) := by decide +kernel
theorem dX9_readsPupil_15 : decode cX9_readsPupil 15 = .ok (.aload_n 0, 1) := by decide +kernel
theorem dX9_readsPupil_16 : decode cX9_readsPupil 16 = .ok (.iconst 0, 1) := by decide +kernel
theorem dX9_readsPupil_17 : decode cX9_readsPupil 17 = .ok (.invokevirtual 50, 3) := by decide +kernel
theorem dX9_readsPupil_20 : decode cX9_readsPupil 20 = .ok (.bipush 12, 2) := by decide +kernel
theorem dX9_readsPupil_22 : decode cX9_readsPupil 22 = .ok (.if_icmp .ge 7, 3) := by decide +kernel
theorem dX9_readsPupil_25 : decode cX9_readsPupil 25 = .ok (.iconst 1, 1) := by decide +kernel
theorem dX9_readsPupil_26 : decode cX9_readsPupil 26 = .ok (.goto 4, 3) := by decide +kernel
theorem dX9_readsPupil_29 : decode cX9_readsPupil 29 = .ok (.iconst 0, 1) := by decide +kernel
theorem dX9_readsPupil_30 : decode cX9_readsPupil 30 = .ok (.iconst 4, 1) := by decide +kernel
theorem dX9_readsPupil_31 : decode cX9_readsPupil 31 = .ok (.invokevirtual 200, 3) := by decide +kernel
theorem dX9_readsPupil_34 : decode cX9_readsPupil 34 = .ok (.ifCond .ne 4, 3) := by decide +kernel
theorem dX9_readsPupil_37 : decode cX9_readsPupil 37 = .ok (.return_, 1) := by decide +kernel
theorem dX9_readsPupil_38 : decode cX9_readsPupil 38 = .ok (.aload_n 0, 1) := by decide +kernel
theorem dX9_readsPupil_39 : decode cX9_readsPupil 39 = .ok (.invokevirtual 203, 3) := by decide +kernel
theorem dX9_readsPupil_42 : decode cX9_readsPupil 42 = .ok (.aload_n 0, 1) := by decide +kernel
theorem dX9_readsPupil_43 : decode cX9_readsPupil 43 = .ok (.iconst 0, 1) := by decide +kernel
theorem dX9_readsPupil_44 : decode cX9_readsPupil 44 = .ok (.iconst 5, 1) := by decide +kernel
theorem dX9_readsPupil_45 : decode cX9_readsPupil 45 = .ok (.invokevirtual 211, 3) := by decide +kernel
theorem dX9_readsPupil_48 : decode cX9_readsPupil 48 = .ok (.istore_n 1, 1) := by decide +kernel
theorem dX9_readsPupil_49 : decode cX9_readsPupil 49 = .ok (.aload_n 0, 1) := by decide +kernel
theorem dX9_readsPupil_50 : decode cX9_readsPupil 50 = .ok (.iconst 0, 1) := by decide +kernel
theorem dX9_readsPupil_51 : decode cX9_readsPupil 51 = .ok (.iconst 5, 1) := by decide +kernel
theorem dX9_readsPupil_52 : decode cX9_readsPupil 52 = .ok (.invokevirtual 206, 3) := by decide +kernel
theorem dX9_readsPupil_55 : decode cX9_readsPupil 55 = .ok (.istore_n 2, 1) := by decide +kernel
theorem dX9_readsPupil_56 : decode cX9_readsPupil 56 = .ok (.aload_n 0, 1) := by decide +kernel
theorem dX9_readsPupil_57 : decode cX9_readsPupil 57 = .ok (.aload_n 0, 1) := by decide +kernel
theorem dX9_readsPupil_58 : decode cX9_readsPupil 58 = .ok (.getfield 181, 3) := by decide +kernel
theorem dX9_readsPupil_61 : decode cX9_readsPupil 61 = .ok (.ifCond .ne 13, 3) := by decide +kernel
theorem dX9_readsPupil_64 : decode cX9_readsPupil 64 = .ok (.aload_n 0, 1) := by decide +kernel
theorem dX9_readsPupil_65 : decode cX9_readsPupil 65 = .ok (.iload_n 1, 1) := by decide +kernel
theorem dX9_readsPupil_66 : decode cX9_readsPupil 66 = .ok (.iload_n 2, 1) := by decide +kernel
theorem dX9_readsPupil_67 : decode cX9_readsPupil 67 = .ok (.invokevirtual 214, 3) := by decide +kernel
theorem dX9_readsPupil_70 : decode cX9_readsPupil 70 = .ok (.iconst (-1), 1) := by decide +kernel
theorem dX9_readsPupil_71 : decode cX9_readsPupil 71 = .ok (.if_icmp .ne 7, 3) := by decide +kernel
theorem dX9_readsPupil_74 : decode cX9_readsPupil 74 = .ok (.iconst 1, 1) := by decide +kernel
theorem dX9_readsPupil_75 : decode cX9_readsPupil 75 = .ok (.goto 4, 3) := by decide +kernel
theorem dX9_readsPupil_78 : decode cX9_readsPupil 78 = .ok (.iconst 0, 1) := by decide +kernel
theorem dX9_readsPupil_79 : decode cX9_readsPupil 79 = .ok (.iconst 3, 1) := by decide +kernel
theorem dX9_readsPupil_80 : decode cX9_readsPupil 80 = .ok (.invokevirtual 200, 3) := by decide +kernel
theorem dX9_readsPupil_83 : decode cX9_readsPupil 83 = .ok (.pop, 1) := by decide +kernel
theorem dX9_readsPupil_84 : decode cX9_readsPupil 84 = .ok (.aload_n 0, 1) := by decide +kernel
theorem dX9_readsPupil_85 : decode cX9_readsPupil 85 = .ok (.invokevirtual 203, 3) := by decide +kernel
theorem dX9_readsPupil_88 : decode cX9_readsPupil 88 = .ok (.aload_n 0, 1) := by decide +kernel
theorem dX9_readsPupil_89 : decode cX9_readsPupil 89 = .ok (.iconst 1, 1) := by decide +kernel
theorem dX9_readsPupil_90 : decode cX9_readsPupil 90 = .ok (.bipush 9, 2) := by decide +kernel
theorem dX9_readsPupil_92 : decode cX9_readsPupil 92 = .ok (.invokevirtual 211, 3) := by decide +kernel
theorem dX9_readsPupil_95 : decode cX9_readsPupil 95 = .ok (.istore_n 3, 1) := by decide +kernel
theorem dX9_readsPupil_96 : decode cX9_readsPupil 96 = .ok (.aload_n 0, 1) := by decide +kernel
theorem dX9_readsPupil_97 : decode cX9_readsPupil 97 = .ok (.iconst 1, 1) := by decide +kernel
theorem dX9_readsPupil_98 : decode cX9_readsPupil 98 = .ok (.bipush 9, 2) := by decide +kernel
theorem dX9_readsPupil_100 : decode cX9_readsPupil 100 = .ok (.invokevirtual 211, 3) := by decide +kernel
theorem dX9_readsPupil_103 : decode cX9_readsPupil 103 = .ok (.istore 4, 2) := by decide +kernel
theorem dX9_readsPupil_105 : decode cX9_readsPupil 105 = .ok (.aload_n 0, 1) := by decide +kernel
theorem dX9_readsPupil_106 : decode cX9_readsPupil 106 = .ok (.ldc 217, 2) := by decide +kernel
theorem dX9_readsPupil_108 : decode cX9_readsPupil 108 = .ok (.invokevirtual 196, 3) := by decide +kernel
theorem dX9_readsPupil_111 : decode cX9_readsPupil 111 = .ok (.invokestatic 110, 3) := by decide +kernel
theorem dX9_readsPupil_114 : decode cX9_readsPupil 114 = .ok (.istore 5, 2) := by decide +kernel
theorem dX9_readsPupil_116 : decode cX9_readsPupil 116 = .ok (.iload 5, 2) := by decide +kernel
theorem dX9_readsPupil_118 : decode cX9_readsPupil 118 = .ok (.iconst 1, 1) := by decide +kernel
theorem dX9_readsPupil_119 : decode cX9_readsPupil 119 = .ok (.if_icmp .ne 7, 3) := by decide +kernel
theorem dX9_readsPupil_122 : decode cX9_readsPupil 122 = .ok (.aload_n 0, 1) := by decide +kernel
theorem dX9_readsPupil_123 : decode cX9_readsPupil 123 = .ok (.invokevirtual 203, 3) := by decide +kernel
theorem dX9_readsPupil_126 : decode cX9_readsPupil 126 = .ok (.aload_n 0, 1) := by decide +kernel
theorem dX9_readsPupil_127 : decode cX9_readsPupil 127 = .ok (.invokevirtual 219, 3) := by decide +kernel
theorem dX9_readsPupil_130 : decode cX9_readsPupil 130 = .ok (.aload_n 0, 1) := by decide +kernel
theorem dX9_readsPupil_131 : decode cX9_readsPupil 131 = .ok (.getfield 181, 3) := by decide +kernel
theorem dX9_readsPupil_134 : decode cX9_readsPupil 134 = .ok (.ifCond .ne 14, 3) := by decide +kernel
theorem dX9_readsPupil_137 : decode cX9_readsPupil 137 = .ok (.aload_n 0, 1) := by decide +kernel
theorem dX9_readsPupil_138 : decode cX9_readsPupil 138 = .ok (.iload_n 1, 1) := by decide +kernel
theorem dX9_readsPupil_139 : decode cX9_readsPupil 139 = .ok (.iload_n 2, 1) := by decide +kernel
theorem dX9_readsPupil_140 : decode cX9_readsPupil 140 = .ok (.iload_n 3, 1) := by decide +kernel
theorem dX9_readsPupil_141 : decode cX9_readsPupil 141 = .ok (.iload 4, 2) := by decide +kernel
theorem dX9_readsPupil_143 : decode cX9_readsPupil 143 = .ok (.iload 5, 2) := by decide +kernel
theorem dX9_readsPupil_145 : decode cX9_readsPupil 145 = .ok (.invokevirtual 37, 3) := by decide +kernel
theorem dX9_readsPupil_148 : decode cX9_readsPupil 148 = .ok (.return_, 1) := by decide +kernel
theorem dX9_load_0 : decode cX9_load 0 = .ok (.aload_n 0, 1) := by decide +kernel
theorem dX9_load_1 : decode cX9_load 1 = .ok (.iconst 0, 1) := by decide +kernel
theorem dX9_load_2 : decode cX9_load 2 = .ok (.putfield 41, 3) := by decide +kernel
theorem dX9_load_5 : decode cX9_load 5 = .ok (.aload_n 0, 1) := by decide +kernel
theorem dX9_load_6 : decode cX9_load 6 = .ok (.bipush 10, 2) := by decide +kernel
theorem dX9_load_8 : decode cX9_load 8 = .ok (.putfield 44, 3) := by decide +kernel
theorem dX9_load_11 : decode cX9_load 11 = .ok (.iconst 0, 1) := by decide +kernel
theorem dX9_load_12 : decode cX9_load 12 = .ok (.istore_n 1, 1) := by decide +kernel
theorem dX9_load_13 : decode cX9_load 13 = .ok (.iload_n 1, 1) := by decide +kernel
theorem dX9_load_14 : decode cX9_load 14 = .ok (.sipush 761, 3) := by decide +kernel
theorem dX9_load_17 : decode cX9_load 17 = .ok (.if_icmp .ge 15, 3) := by decide +kernel
theorem dX9_load_20 : decode cX9_load 20 = .ok (.aload_n 0, 1) := by decide +kernel
theorem dX9_load_21 : decode cX9_load 21 = .ok (.iload_n 1, 1) := by decide +kernel
theorem dX9_load_22 : decode cX9_load 22 = .ok (.iconst 0, 1) := by decide +kernel
theorem dX9_load_23 : decode cX9_load 23 = .ok (.invokevirtual 33, 3) := by decide +kernel
theorem dX9_load_26 : decode cX9_load 26 = .ok (.iinc 1 1, 3) := by decide +kernel
theorem dX9_load_29 : decode cX9_load 29 = .ok (.goto (-16), 3) := by decide +kernel
theorem dX9_load_32 : decode cX9_load 32 = .ok (.aload_n 0, 1) := by decide +kernel
theorem dX9_load_33 : decode cX9_load 33 = .ok (.invokevirtual 222, 3) := by decide +kernel
theorem dX9_load_36 : decode cX9_load 36 = .ok (.aload_n 0, 1) := by decide +kernel
theorem dX9_load_37 : decode cX9_load 37 = .ok (.ldc 225, 2) := by decide +kernel
theorem dX9_load_39 : decode cX9_load 39 = .ok (.invokevirtual 227, 3) := by decide +kernel
theorem dX9_load_42 : decode cX9_load 42 = .ok (.aload_n 0, 1) := by decide +kernel
theorem dX9_load_43 : decode cX9_load 43 = .ok (.iconst 2, 1) := by decide +kernel
theorem dX9_load_44 : decode cX9_load 44 = .ok (.aload_n 0, 1) := by decide +kernel
theorem dX9_load_45 : decode cX9_load 45 = .ok (.bipush 10, 2) := by decide +kernel
theorem dX9_load_47 : decode cX9_load 47 = .ok (.bipush 60, 2) := by decide +kernel
theorem dX9_load_49 : decode cX9_load 49 = .ok (.invokevirtual 211, 3) := by decide +kernel
theorem dX9_load_52 : decode cX9_load 52 = .ok (.invokevirtual 33, 3) := by decide +kernel
theorem dX9_load_55 : decode cX9_load 55 = .ok (.aload_n 0, 1) := by decide +kernel
theorem dX9_load_56 : decode cX9_load 56 = .ok (.iconst 3, 1) := by decide +kernel
theorem dX9_load_57 : decode cX9_load 57 = .ok (.aload_n 0, 1) := by decide +kernel
theorem dX9_load_58 : decode cX9_load 58 = .ok (.iconst 1, 1) := by decide +kernel
theorem dX9_load_59 : decode cX9_load 59 = .ok (.bipush 20, 2) := by decide +kernel
theorem dX9_load_61 : decode cX9_load 61 = .ok (.invokevirtual 211, 3) := by decide +kernel
theorem dX9_load_64 : decode cX9_load 64 = .ok (.invokevirtual 33, 3) := by decide +kernel
theorem dX9_load_67 : decode cX9_load 67 = .ok (.aload_n 0, 1) := by decide +kernel
