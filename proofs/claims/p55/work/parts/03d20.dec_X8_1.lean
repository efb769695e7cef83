theorem dX8_why_35 : decode cX8_why 35 = .ok (.iload 4, 2) := by decide +kernel
theorem dX8_why_37 : decode cX8_why 37 = .ok (.ireturn, 1) := by decide +kernel
theorem dX8_why_38 : decode cX8_why 38 = .ok (.iload 4, 2) := by decide +kernel
theorem dX8_why_40 : decode cX8_why 40 = .ok (.tableswitch 79 1 4 #[32, 40, 53, 66], 32) := by decide +kernel
theorem dX8_why_72 : decode cX8_why 72 = .ok (.bipush 100, 2) := by decide +kernel
theorem dX8_why_74 : decode cX8_why 74 = .ok (.aload_n 3, 1) := by decide +kernel
theorem dX8_why_75 : decode cX8_why 75 = .ok (.getfield 231, 3) := by decide +kernel
theorem dX8_why_78 : decode cX8_why 78 = .ok (.iadd, 1) := by decide +kernel
theorem dX8_why_79 : decode cX8_why 79 = .ok (.ireturn, 1) := by decide +kernel
theorem dX8_why_80 : decode cX8_why 80 = .ok (.sipush 200, 3) := by decide +kernel
theorem dX8_why_83 : decode cX8_why 83 = .ok (.aload_n 0, 1) := by decide +kernel
theorem dX8_why_84 : decode cX8_why 84 = .ok (.getfield 26, 3) := by decide +kernel
theorem dX8_why_87 : decode cX8_why 87 = .ok (.aload_n 3, 1) := by decide +kernel
theorem dX8_why_88 : decode cX8_why 88 = .ok (.invokevirtual 316, 3) := by decide +kernel
theorem dX8_why_91 : decode cX8_why 91 = .ok (.iadd, 1) := by decide +kernel
theorem dX8_why_92 : decode cX8_why 92 = .ok (.ireturn, 1) := by decide +kernel
theorem dX8_why_93 : decode cX8_why 93 = .ok (.sipush 300, 3) := by decide +kernel
theorem dX8_why_96 : decode cX8_why 96 = .ok (.aload_n 0, 1) := by decide +kernel
theorem dX8_why_97 : decode cX8_why 97 = .ok (.getfield 26, 3) := by decide +kernel
theorem dX8_why_100 : decode cX8_why 100 = .ok (.aload_n 3, 1) := by decide +kernel
theorem dX8_why_101 : decode cX8_why 101 = .ok (.invokevirtual 319, 3) := by decide +kernel
theorem dX8_why_104 : decode cX8_why 104 = .ok (.iadd, 1) := by decide +kernel
theorem dX8_why_105 : decode cX8_why 105 = .ok (.ireturn, 1) := by decide +kernel
theorem dX8_why_106 : decode cX8_why 106 = .ok (.sipush 400, 3) := by decide +kernel
theorem dX8_why_109 : decode cX8_why 109 = .ok (.aload_n 0, 1) := by decide +kernel
theorem dX8_why_110 : decode cX8_why 110 = .ok (.getfield 26, 3) := by decide +kernel
theorem dX8_why_113 : decode cX8_why 113 = .ok (.aload_n 3, 1) := by decide +kernel
theorem dX8_why_114 : decode cX8_why 114 = .ok (.invokevirtual 322, 3) := by decide +kernel
theorem dX8_why_117 : decode cX8_why 117 = .ok (.iadd, 1) := by decide +kernel
theorem dX8_why_118 : decode cX8_why 118 = .ok (.ireturn, 1) := by decide +kernel
theorem dX8_why_119 : decode cX8_why 119 = .ok (.sipush 500, 3) := by decide +kernel
theorem dX8_why_122 : decode cX8_why 122 = .ok (.aload_n 3, 1) := by decide +kernel
theorem dX8_why_123 : decode cX8_why 123 = .ok (.getfield 222, 3) := by decide +kernel
theorem dX8_why_126 : decode cX8_why 126 = .ok (.iadd, 1) := by decide +kernel
theorem dX8_why_127 : decode cX8_why 127 = .ok (.ireturn, 1) := by decide +kernel
theorem dX8_most_0 : decode cX8_most 0 = .ok (.iload_n 1, 1) := by decide +kernel
theorem dX8_most_1 : decode cX8_most 1 = .ok (.iconst 0, 1) := by decide +kernel
theorem dX8_most_2 : decode cX8_most 2 = .ok (.iconst 4, 1) := by decide +kernel
theorem dX8_most_3 : decode cX8_most 3 = .ok (.invokestatic 86, 3) := by decide +kernel
theorem dX8_most_6 : decode cX8_most 6 = .ok (.iconst 0, 1) := by decide +kernel
theorem dX8_most_7 : decode cX8_most 7 = .ok (.istore_n 2, 1) := by decide +kernel
theorem dX8_most_8 : decode cX8_most 8 = .ok (.iconst 1, 1) := by decide +kernel
theorem dX8_most_9 : decode cX8_most 9 = .ok (.istore_n 3, 1) := by decide +kernel
theorem dX8_most_10 : decode cX8_most 10 = .ok (.iload_n 3, 1) := by decide +kernel
theorem dX8_most_11 : decode cX8_most 11 = .ok (.aload_n 0, 1) := by decide +kernel
theorem dX8_most_12 : decode cX8_most 12 = .ok (.getfield 26, 3) := by decide +kernel
theorem dX8_most_15 : decode cX8_most 15 = .ok (.getfield 108, 3) := by decide +kernel
theorem dX8_most_18 : decode cX8_most 18 = .ok (.if_icmp .ge 26, 3) := by decide +kernel
theorem dX8_most_21 : decode cX8_most 21 = .ok (.aload_n 0, 1) := by decide +kernel
theorem dX8_most_22 : decode cX8_most 22 = .ok (.iload_n 3, 1) := by decide +kernel
theorem dX8_most_23 : decode cX8_most 23 = .ok (.iload_n 1, 1) := by decide +kernel
theorem dX8_most_24 : decode cX8_most 24 = .ok (.invokevirtual 325, 3) := by decide +kernel
theorem dX8_most_27 : decode cX8_most 27 = .ok (.aload_n 0, 1) := by decide +kernel
theorem dX8_most_28 : decode cX8_most 28 = .ok (.iload_n 2, 1) := by decide +kernel
theorem dX8_most_29 : decode cX8_most 29 = .ok (.iload_n 1, 1) := by decide +kernel
theorem dX8_most_30 : decode cX8_most 30 = .ok (.invokevirtual 325, 3) := by decide +kernel
theorem dX8_most_33 : decode cX8_most 33 = .ok (.if_icmp .le 5, 3) := by decide +kernel
theorem dX8_most_36 : decode cX8_most 36 = .ok (.iload_n 3, 1) := by decide +kernel
theorem dX8_most_37 : decode cX8_most 37 = .ok (.istore_n 2, 1) := by decide +kernel
theorem dX8_most_38 : decode cX8_most 38 = .ok (.iinc 3 1, 3) := by decide +kernel
theorem dX8_most_41 : decode cX8_most 41 = .ok (.goto (-31), 3) := by decide +kernel
theorem dX8_most_44 : decode cX8_most 44 = .ok (.iload_n 2, 1) := by decide +kernel
theorem dX8_most_45 : decode cX8_most 45 = .ok (.ireturn, 1) := by decide +kernel
theorem dX8_measure_0 : decode cX8_measure 0 = .ok (.iload_n 2, 1) := by decide +kernel
theorem dX8_measure_1 : decode cX8_measure 1 = .ok (.tableswitch 81 0 3 #[31, 44, 57, 69], 31) := by decide +kernel
theorem dX8_measure_32 : decode cX8_measure 32 = .ok (.aload_n 0, 1) := by decide +kernel
theorem dX8_measure_33 : decode cX8_measure 33 = .ok (.getfield 26, 3) := by decide +kernel
theorem dX8_measure_36 : decode cX8_measure 36 = .ok (.getfield 203, 3) := by decide +kernel
theorem dX8_measure_39 : decode cX8_measure 39 = .ok (.iload_n 1, 1) := by decide +kernel
theorem dX8_measure_40 : decode cX8_measure 40 = .ok (.aaload, 1) := by decide +kernel
theorem dX8_measure_41 : decode cX8_measure 41 = .ok (.getfield 228, 3) := by decide +kernel
theorem dX8_measure_44 : decode cX8_measure 44 = .ok (.ireturn, 1) := by decide +kernel
theorem dX8_measure_45 : decode cX8_measure 45 = .ok (.aload_n 0, 1) := by decide +kernel
theorem dX8_measure_46 : decode cX8_measure 46 = .ok (.getfield 26, 3) := by decide +kernel
theorem dX8_measure_49 : decode cX8_measure 49 = .ok (.getfield 203, 3) := by decide +kernel
theorem dX8_measure_52 : decode cX8_measure 52 = .ok (.iload_n 1, 1) := by decide +kernel
theorem dX8_measure_53 : decode cX8_measure 53 = .ok (.aaload, 1) := by decide +kernel
theorem dX8_measure_54 : decode cX8_measure 54 = .ok (.getfield 225, 3) := by decide +kernel
theorem dX8_measure_57 : decode cX8_measure 57 = .ok (.ireturn, 1) := by decide +kernel
theorem dX8_measure_58 : decode cX8_measure 58 = .ok (.aload_n 0, 1) := by decide +kernel
theorem dX8_measure_59 : decode cX8_measure 59 = .ok (.getfield 26, 3) := by decide +kernel
theorem dX8_measure_62 : decode cX8_measure 62 = .ok (.getfield 174, 3) := by decide +kernel
theorem dX8_measure_65 : decode cX8_measure 65 = .ok (.iload_n 1, 1) := by decide +kernel
theorem dX8_measure_66 : decode cX8_measure 66 = .ok (.invokevirtual 244, 3) := by decide +kernel
theorem dX8_measure_69 : decode cX8_measure 69 = .ok (.ireturn, 1) := by decide +kernel
theorem dX8_measure_70 : decode cX8_measure 70 = .ok (.aload_n 0, 1) := by decide +kernel
theorem dX8_measure_71 : decode cX8_measure 71 = .ok (.getfield 26, 3) := by decide +kernel
theorem dX8_measure_74 : decode cX8_measure 74 = .ok (.getfield 174, 3) := by decide +kernel
theorem dX8_measure_77 : decode cX8_measure 77 = .ok (.iload_n 1, 1) := by decide +kernel
theorem dX8_measure_78 : decode cX8_measure 78 = .ok (.invokevirtual 247, 3) := by decide +kernel
theorem dX8_measure_81 : decode cX8_measure 81 = .ok (.ireturn, 1) := by decide +kernel
theorem dX8_measure_82 : decode cX8_measure 82 = .ok (.aload_n 0, 1) := by decide +kernel
theorem dX8_measure_83 : decode cX8_measure 83 = .ok (.getfield 26, 3) := by decide +kernel
theorem dX8_measure_86 : decode cX8_measure 86 = .ok (.getfield 203, 3) := by decide +kernel
theorem dX8_measure_89 : decode cX8_measure 89 = .ok (.iload_n 1, 1) := by decide +kernel
theorem dX8_measure_90 : decode cX8_measure 90 = .ok (.aaload, 1) := by decide +kernel
theorem dX8_measure_91 : decode cX8_measure 91 = .ok (.getfield 234, 3) := by decide +kernel
theorem dX8_measure_94 : decode cX8_measure 94 = .ok (.getfield 238, 3) := by decide +kernel
theorem dX8_measure_97 : decode cX8_measure 97 = .ok (.aload_n 0, 1) := by decide +kernel
theorem dX8_measure_98 : decode cX8_measure 98 = .ok (.getfield 26, 3) := by decide +kernel
theorem dX8_measure_101 : decode cX8_measure 101 = .ok (.getfield 203, 3) := by decide +kernel
theorem dX8_measure_104 : decode cX8_measure 104 = .ok (.iload_n 1, 1) := by decide +kernel
theorem dX8_measure_105 : decode cX8_measure 105 = .ok (.aaload, 1) := by decide +kernel
theorem dX8_measure_106 : decode cX8_measure 106 = .ok (.getfield 241, 3) := by decide +kernel
theorem dX8_measure_109 : decode cX8_measure 109 = .ok (.getfield 238, 3) := by decide +kernel
theorem dX8_measure_112 : decode cX8_measure 112 = .ok (.iadd, 1) := by decide +kernel
theorem dX8_measure_113 : decode cX8_measure 113 = .ok (.ireturn, 1) := by decide +kernel
theorem dX8_ranked_0 : decode cX8_ranked 0 = .ok (.iload_n 1, 1) := by decide +kernel
theorem dX8_ranked_1 : decode cX8_ranked 1 = .ok (.invokestatic 260, 3) := by decide +kernel
theorem dX8_ranked_4 : decode cX8_ranked 4 = .ok (.iconst 0, 1) := by decide +kernel
theorem dX8_ranked_5 : decode cX8_ranked 5 = .ok (.istore_n 3, 1) := by decide +kernel
theorem dX8_ranked_6 : decode cX8_ranked 6 = .ok (.iload_n 3, 1) := by decide +kernel
theorem dX8_ranked_7 : decode cX8_ranked 7 = .ok (.aload_n 0, 1) := by decide +kernel
theorem dX8_ranked_8 : decode cX8_ranked 8 = .ok (.getfield 26, 3) := by decide +kernel
theorem dX8_ranked_11 : decode cX8_ranked 11 = .ok (.getfield 108, 3) := by decide +kernel
theorem dX8_ranked_14 : decode cX8_ranked 14 = .ok (.if_icmp .ge 24, 3) := by decide +kernel
theorem dX8_ranked_17 : decode cX8_ranked 17 = .ok (.aload_n 0, 1) := by decide +kernel
theorem dX8_ranked_18 : decode cX8_ranked 18 = .ok (.getfield 26, 3) := by decide +kernel
theorem dX8_ranked_21 : decode cX8_ranked 21 = .ok (.iload_n 3, 1) := by decide +kernel
theorem dX8_ranked_22 : decode cX8_ranked 22 = .ok (.iload_n 1, 1) := by decide +kernel
theorem dX8_ranked_23 : decode cX8_ranked 23 = .ok (.invokevirtual 328, 3) := by decide +kernel
theorem dX8_ranked_26 : decode cX8_ranked 26 = .ok (.iload_n 2, 1) := by decide +kernel
theorem dX8_ranked_27 : decode cX8_ranked 27 = .ok (.if_icmp .ne 5, 3) := by decide +kernel
theorem dX8_ranked_30 : decode cX8_ranked 30 = .ok (.iload_n 3, 1) := by decide +kernel
theorem dX8_ranked_31 : decode cX8_ranked 31 = .ok (.ireturn, 1) := by decide +kernel
theorem dX8_ranked_32 : decode cX8_ranked 32 = .ok (.iinc 3 1, 3) := by decide +kernel
theorem dX8_ranked_35 : decode cX8_ranked 35 = .ok (.goto (-29), 3) := by decide +kernel
theorem dX8_ranked_38 : decode cX8_ranked 38 = .ok (.iconst (-1), 1) := by decide +kernel
theorem dX8_ranked_39 : decode cX8_ranked 39 = .ok (.ireturn, 1) := by decide +kernel
theorem dX8_mostOf_0 : decode cX8_mostOf 0 = .ok (.iload_n 1, 1) := by decide +kernel
theorem dX8_mostOf_1 : decode cX8_mostOf 1 = .ok (.invokestatic 260, 3) := by decide +kernel
theorem dX8_mostOf_4 : decode cX8_mostOf 4 = .ok (.iconst 0, 1) := by decide +kernel
theorem dX8_mostOf_5 : decode cX8_mostOf 5 = .ok (.istore_n 2, 1) := by decide +kernel
theorem dX8_mostOf_6 : decode cX8_mostOf 6 = .ok (.iconst 1, 1) := by decide +kernel
theorem dX8_mostOf_7 : decode cX8_mostOf 7 = .ok (.istore_n 3, 1) := by decide +kernel
theorem dX8_mostOf_8 : decode cX8_mostOf 8 = .ok (.iload_n 3, 1) := by decide +kernel
theorem dX8_mostOf_9 : decode cX8_mostOf 9 = .ok (.aload_n 0, 1) := by decide +kernel
theorem dX8_mostOf_10 : decode cX8_mostOf 10 = .ok (.getfield 26, 3) := by decide +kernel
theorem dX8_mostOf_13 : decode cX8_mostOf 13 = .ok (.getfield 108, 3) := by decide +kernel
theorem dX8_mostOf_16 : decode cX8_mostOf 16 = .ok (.if_icmp .ge 46, 3) := by decide +kernel
theorem dX8_mostOf_19 : decode cX8_mostOf 19 = .ok (.aload_n 0, 1) := by decide +kernel
theorem dX8_mostOf_20 : decode cX8_mostOf 20 = .ok (.getfield 26, 3) := by decide +kernel
theorem dX8_mostOf_23 : decode cX8_mostOf 23 = .ok (.getfield 203, 3) := by decide +kernel
theorem dX8_mostOf_26 : decode cX8_mostOf 26 = .ok (.iload_n 3, 1) := by decide +kernel
theorem dX8_mostOf_27 : decode cX8_mostOf 27 = .ok (.aaload, 1) := by decide +kernel
theorem dX8_mostOf_28 : decode cX8_mostOf 28 = .ok (.iload_n 1, 1) := by decide +kernel
theorem dX8_mostOf_29 : decode cX8_mostOf 29 = .ok (.invokevirtual 263, 3) := by decide +kernel
theorem dX8_mostOf_32 : decode cX8_mostOf 32 = .ok (.getfield 238, 3) := by decide +kernel
theorem dX8_mostOf_35 : decode cX8_mostOf 35 = .ok (.aload_n 0, 1) := by decide +kernel
theorem dX8_mostOf_36 : decode cX8_mostOf 36 = .ok (.getfield 26, 3) := by decide +kernel
theorem dX8_mostOf_39 : decode cX8_mostOf 39 = .ok (.getfield 203, 3) := by decide +kernel
theorem dX8_mostOf_42 : decode cX8_mostOf 42 = .ok (.iload_n 2, 1) := by decide +kernel
theorem dX8_mostOf_43 : decode cX8_mostOf 43 = .ok (.aaload, 1) := by decide +kernel
theorem dX8_mostOf_44 : decode cX8_mostOf 44 = .ok (.iload_n 1, 1) := by decide +kernel
theorem dX8_mostOf_45 : decode cX8_mostOf 45 = .ok (.invokevirtual 263, 3) := by decide +kernel
theorem dX8_mostOf_48 : decode cX8_mostOf 48 = .ok (.getfield 238, 3) := by decide +kernel
theorem dX8_mostOf_51 : decode cX8_mostOf 51 = .ok (.if_icmp .le 5, 3) := by decide +kernel
theorem dX8_mostOf_54 : decode cX8_mostOf 54 = .ok (.iload_n 3, 1) := by decide +kernel
theorem dX8_mostOf_55 : decode cX8_mostOf 55 = .ok (.istore_n 2, 1) := by decide +kernel
theorem dX8_mostOf_56 : decode cX8_mostOf 56 = .ok (.iinc 3 1, 3) := by decide +kernel
theorem dX8_mostOf_59 : decode cX8_mostOf 59 = .ok (.goto (-51), 3) := by decide +kernel
theorem dX8_mostOf_62 : decode cX8_mostOf 62 = .ok (.iload_n 2, 1) := by decide +kernel
theorem dX8_mostOf_63 : decode cX8_mostOf 63 = .ok (.ireturn, 1) := by decide +kernel
theorem dX8_makers_0 : decode cX8_makers 0 = .ok (.aload_n 0, 1) := by decide +kernel
theorem dX8_makers_1 : decode cX8_makers 1 = .ok (.iload_n 1, 1) := by decide +kernel
theorem dX8_makers_2 : decode cX8_makers 2 = .ok (.invokevirtual 200, 3) := by decide +kernel
theorem dX8_makers_5 : decode cX8_makers 5 = .ok (.iload_n 2, 1) := by decide +kernel
theorem dX8_makers_6 : decode cX8_makers 6 = .ok (.invokestatic 260, 3) := by decide +kernel
theorem dX8_makers_9 : decode cX8_makers 9 = .ok (.aload_n 0, 1) := by decide +kernel
theorem dX8_makers_10 : decode cX8_makers 10 = .ok (.getfield 26, 3) := by decide +kernel
theorem dX8_makers_13 : decode cX8_makers 13 = .ok (.getfield 203, 3) := by decide +kernel
theorem dX8_makers_16 : decode cX8_makers 16 = .ok (.iload_n 1, 1) := by decide +kernel
theorem dX8_makers_17 : decode cX8_makers 17 = .ok (.aaload, 1) := by decide +kernel
theorem dX8_makers_18 : decode cX8_makers 18 = .ok (.iload_n 2, 1) := by decide +kernel
theorem dX8_makers_19 : decode cX8_makers 19 = .ok (.invokevirtual 263, 3) := by decide +kernel
theorem dX8_makers_22 : decode cX8_makers 22 = .ok (.invokevirtual 331, 3) := by decide +kernel
theorem dX8_makers_25 : decode cX8_makers 25 = .ok (.ireturn, 1) := by decide +kernel
theorem dX8_needs_0 : decode cX8_needs 0 = .ok (.aload_n 0, 1) := by decide +kernel
theorem dX8_needs_1 : decode cX8_needs 1 = .ok (.iload_n 1, 1) := by decide +kernel
theorem dX8_needs_2 : decode cX8_needs 2 = .ok (.invokevirtual 200, 3) := by decide +kernel
theorem dX8_needs_5 : decode cX8_needs 5 = .ok (.iload_n 2, 1) := by decide +kernel
theorem dX8_needs_6 : decode cX8_needs 6 = .ok (.invokestatic 260, 3) := by decide +kernel
theorem dX8_needs_9 : decode cX8_needs 9 = .ok (.aload_n 0, 1) := by decide +kernel
theorem dX8_needs_10 : decode cX8_needs 10 = .ok (.getfield 26, 3) := by decide +kernel
theorem dX8_needs_13 : decode cX8_needs 13 = .ok (.aload_n 0, 1) := by decide +kernel
theorem dX8_needs_14 : decode cX8_needs 14 = .ok (.getfield 26, 3) := by decide +kernel
theorem dX8_needs_17 : decode cX8_needs 17 = .ok (.getfield 203, 3) := by decide +kernel
theorem dX8_needs_20 : decode cX8_needs 20 = .ok (.iload_n 1, 1) := by decide +kernel
theorem dX8_needs_21 : decode cX8_needs 21 = .ok (.aaload, 1) := by decide +kernel
theorem dX8_needs_22 : decode cX8_needs 22 = .ok (.iload_n 2, 1) := by decide +kernel
theorem dX8_needs_23 : decode cX8_needs 23 = .ok (.invokevirtual 334, 3) := by decide +kernel
theorem dX8_needs_26 : decode cX8_needs 26 = .ok (.ireturn, 1) := by decide +kernel
theorem dX8_nearTo_0 : decode cX8_nearTo 0 = .ok (.aload_n 0, 1) := by decide +kernel
theorem dX8_nearTo_1 : decode cX8_nearTo 1 = .ok (.iload_n 1, 1) := by decide +kernel
theorem dX8_nearTo_2 : decode cX8_nearTo 2 = .ok (.invokevirtual 200, 3) := by decide +kernel
theorem dX8_nearTo_5 : decode cX8_nearTo 5 = .ok (.aload_n 0, 1) := by decide +kernel
theorem dX8_nearTo_6 : decode cX8_nearTo 6 = .ok (.getfield 26, 3) := by decide +kernel
theorem dX8_nearTo_9 : decode cX8_nearTo 9 = .ok (.iload_n 1, 1) := by decide +kernel
theorem dX8_nearTo_10 : decode cX8_nearTo 10 = .ok (.invokevirtual 338, 3) := by decide +kernel
theorem dX8_nearTo_13 : decode cX8_nearTo 13 = .ok (.iload_n 2, 1) := by decide +kernel
theorem dX8_nearTo_14 : decode cX8_nearTo 14 = .ok (.invokestatic 297, 3) := by decide +kernel
theorem dX8_nearTo_17 : decode cX8_nearTo 17 = .ok (.ireturn, 1) := by decide +kernel
theorem dX8_debtOf_0 : decode cX8_debtOf 0 = .ok (.aload_n 0, 1) := by decide +kernel
theorem dX8_debtOf_1 : decode cX8_debtOf 1 = .ok (.iload_n 1, 1) := by decide +kernel
theorem dX8_debtOf_2 : decode cX8_debtOf 2 = .ok (.invokevirtual 200, 3) := by decide +kernel
theorem dX8_debtOf_5 : decode cX8_debtOf 5 = .ok (.aload_n 0, 1) := by decide +kernel
theorem dX8_debtOf_6 : decode cX8_debtOf 6 = .ok (.getfield 26, 3) := by decide +kernel
theorem dX8_debtOf_9 : decode cX8_debtOf 9 = .ok (.getfield 174, 3) := by decide +kernel
theorem dX8_debtOf_12 : decode cX8_debtOf 12 = .ok (.iload_n 1, 1) := by decide +kernel
theorem dX8_debtOf_13 : decode cX8_debtOf 13 = .ok (.iload_n 2, 1) := by decide +kernel
theorem dX8_debtOf_14 : decode cX8_debtOf 14 = .ok (.invokevirtual 341, 3) := by decide +kernel
theorem dX8_debtOf_17 : decode cX8_debtOf 17 = .ok (.ireturn, 1) := by decide +kernel
theorem dX8_canPay_0 : decode cX8_canPay 0 = .ok (.aload_n 0, 1) := by decide +kernel
theorem dX8_canPay_1 : decode cX8_canPay 1 = .ok (.iload_n 1, 1) := by decide +kernel
theorem dX8_canPay_2 : decode cX8_canPay 2 = .ok (.invokevirtual 273, 3) := by decide +kernel
theorem dX8_canPay_5 : decode cX8_canPay 5 = .ok (.aload_n 0, 1) := by decide +kernel
theorem dX8_canPay_6 : decode cX8_canPay 6 = .ok (.getfield 26, 3) := by decide +kernel
theorem dX8_canPay_9 : decode cX8_canPay 9 = .ok (.getfield 174, 3) := by decide +kernel
theorem dX8_canPay_12 : decode cX8_canPay 12 = .ok (.astore_n 2, 1) := by decide +kernel
theorem dX8_canPay_13 : decode cX8_canPay 13 = .ok (.aload_n 2, 1) := by decide +kernel
theorem dX8_canPay_14 : decode cX8_canPay 14 = .ok (.getfield 285, 3) := by decide +kernel
theorem dX8_canPay_17 : decode cX8_canPay 17 = .ok (.iload_n 1, 1) := by decide +kernel
theorem dX8_canPay_18 : decode cX8_canPay 18 = .ok (.iaload, 1) := by decide +kernel
theorem dX8_canPay_19 : decode cX8_canPay 19 = .ok (.istore_n 3, 1) := by decide +kernel
theorem dX8_canPay_20 : decode cX8_canPay 20 = .ok (.iload_n 3, 1) := by decide +kernel
theorem dX8_canPay_21 : decode cX8_canPay 21 = .ok (.bipush 20, 2) := by decide +kernel
theorem dX8_canPay_23 : decode cX8_canPay 23 = .ok (.if_icmp .gt 36, 3) := by decide +kernel
theorem dX8_canPay_26 : decode cX8_canPay 26 = .ok (.aload_n 0, 1) := by decide +kernel
theorem dX8_canPay_27 : decode cX8_canPay 27 = .ok (.getfield 26, 3) := by decide +kernel
theorem dX8_canPay_30 : decode cX8_canPay 30 = .ok (.aload_n 2, 1) := by decide +kernel
theorem dX8_canPay_31 : decode cX8_canPay 31 = .ok (.getfield 276, 3) := by decide +kernel
theorem dX8_canPay_34 : decode cX8_canPay 34 = .ok (.iload_n 1, 1) := by decide +kernel
theorem dX8_canPay_35 : decode cX8_canPay 35 = .ok (.iaload, 1) := by decide +kernel
theorem dX8_canPay_36 : decode cX8_canPay 36 = .ok (.aload_n 2, 1) := by decide +kernel
theorem dX8_canPay_37 : decode cX8_canPay 37 = .ok (.getfield 279, 3) := by decide +kernel
theorem dX8_canPay_40 : decode cX8_canPay 40 = .ok (.iload_n 1, 1) := by decide +kernel
theorem dX8_canPay_41 : decode cX8_canPay 41 = .ok (.iaload, 1) := by decide +kernel
theorem dX8_canPay_42 : decode cX8_canPay 42 = .ok (.aload_n 2, 1) := by decide +kernel
theorem dX8_canPay_43 : decode cX8_canPay 43 = .ok (.getfield 282, 3) := by decide +kernel
theorem dX8_canPay_46 : decode cX8_canPay 46 = .ok (.iload_n 1, 1) := by decide +kernel
theorem dX8_canPay_47 : decode cX8_canPay 47 = .ok (.iaload, 1) := by decide +kernel
theorem dX8_canPay_48 : decode cX8_canPay 48 = .ok (.iload_n 3, 1) := by decide +kernel
theorem dX8_canPay_49 : decode cX8_canPay 49 = .ok (.invokevirtual 344, 3) := by decide +kernel
theorem dX8_canPay_52 : decode cX8_canPay 52 = .ok (.ifCond .ne 7, 3) := by decide +kernel
theorem dX8_canPay_55 : decode cX8_canPay 55 = .ok (.iconst 1, 1) := by decide +kernel
theorem dX8_canPay_56 : decode cX8_canPay 56 = .ok (.goto 4, 3) := by decide +kernel
theorem dX8_canPay_59 : decode cX8_canPay 59 = .ok (.iconst 0, 1) := by decide +kernel
theorem dX8_canPay_60 : decode cX8_canPay 60 = .ok (.ireturn, 1) := by decide +kernel
theorem dX8_gap_0 : decode cX8_gap 0 = .ok (.aload_n 0, 1) := by decide +kernel
theorem dX8_gap_1 : decode cX8_gap 1 = .ok (.getfield 26, 3) := by decide +kernel
theorem dX8_gap_4 : decode cX8_gap 4 = .ok (.getfield 197, 3) := by decide +kernel
theorem dX8_gap_7 : decode cX8_gap 7 = .ok (.astore_n 1, 1) := by decide +kernel
theorem dX8_gap_8 : decode cX8_gap 8 = .ok (.aload_n 1, 1) := by decide +kernel
theorem dX8_gap_9 : decode cX8_gap 9 = .ok (.iconst 0, 1) := by decide +kernel
theorem dX8_gap_10 : decode cX8_gap 10 = .ok (.iaload, 1) := by decide +kernel
theorem dX8_gap_11 : decode cX8_gap 11 = .ok (.aload_n 1, 1) := by decide +kernel
theorem dX8_gap_12 : decode cX8_gap 12 = .ok (.iconst 1, 1) := by decide +kernel
theorem dX8_gap_13 : decode cX8_gap 13 = .ok (.iaload, 1) := by decide +kernel
theorem dX8_gap_14 : decode cX8_gap 14 = .ok (.iadd, 1) := by decide +kernel
theorem dX8_gap_15 : decode cX8_gap 15 = .ok (.istore_n 2, 1) := by decide +kernel
theorem dX8_gap_16 : decode cX8_gap 16 = .ok (.aload_n 1, 1) := by decide +kernel
theorem dX8_gap_17 : decode cX8_gap 17 = .ok (.iconst 5, 1) := by decide +kernel
theorem dX8_gap_18 : decode cX8_gap 18 = .ok (.iaload, 1) := by decide +kernel
theorem dX8_gap_19 : decode cX8_gap 19 = .ok (.aload_n 1, 1) := by decide +kernel
theorem dX8_gap_20 : decode cX8_gap 20 = .ok (.bipush 6, 2) := by decide +kernel
theorem dX8_gap_22 : decode cX8_gap 22 = .ok (.iaload, 1) := by decide +kernel
theorem dX8_gap_23 : decode cX8_gap 23 = .ok (.iadd, 1) := by decide +kernel
theorem dX8_gap_24 : decode cX8_gap 24 = .ok (.istore_n 3, 1) := by decide +kernel
theorem dX8_gap_25 : decode cX8_gap 25 = .ok (.iconst 0, 1) := by decide +kernel
theorem dX8_gap_26 : decode cX8_gap 26 = .ok (.istore 4, 2) := by decide +kernel
theorem dX8_gap_28 : decode cX8_gap 28 = .ok (.iconst 0, 1) := by decide +kernel
theorem dX8_gap_29 : decode cX8_gap 29 = .ok (.istore 5, 2) := by decide +kernel
theorem dX8_gap_31 : decode cX8_gap 31 = .ok (.iconst 0, 1) := by decide +kernel
theorem dX8_gap_32 : decode cX8_gap 32 = .ok (.istore 6, 2) := by decide +kernel
theorem dX8_gap_34 : decode cX8_gap 34 = .ok (.iconst 0, 1) := by decide +kernel
theorem dX8_gap_35 : decode cX8_gap 35 = .ok (.istore 7, 2) := by decide +kernel
theorem dX8_gap_37 : decode cX8_gap 37 = .ok (.iload 7, 2) := by decide +kernel
theorem dX8_gap_39 : decode cX8_gap 39 = .ok (.aload_n 0, 1) := by decide +kernel
theorem dX8_gap_40 : decode cX8_gap 40 = .ok (.getfield 26, 3) := by decide +kernel
theorem dX8_gap_43 : decode cX8_gap 43 = .ok (.getfield 108, 3) := by decide +kernel
theorem dX8_gap_46 : decode cX8_gap 46 = .ok (.if_icmp .ge 91, 3) := by decide +kernel
theorem dX8_gap_49 : decode cX8_gap 49 = .ok (.iload 4, 2) := by decide +kernel
theorem dX8_gap_51 : decode cX8_gap 51 = .ok (.aload_n 0, 1) := by decide +kernel
theorem dX8_gap_52 : decode cX8_gap 52 = .ok (.getfield 26, 3) := by decide +kernel
theorem dX8_gap_55 : decode cX8_gap 55 = .ok (.getfield 174, 3) := by decide +kernel
theorem dX8_gap_58 : decode cX8_gap 58 = .ok (.iload 7, 2) := by decide +kernel
theorem dX8_gap_60 : decode cX8_gap 60 = .ok (.invokevirtual 244, 3) := by decide +kernel
theorem dX8_gap_63 : decode cX8_gap 63 = .ok (.iadd, 1) := by decide +kernel
theorem dX8_gap_64 : decode cX8_gap 64 = .ok (.istore 4, 2) := by decide +kernel
theorem dX8_gap_66 : decode cX8_gap 66 = .ok (.iload 5, 2) := by decide +kernel
theorem dX8_gap_68 : decode cX8_gap 68 = .ok (.aload_n 0, 1) := by decide +kernel
theorem dX8_gap_69 : decode cX8_gap 69 = .ok (.getfield 26, 3) := by decide +kernel
theorem dX8_gap_72 : decode cX8_gap 72 = .ok (.getfield 174, 3) := by decide +kernel
theorem dX8_gap_75 : decode cX8_gap 75 = .ok (.iload 7, 2) := by decide +kernel
theorem dX8_gap_77 : decode cX8_gap 77 = .ok (.invokevirtual 247, 3) := by decide +kernel
theorem dX8_gap_80 : decode cX8_gap 80 = .ok (.iadd, 1) := by decide +kernel
theorem dX8_gap_81 : decode cX8_gap 81 = .ok (.istore 5, 2) := by decide +kernel
theorem dX8_gap_83 : decode cX8_gap 83 = .ok (.aload_n 0, 1) := by decide +kernel
theorem dX8_gap_84 : decode cX8_gap 84 = .ok (.getfield 26, 3) := by decide +kernel
theorem dX8_gap_87 : decode cX8_gap 87 = .ok (.getfield 203, 3) := by decide +kernel
theorem dX8_gap_90 : decode cX8_gap 90 = .ok (.iload 7, 2) := by decide +kernel
theorem dX8_gap_92 : decode cX8_gap 92 = .ok (.aaload, 1) := by decide +kernel
theorem dX8_gap_93 : decode cX8_gap 93 = .ok (.getfield 234, 3) := by decide +kernel
theorem dX8_gap_96 : decode cX8_gap 96 = .ok (.getfield 238, 3) := by decide +kernel
theorem dX8_gap_99 : decode cX8_gap 99 = .ok (.bipush 20, 2) := by decide +kernel
theorem dX8_gap_101 : decode cX8_gap 101 = .ok (.if_icmp .le 6, 3) := by decide +kernel
theorem dX8_gap_104 : decode cX8_gap 104 = .ok (.iinc 6 1, 3) := by decide +kernel
theorem dX8_gap_107 : decode cX8_gap 107 = .ok (.aload_n 0, 1) := by decide +kernel
theorem dX8_gap_108 : decode cX8_gap 108 = .ok (.getfield 26, 3) := by decide +kernel
theorem dX8_gap_111 : decode cX8_gap 111 = .ok (.getfield 203, 3) := by decide +kernel
theorem dX8_gap_114 : decode cX8_gap 114 = .ok (.iload 7, 2) := by decide +kernel
theorem dX8_gap_116 : decode cX8_gap 116 = .ok (.aaload, 1) := by decide +kernel
theorem dX8_gap_117 : decode cX8_gap 117 = .ok (.getfield 241, 3) := by decide +kernel
theorem dX8_gap_120 : decode cX8_gap 120 = .ok (.getfield 238, 3) := by decide +kernel
theorem dX8_gap_123 : decode cX8_gap 123 = .ok (.bipush 20, 2) := by decide +kernel
theorem dX8_gap_125 : decode cX8_gap 125 = .ok (.if_icmp .le 6, 3) := by decide +kernel
theorem dX8_gap_128 : decode cX8_gap 128 = .ok (.iinc 6 1, 3) := by decide +kernel
theorem dX8_gap_131 : decode cX8_gap 131 = .ok (.iinc 7 1, 3) := by decide +kernel
theorem dX8_gap_134 : decode cX8_gap 134 = .ok (.goto (-97), 3) := by decide +kernel
theorem dX8_gap_137 : decode cX8_gap 137 = .ok (.iload_n 2, 1) := by decide +kernel
theorem dX8_gap_138 : decode cX8_gap 138 = .ok (.aload_n 0, 1) := by decide +kernel
theorem dX8_gap_139 : decode cX8_gap 139 = .ok (.getfield 26, 3) := by decide +kernel
theorem dX8_gap_142 : decode cX8_gap 142 = .ok (.iconst 0, 1) := by decide +kernel
theorem dX8_gap_143 : decode cX8_gap 143 = .ok (.invokevirtual 171, 3) := by decide +kernel
theorem dX8_gap_146 : decode cX8_gap 146 = .ok (.isub, 1) := by decide +kernel
theorem dX8_gap_147 : decode cX8_gap 147 = .ok (.aload_n 0, 1) := by decide +kernel
theorem dX8_gap_148 : decode cX8_gap 148 = .ok (.getfield 26, 3) := by decide +kernel
theorem dX8_gap_151 : decode cX8_gap 151 = .ok (.iconst 1, 1) := by decide +kernel
theorem dX8_gap_152 : decode cX8_gap 152 = .ok (.invokevirtual 171, 3) := by decide +kernel
theorem dX8_gap_155 : decode cX8_gap 155 = .ok (.isub, 1) := by decide +kernel
theorem dX8_gap_156 : decode cX8_gap 156 = .ok (.iload_n 3, 1) := by decide +kernel
theorem dX8_gap_157 : decode cX8_gap 157 = .ok (.isub, 1) := by decide +kernel
theorem dX8_gap_158 : decode cX8_gap 158 = .ok (.invokestatic 347, 3) := by decide +kernel
theorem dX8_gap_161 : decode cX8_gap 161 = .ok (.iload 4, 2) := by decide +kernel
theorem dX8_gap_163 : decode cX8_gap 163 = .ok (.iload 5, 2) := by decide +kernel
theorem dX8_gap_165 : decode cX8_gap 165 = .ok (.isub, 1) := by decide +kernel
theorem dX8_gap_166 : decode cX8_gap 166 = .ok (.invokestatic 347, 3) := by decide +kernel
theorem dX8_gap_169 : decode cX8_gap 169 = .ok (.iadd, 1) := by decide +kernel
theorem dX8_gap_170 : decode cX8_gap 170 = .ok (.iload 6, 2) := by decide +kernel
theorem dX8_gap_172 : decode cX8_gap 172 = .ok (.iadd, 1) := by decide +kernel
theorem dX8_gap_173 : decode cX8_gap 173 = .ok (.ireturn, 1) := by decide +kernel
theorem dX8_ownShare_0 : decode cX8_ownShare 0 = .ok (.aload_n 0, 1) := by decide +kernel
theorem dX8_ownShare_1 : decode cX8_ownShare 1 = .ok (.iload_n 1, 1) := by decide +kernel
theorem dX8_ownShare_2 : decode cX8_ownShare 2 = .ok (.invokevirtual 200, 3) := by decide +kernel
theorem dX8_ownShare_5 : decode cX8_ownShare 5 = .ok (.aload_n 0, 1) := by decide +kernel
theorem dX8_ownShare_6 : decode cX8_ownShare 6 = .ok (.getfield 26, 3) := by decide +kernel
theorem dX8_ownShare_9 : decode cX8_ownShare 9 = .ok (.getfield 203, 3) := by decide +kernel
theorem dX8_ownShare_12 : decode cX8_ownShare 12 = .ok (.iload_n 1, 1) := by decide +kernel
theorem dX8_ownShare_13 : decode cX8_ownShare 13 = .ok (.aaload, 1) := by decide +kernel
theorem dX8_ownShare_14 : decode cX8_ownShare 14 = .ok (.astore_n 2, 1) := by decide +kernel
theorem dX8_ownShare_15 : decode cX8_ownShare 15 = .ok (.aload_n 2, 1) := by decide +kernel
theorem dX8_ownShare_16 : decode cX8_ownShare 16 = .ok (.getfield 234, 3) := by decide +kernel
theorem dX8_ownShare_19 : decode cX8_ownShare 19 = .ok (.iload_n 1, 1) := by decide +kernel
theorem dX8_ownShare_20 : decode cX8_ownShare 20 = .ok (.invokevirtual 270, 3) := by decide +kernel
theorem dX8_ownShare_23 : decode cX8_ownShare 23 = .ok (.aload_n 2, 1) := by decide +kernel
theorem dX8_ownShare_24 : decode cX8_ownShare 24 = .ok (.getfield 241, 3) := by decide +kernel
theorem dX8_ownShare_27 : decode cX8_ownShare 27 = .ok (.iload_n 1, 1) := by decide +kernel
theorem dX8_ownShare_28 : decode cX8_ownShare 28 = .ok (.invokevirtual 270, 3) := by decide +kernel
theorem dX8_ownShare_31 : decode cX8_ownShare 31 = .ok (.iadd, 1) := by decide +kernel
theorem dX8_ownShare_32 : decode cX8_ownShare 32 = .ok (.istore_n 3, 1) := by decide +kernel
theorem dX8_ownShare_33 : decode cX8_ownShare 33 = .ok (.aload_n 2, 1) := by decide +kernel
theorem dX8_ownShare_34 : decode cX8_ownShare 34 = .ok (.getfield 234, 3) := by decide +kernel
theorem dX8_ownShare_37 : decode cX8_ownShare 37 = .ok (.getfield 238, 3) := by decide +kernel
theorem dX8_ownShare_40 : decode cX8_ownShare 40 = .ok (.aload_n 2, 1) := by decide +kernel
theorem dX8_ownShare_41 : decode cX8_ownShare 41 = .ok (.getfield 241, 3) := by decide +kernel
theorem dX8_ownShare_44 : decode cX8_ownShare 44 = .ok (.getfield 238, 3) := by decide +kernel
theorem dX8_ownShare_47 : decode cX8_ownShare 47 = .ok (.iadd, 1) := by decide +kernel
theorem dX8_ownShare_48 : decode cX8_ownShare 48 = .ok (.istore 4, 2) := by decide +kernel
theorem dX8_ownShare_50 : decode cX8_ownShare 50 = .ok (.iload 4, 2) := by decide +kernel
theorem dX8_ownShare_52 : decode cX8_ownShare 52 = .ok (.ifCond .le 12, 3) := by decide +kernel
theorem dX8_ownShare_55 : decode cX8_ownShare 55 = .ok (.iload_n 3, 1) := by decide +kernel
theorem dX8_ownShare_56 : decode cX8_ownShare 56 = .ok (.i2f, 1) := by decide +kernel
theorem dX8_ownShare_57 : decode cX8_ownShare 57 = .ok (.iload 4, 2) := by decide +kernel
theorem dX8_ownShare_59 : decode cX8_ownShare 59 = .ok (.i2f, 1) := by decide +kernel
theorem dX8_ownShare_60 : decode cX8_ownShare 60 = .ok (.fdiv, 1) := by decide +kernel
theorem dX8_ownShare_61 : decode cX8_ownShare 61 = .ok (.goto 4, 3) := by decide +kernel
theorem dX8_ownShare_64 : decode cX8_ownShare 64 = .ok (.fconst 0, 1) := by decide +kernel
theorem dX8_ownShare_65 : decode cX8_ownShare 65 = .ok (.freturn, 1) := by decide +kernel
theorem dX8_couldMake_0 : decode cX8_couldMake 0 = .ok (.aload_n 0, 1) := by decide +kernel
theorem dX8_couldMake_1 : decode cX8_couldMake 1 = .ok (.iload_n 1, 1) := by decide +kernel
theorem dX8_couldMake_2 : decode cX8_couldMake 2 = .ok (.invokevirtual 200, 3) := by decide +kernel
theorem dX8_couldMake_5 : decode cX8_couldMake 5 = .ok (.iload_n 2, 1) := by decide +kernel
theorem dX8_couldMake_6 : decode cX8_couldMake 6 = .ok (.invokestatic 260, 3) := by decide +kernel
theorem dX8_couldMake_9 : decode cX8_couldMake 9 = .ok (.aload_n 0, 1) := by decide +kernel
theorem dX8_couldMake_10 : decode cX8_couldMake 10 = .ok (.getfield 26, 3) := by decide +kernel
theorem dX8_couldMake_13 : decode cX8_couldMake 13 = .ok (.getfield 203, 3) := by decide +kernel
theorem dX8_couldMake_16 : decode cX8_couldMake 16 = .ok (.iload_n 1, 1) := by decide +kernel
theorem dX8_couldMake_17 : decode cX8_couldMake 17 = .ok (.aaload, 1) := by decide +kernel
theorem dX8_couldMake_18 : decode cX8_couldMake 18 = .ok (.iload_n 2, 1) := by decide +kernel
theorem dX8_couldMake_19 : decode cX8_couldMake 19 = .ok (.invokevirtual 355, 3) := by decide +kernel
theorem dX8_couldMake_22 : decode cX8_couldMake 22 = .ok (.istore_n 3, 1) := by decide +kernel
theorem dX8_couldMake_23 : decode cX8_couldMake 23 = .ok (.iload_n 3, 1) := by decide +kernel
theorem dX8_couldMake_24 : decode cX8_couldMake 24 = .ok (.ifCond .le 20, 3) := by decide +kernel
theorem dX8_couldMake_27 : decode cX8_couldMake 27 = .ok (.aload_n 0, 1) := by decide +kernel
theorem dX8_couldMake_28 : decode cX8_couldMake 28 = .ok (.getfield 26, 3) := by decide +kernel
theorem dX8_couldMake_31 : decode cX8_couldMake 31 = .ok (.getfield 203, 3) := by decide +kernel
theorem dX8_couldMake_34 : decode cX8_couldMake 34 = .ok (.iload_n 1, 1) := by decide +kernel
theorem dX8_couldMake_35 : decode cX8_couldMake 35 = .ok (.aaload, 1) := by decide +kernel
theorem dX8_couldMake_36 : decode cX8_couldMake 36 = .ok (.getfield 222, 3) := by decide +kernel
theorem dX8_couldMake_39 : decode cX8_couldMake 39 = .ok (.iload_n 3, 1) := by decide +kernel
theorem dX8_couldMake_40 : decode cX8_couldMake 40 = .ok (.idiv, 1) := by decide +kernel
theorem dX8_couldMake_41 : decode cX8_couldMake 41 = .ok (.goto 4, 3) := by decide +kernel
theorem dX8_couldMake_44 : decode cX8_couldMake 44 = .ok (.iconst 0, 1) := by decide +kernel
theorem dX8_couldMake_45 : decode cX8_couldMake 45 = .ok (.ireturn, 1) := by decide +kernel
theorem dX8_ifWeek_0 : decode cX8_ifWeek 0 = .ok (.aload_n 0, 1) := by decide +kernel
theorem dX8_ifWeek_1 : decode cX8_ifWeek 1 = .ok (.iload_n 1, 1) := by decide +kernel
theorem dX8_ifWeek_2 : decode cX8_ifWeek 2 = .ok (.invokevirtual 200, 3) := by decide +kernel
theorem dX8_ifWeek_5 : decode cX8_ifWeek 5 = .ok (.iload_n 2, 1) := by decide +kernel
theorem dX8_ifWeek_6 : decode cX8_ifWeek 6 = .ok (.iconst 0, 1) := by decide +kernel
theorem dX8_ifWeek_7 : decode cX8_ifWeek 7 = .ok (.iconst 2, 1) := by decide +kernel
theorem dX8_ifWeek_8 : decode cX8_ifWeek 8 = .ok (.invokestatic 86, 3) := by decide +kernel
theorem dX8_ifWeek_11 : decode cX8_ifWeek 11 = .ok (.aload_n 0, 1) := by decide +kernel
theorem dX8_ifWeek_12 : decode cX8_ifWeek 12 = .ok (.getfield 26, 3) := by decide +kernel
theorem dX8_ifWeek_15 : decode cX8_ifWeek 15 = .ok (.getfield 203, 3) := by decide +kernel
theorem dX8_ifWeek_18 : decode cX8_ifWeek 18 = .ok (.iload_n 1, 1) := by decide +kernel
theorem dX8_ifWeek_19 : decode cX8_ifWeek 19 = .ok (.aaload, 1) := by decide +kernel
theorem dX8_ifWeek_20 : decode cX8_ifWeek 20 = .ok (.astore_n 3, 1) := by decide +kernel
theorem dX8_ifWeek_21 : decode cX8_ifWeek 21 = .ok (.iload_n 2, 1) := by decide +kernel
theorem dX8_ifWeek_22 : decode cX8_ifWeek 22 = .ok (.lookupswitch 44 #[(0, 26), (1, 35)], 26) := by decide +kernel
theorem dX8_ifWeek_48 : decode cX8_ifWeek 48 = .ok (.aload_n 0, 1) := by decide +kernel
theorem dX8_ifWeek_49 : decode cX8_ifWeek 49 = .ok (.getfield 26, 3) := by decide +kernel
theorem dX8_ifWeek_52 : decode cX8_ifWeek 52 = .ok (.aload_n 3, 1) := by decide +kernel
theorem dX8_ifWeek_53 : decode cX8_ifWeek 53 = .ok (.invokevirtual 319, 3) := by decide +kernel
theorem dX8_ifWeek_56 : decode cX8_ifWeek 56 = .ok (.ireturn, 1) := by decide +kernel
theorem dX8_ifWeek_57 : decode cX8_ifWeek 57 = .ok (.aload_n 0, 1) := by decide +kernel
theorem dX8_ifWeek_58 : decode cX8_ifWeek 58 = .ok (.getfield 26, 3) := by decide +kernel
theorem dX8_ifWeek_61 : decode cX8_ifWeek 61 = .ok (.aload_n 3, 1) := by decide +kernel
theorem dX8_ifWeek_62 : decode cX8_ifWeek 62 = .ok (.invokevirtual 358, 3) := by decide +kernel
theorem dX8_ifWeek_65 : decode cX8_ifWeek 65 = .ok (.ireturn, 1) := by decide +kernel
theorem dX8_ifWeek_66 : decode cX8_ifWeek 66 = .ok (.aload_n 0, 1) := by decide +kernel
theorem dX8_ifWeek_67 : decode cX8_ifWeek 67 = .ok (.getfield 26, 3) := by decide +kernel
theorem dX8_ifWeek_70 : decode cX8_ifWeek 70 = .ok (.aload_n 3, 1) := by decide +kernel
theorem dX8_ifWeek_71 : decode cX8_ifWeek 71 = .ok (.aload_n 0, 1) := by decide +kernel
theorem dX8_ifWeek_72 : decode cX8_ifWeek 72 = .ok (.getfield 26, 3) := by decide +kernel
theorem dX8_ifWeek_75 : decode cX8_ifWeek 75 = .ok (.aload_n 3, 1) := by decide +kernel
theorem dX8_ifWeek_76 : decode cX8_ifWeek 76 = .ok (.invokevirtual 316, 3) := by decide +kernel
theorem dX8_ifWeek_79 : decode cX8_ifWeek 79 = .ok (.invokevirtual 361, 3) := by decide +kernel
theorem dX8_ifWeek_82 : decode cX8_ifWeek 82 = .ok (.ireturn, 1) := by decide +kernel
theorem dX8_ifPassed_0 : decode cX8_ifPassed 0 = .ok (.iload_n 1, 1) := by decide +kernel
theorem dX8_ifPassed_1 : decode cX8_ifPassed 1 = .ok (.iconst 0, 1) := by decide +kernel
theorem dX8_ifPassed_2 : decode cX8_ifPassed 2 = .ok (.bipush 30, 2) := by decide +kernel
theorem dX8_ifPassed_4 : decode cX8_ifPassed 4 = .ok (.invokestatic 86, 3) := by decide +kernel
theorem dX8_ifPassed_7 : decode cX8_ifPassed 7 = .ok (.iload_n 2, 1) := by decide +kernel
theorem dX8_ifPassed_8 : decode cX8_ifPassed 8 = .ok (.iconst 0, 1) := by decide +kernel
theorem dX8_ifPassed_9 : decode cX8_ifPassed 9 = .ok (.iconst 3, 1) := by decide +kernel
theorem dX8_ifPassed_10 : decode cX8_ifPassed 10 = .ok (.invokestatic 86, 3) := by decide +kernel
theorem dX8_ifPassed_13 : decode cX8_ifPassed 13 = .ok (.aload_n 0, 1) := by decide +kernel
theorem dX8_ifPassed_14 : decode cX8_ifPassed 14 = .ok (.getfield 30, 3) := by decide +kernel
theorem dX8_ifPassed_17 : decode cX8_ifPassed 17 = .ok (.aload_n 0, 1) := by decide +kernel
theorem dX8_ifPassed_18 : decode cX8_ifPassed 18 = .ok (.getfield 26, 3) := by decide +kernel
theorem dX8_ifPassed_21 : decode cX8_ifPassed 21 = .ok (.invokevirtual 101, 3) := by decide +kernel
theorem dX8_ifPassed_24 : decode cX8_ifPassed 24 = .ok (.iconst 0, 1) := by decide +kernel
theorem dX8_ifPassed_25 : decode cX8_ifPassed 25 = .ok (.istore_n 3, 1) := by decide +kernel
theorem dX8_ifPassed_26 : decode cX8_ifPassed 26 = .ok (.iload_n 3, 1) := by decide +kernel
theorem dX8_ifPassed_27 : decode cX8_ifPassed 27 = .ok (.iload_n 1, 1) := by decide +kernel
theorem dX8_ifPassed_28 : decode cX8_ifPassed 28 = .ok (.if_icmp .ge 17, 3) := by decide +kernel
theorem dX8_ifPassed_31 : decode cX8_ifPassed 31 = .ok (.aload_n 0, 1) := by decide +kernel
theorem dX8_ifPassed_32 : decode cX8_ifPassed 32 = .ok (.getfield 30, 3) := by decide +kernel
theorem dX8_ifPassed_35 : decode cX8_ifPassed 35 = .ok (.invokevirtual 364, 3) := by decide +kernel
theorem dX8_ifPassed_38 : decode cX8_ifPassed 38 = .ok (.pop, 1) := by decide +kernel
theorem dX8_ifPassed_39 : decode cX8_ifPassed 39 = .ok (.iinc 3 1, 3) := by decide +kernel
theorem dX8_ifPassed_42 : decode cX8_ifPassed 42 = .ok (.goto (-16), 3) := by decide +kernel
theorem dX8_ifPassed_45 : decode cX8_ifPassed 45 = .ok (.iload_n 2, 1) := by decide +kernel
theorem dX8_ifPassed_46 : decode cX8_ifPassed 46 = .ok (.tableswitch 53 0 2 #[26, 34, 45], 26) := by decide +kernel
theorem dX8_ifPassed_72 : decode cX8_ifPassed 72 = .ok (.aload_n 0, 1) := by decide +kernel
theorem dX8_ifPassed_73 : decode cX8_ifPassed 73 = .ok (.getfield 30, 3) := by decide +kernel
theorem dX8_ifPassed_76 : decode cX8_ifPassed 76 = .ok (.invokevirtual 352, 3) := by decide +kernel
theorem dX8_ifPassed_79 : decode cX8_ifPassed 79 = .ok (.ireturn, 1) := by decide +kernel
theorem dX8_ifPassed_80 : decode cX8_ifPassed 80 = .ok (.aload_n 0, 1) := by decide +kernel
theorem dX8_ifPassed_81 : decode cX8_ifPassed 81 = .ok (.getfield 30, 3) := by decide +kernel
theorem dX8_ifPassed_84 : decode cX8_ifPassed 84 = .ok (.getfield 174, 3) := by decide +kernel
theorem dX8_ifPassed_87 : decode cX8_ifPassed 87 = .ok (.invokevirtual 181, 3) := by decide +kernel
theorem dX8_ifPassed_90 : decode cX8_ifPassed 90 = .ok (.ireturn, 1) := by decide +kernel
theorem dX8_ifPassed_91 : decode cX8_ifPassed 91 = .ok (.aload_n 0, 1) := by decide +kernel
theorem dX8_ifPassed_92 : decode cX8_ifPassed 92 = .ok (.getfield 30, 3) := by decide +kernel
theorem dX8_ifPassed_95 : decode cX8_ifPassed 95 = .ok (.invokevirtual 185, 3) := by decide +kernel
theorem dX8_ifPassed_98 : decode cX8_ifPassed 98 = .ok (.ireturn, 1) := by decide +kernel
theorem dX8_ifPassed_99 : decode cX8_ifPassed 99 = .ok (.aload_n 0, 1) := by decide +kernel
theorem dX8_ifPassed_100 : decode cX8_ifPassed 100 = .ok (.getfield 30, 3) := by decide +kernel
theorem dX8_ifPassed_103 : decode cX8_ifPassed 103 = .ok (.iconst 0, 1) := by decide +kernel
theorem dX8_ifPassed_104 : decode cX8_ifPassed 104 = .ok (.invokevirtual 171, 3) := by decide +kernel
theorem dX8_ifPassed_107 : decode cX8_ifPassed 107 = .ok (.aload_n 0, 1) := by decide +kernel
theorem dX8_ifPassed_108 : decode cX8_ifPassed 108 = .ok (.getfield 30, 3) := by decide +kernel
theorem dX8_ifPassed_111 : decode cX8_ifPassed 111 = .ok (.iconst 1, 1) := by decide +kernel
theorem dX8_ifPassed_112 : decode cX8_ifPassed 112 = .ok (.invokevirtual 171, 3) := by decide +kernel
theorem dX8_ifPassed_115 : decode cX8_ifPassed 115 = .ok (.iadd, 1) := by decide +kernel
theorem dX8_ifPassed_116 : decode cX8_ifPassed 116 = .ok (.ireturn, 1) := by decide +kernel
theorem dX8_ifMoved_0 : decode cX8_ifMoved 0 = .ok (.aload_n 0, 1) := by decide +kernel
theorem dX8_ifMoved_1 : decode cX8_ifMoved 1 = .ok (.iload_n 1, 1) := by decide +kernel
theorem dX8_ifMoved_2 : decode cX8_ifMoved 2 = .ok (.invokevirtual 200, 3) := by decide +kernel
theorem dX8_ifMoved_5 : decode cX8_ifMoved 5 = .ok (.iload_n 2, 1) := by decide +kernel
theorem dX8_ifMoved_6 : decode cX8_ifMoved 6 = .ok (.iload_n 3, 1) := by decide +kernel
theorem dX8_ifMoved_7 : decode cX8_ifMoved 7 = .ok (.invokestatic 300, 3) := by decide +kernel
theorem dX8_ifMoved_10 : decode cX8_ifMoved 10 = .ok (.aload_n 0, 1) := by decide +kernel
theorem dX8_ifMoved_11 : decode cX8_ifMoved 11 = .ok (.getfield 26, 3) := by decide +kernel
theorem dX8_ifMoved_14 : decode cX8_ifMoved 14 = .ok (.iload_n 1, 1) := by decide +kernel
theorem dX8_ifMoved_15 : decode cX8_ifMoved 15 = .ok (.iload_n 2, 1) := by decide +kernel
theorem dX8_ifMoved_16 : decode cX8_ifMoved 16 = .ok (.iload_n 3, 1) := by decide +kernel
theorem dX8_ifMoved_17 : decode cX8_ifMoved 17 = .ok (.invokevirtual 370, 3) := by decide +kernel
theorem dX8_ifMoved_20 : decode cX8_ifMoved 20 = .ok (.ireturn, 1) := by decide +kernel
