theorem dX8_mostOf_62 : decode cX8_mostOf 62 = .ok (.iload_n 2, 1) := by decide +kernel
theorem dX8_mostOf_63 : decode cX8_mostOf 63 = .ok (.ireturn, 1) := by decide +kernel
theorem dX8_makers_0 : decode cX8_makers 0 = .ok (.aload_n 0, 1) := by decide +kernel
theorem dX8_makers_1 : decode cX8_makers 1 = .ok (.iload_n 1, 1) := by decide +kernel
theorem dX8_makers_2 : decode cX8_makers 2 = .ok (.invokevirtual 200, 3) := by decide +kernel
theorem dX8_makers_5 : decode cX8_makers 5 = .ok (.iload_n 2, 1) := by decide +kernel
theorem dX8_makers_6 : decode cX8_makers 6 = .ok (.invokestatic 260, 3) := by decide +kernel
theorem dX8_makers_9 : decode cX8_makers 9 = .ok (.aload_n 0, 1) := by decide +kernel
theorem dX8_makers_10 : decode cX8_makers 10 = .ok (.getfield 26, 3) := by decide +kernel
theorem dX8_makers_13 : decode cX8_makers 13 = .ok (.getfield 203, 3) := by decide +kernel
theorem dX8_makers_16 : decode cX8_makers 16 = .ok (.iload_n 1, 1) := by decide +kernel
theorem dX8_makers_17 : decode cX8_makers 17 = .ok (.aaload, 1) := by decide +kernel
theorem dX8_makers_18 : decode cX8_makers 18 = .ok (.iload_n 2, 1) := by decide +kernel
theorem dX8_makers_19 : decode cX8_makers 19 = .ok (.invokevirtual 263, 3) := by decide +kernel
theorem dX8_makers_22 : decode cX8_makers 22 = .ok (.invokevirtual 331, 3) := by decide +kernel
theorem dX8_makers_25 : decode cX8_makers 25 = .ok (.ireturn, 1) := by decide +kernel
theorem dX8_needs_0 : decode cX8_needs 0 = .ok (.aload_n 0, 1) := by decide +kernel
theorem dX8_needs_1 : decode cX8_needs 1 = .ok (.iload_n 1, 1) := by decide +kernel
theorem dX8_needs_2 : decode cX8_needs 2 = .ok (.invokevirtual 200, 3) := by decide +kernel
theorem dX8_needs_5 : decode cX8_needs 5 = .ok (.iload_n 2, 1) := by decide +kernel
theorem dX8_needs_6 : decode cX8_needs 6 = .ok (.invokestatic 260, 3) := by decide +kernel
theorem dX8_needs_9 : decode cX8_needs 9 = .ok (.aload_n 0, 1) := by decide +kernel
theorem dX8_needs_10 : decode cX8_needs 10 = .ok (.getfield 26, 3) := by decide +kernel
theorem dX8_needs_13 : decode cX8_needs 13 = .ok (.aload_n 0, 1) := by decide +kernel
theorem dX8_needs_14 : decode cX8_needs 14 = .ok (.getfield 26, 3) := by decide +kernel
theorem dX8_needs_17 : decode cX8_needs 17 = .ok (.getfield 203, 3) := by decide +kernel
theorem dX8_needs_20 : decode cX8_needs 20 = .ok (.iload_n 1, 1) := by decide +kernel
theorem dX8_needs_21 : decode cX8_needs 21 = .ok (.aaload, 1) := by decide +kernel
theorem dX8_needs_22 : decode cX8_needs 22 = .ok (.iload_n 2, 1) := by decide +kernel
theorem dX8_needs_23 : decode cX8_needs 23 = .ok (.invokevirtual 334, 3) := by decide +kernel
theorem dX8_needs_26 : decode cX8_needs 26 = .ok (.ireturn, 1) := by decide +kernel
theorem dX8_nearTo_0 : decode cX8_nearTo 0 = .ok (.aload_n 0, 1) := by decide +kernel
theorem dX8_nearTo_1 : decode cX8_nearTo 1 = .ok (.iload_n 1, 1) := by decide +kernel
theorem dX8_nearTo_2 : decode cX8_nearTo 2 = .ok (.invokevirtual 200, 3) := by decide +kernel
theorem dX8_nearTo_5 : decode cX8_nearTo 5 = .ok (.aload_n 0, 1) := by decide +kernel
theorem dX8_nearTo_6 : decode cX8_nearTo 6 = .ok (.getfield 26, 3) := by decide +kernel
theorem dX8_nearTo_9 : decode cX8_nearTo 9 = .ok (.iload_n 1, 1) := by decide +kernel
theorem dX8_nearTo_10 : decode cX8_nearTo 10 = .ok (.invokevirtual 338, 3) := by decide +kernel
theorem dX8_nearTo_13 : decode cX8_nearTo 13 = .ok (.iload_n 2, 1) := by decide +kernel
theorem dX8_nearTo_14 : decode cX8_nearTo 14 = .ok (.invokestatic 297, 3) := by decide +kernel
theorem dX8_nearTo_17 : decode cX8_nearTo 17 = .ok (.ireturn, 1) := by decide +kernel
theorem dX8_debtOf_0 : decode cX8_debtOf 0 = .ok (.aload_n 0, 1) := by decide +kernel
theorem dX8_debtOf_1 : decode cX8_debtOf 1 = .ok (.iload_n 1, 1) := by decide +kernel
theorem dX8_debtOf_2 : decode cX8_debtOf 2 = .ok (.invokevirtual 200, 3) := by decide +kernel
theorem dX8_debtOf_5 : decode cX8_debtOf 5 = .ok (.aload_n 0, 1) := by decide +kernel
theorem dX8_debtOf_6 : decode cX8_debtOf 6 = .ok (.getfield 26, 3) := by decide +kernel
theorem dX8_debtOf_9 : decode cX8_debtOf 9 = .ok (.getfield 174, 3) := by decide +kernel
theorem dX8_debtOf_12 : decode cX8_debtOf 12 = .ok (.iload_n 1, 1) := by decide +kernel
theorem dX8_debtOf_13 : decode cX8_debtOf 13 = .ok (.iload_n 2, 1) := by decide +kernel
theorem dX8_debtOf_14 : decode cX8_debtOf 14 = .ok (.invokevirtual 341, 3) := by decide +kernel
theorem dX8_debtOf_17 : decode cX8_debtOf 17 = .ok (.ireturn, 1) := by decide +kernel
theorem dX8_canPay_0 : decode cX8_canPay 0 = .ok (.aload_n 0, 1) := by decide +kernel
theorem dX8_canPay_1 : decode cX8_canPay 1 = .ok (.iload_n 1, 1) := by decide +kernel
theorem dX8_canPay_2 : decode cX8_canPay 2 = .ok (.invokevirtual 273, 3) := by decide +kernel
theorem dX8_canPay_5 : decode cX8_canPay 5 = .ok (.aload_n 0, 1) := by decide +kernel
theorem dX8_canPay_6 : decode cX8_canPay 6 = .ok (.getfield 26, 3) := by decide +kernel
theorem dX8_canPay_9 : decode cX8_canPay 9 = .ok (.getfield 174, 3) := by decide +kernel
theorem dX8_canPay_12 : decode cX8_canPay 12 = .ok (.astore_n 2, 1) := by decide +kernel
theorem dX8_canPay_13 : decode cX8_canPay 13 = .ok (.aload_n 2, 1) := by decide +kernel
theorem dX8_canPay_14 : decode cX8_canPay 14 = .ok (.getfield 285, 3) := by decide +kernel
theorem dX8_canPay_17 : decode cX8_canPay 17 = .ok (.iload_n 1, 1) := by decide +kernel
theorem dX8_canPay_18 : decode cX8_canPay 18 = .ok (.iaload, 1) := by decide +kernel
theorem dX8_canPay_19 : decode cX8_canPay 19 = .ok (.istore_n 3, 1) := by decide +kernel
theorem dX8_canPay_20 : decode cX8_canPay 20 = .ok (.iload_n 3, 1) := by decide +kernel
theorem dX8_canPay_21 : decode cX8_canPay 21 = .ok (.bipush 20, 2) := by decide +kernel
theorem dX8_canPay_23 : decode cX8_canPay 23 = .ok (.if_icmp .gt 36, 3) := by decide +kernel
theorem dX8_canPay_26 : decode cX8_canPay 26 = .ok (.aload_n 0, 1) := by decide +kernel
theorem dX8_canPay_27 : decode cX8_canPay 27 = .ok (.getfield 26, 3) := by decide +kernel
theorem dX8_canPay_30 : decode cX8_canPay 30 = .ok (.aload_n 2, 1) := by decide +kernel
theorem dX8_canPay_31 : decode cX8_canPay 31 = .ok (.getfield 276, 3) := by decide +kernel
theorem dX8_canPay_34 : decode cX8_canPay 34 = .ok (.iload_n 1, 1) := by decide +kernel
theorem dX8_canPay_35 : decode cX8_canPay 35 = .ok (.iaload, 1) := by decide +kernel
theorem dX8_canPay_36 : decode cX8_canPay 36 = .ok (.aload_n 2, 1) := by decide +kernel
theorem dX8_canPay_37 : decode cX8_canPay 37 = .ok (.getfield 279, 3) := by decide +kernel
theorem dX8_canPay_40 : decode cX8_canPay 40 = .ok (.iload_n 1, 1) := by decide +kernel
theorem dX8_canPay_41 : decode cX8_canPay 41 = .ok (.iaload, 1) := by decide +kernel
theorem dX8_canPay_42 : decode cX8_canPay 42 = .ok (.aload_n 2, 1) := by decide +kernel
theorem dX8_canPay_43 : decode cX8_canPay 43 = .ok (.getfield 282, 3) := by decide +kernel
theorem dX8_canPay_46 : decode cX8_canPay 46 = .ok (.iload_n 1, 1) := by decide +kernel
theorem dX8_canPay_47 : decode cX8_canPay 47 = .ok (.iaload, 1) := by decide +kernel
theorem dX8_canPay_48 : decode cX8_canPay 48 = .ok (.iload_n 3, 1) := by decide +kernel
theorem dX8_canPay_49 : decode cX8_canPay 49 = .ok (.invokevirtual 344, 3) := by decide +kernel
theorem dX8_canPay_52 : decode cX8_canPay 52 = .ok (.ifCond .ne 7, 3) := by decide +kernel
theorem dX8_canPay_55 : decode cX8_canPay 55 = .ok (.iconst 1, 1) := by decide +kernel
theorem dX8_canPay_56 : decode cX8_canPay 56 = .ok (.goto 4, 3) := by decide +kernel
theorem dX8_canPay_59 : decode cX8_canPay 59 = .ok (.iconst 0, 1) := by decide +kernel
theorem dX8_canPay_60 : decode cX8_canPay 60 = .ok (.ireturn, 1) := by decide +kernel
theorem dX8_refusals_0 : decode cX8_refusals 0 = .ok (.iload_n 1, 1) := by decide +kernel
theorem dX8_refusals_1 : decode cX8_refusals 1 = .ok (.iconst 1, 1) := by decide +kernel
theorem dX8_refusals_2 : decode cX8_refusals 2 = .ok (.bipush 10, 2) := by decide +kernel
theorem dX8_refusals_4 : decode cX8_refusals 4 = .ok (.invokestatic 86, 3) := by decide +kernel
theorem dX8_refusals_7 : decode cX8_refusals 7 = .ok (.aload_n 0, 1) := by decide +kernel
theorem dX8_refusals_8 : decode cX8_refusals 8 = .ok (.getfield 48, 3) := by decide +kernel
theorem dX8_refusals_11 : decode cX8_refusals 11 = .ok (.iload_n 1, 1) := by decide +kernel
theorem dX8_refusals_12 : decode cX8_refusals 12 = .ok (.iaload, 1) := by decide +kernel
theorem dX8_refusals_13 : decode cX8_refusals 13 = .ok (.ireturn, 1) := by decide +kernel
theorem dX8_gap_0 : decode cX8_gap 0 = .ok (.aload_n 0, 1) := by decide +kernel
theorem dX8_gap_1 : decode cX8_gap 1 = .ok (.getfield 26, 3) := by decide +kernel
theorem dX8_gap_4 : decode cX8_gap 4 = .ok (.getfield 197, 3) := by decide +kernel
theorem dX8_gap_7 : decode cX8_gap 7 = .ok (.astore_n 1, 1) := by decide +kernel
theorem dX8_gap_8 : decode cX8_gap 8 = .ok (.aload_n 1, 1) := by decide +kernel
theorem dX8_gap_9 : decode cX8_gap 9 = .ok (.iconst 0, 1) := by decide +kernel
theorem dX8_gap_10 : decode cX8_gap 10 = .ok (.iaload, 1) := by decide +kernel
theorem dX8_gap_11 : decode cX8_gap 11 = .ok (.aload_n 1, 1) := by decide +kernel
theorem dX8_gap_12 : decode cX8_gap 12 = .ok (.iconst 1, 1) := by decide +kernel
theorem dX8_gap_13 : decode cX8_gap 13 = .ok (.iaload, 1) := by decide +kernel
theorem dX8_gap_14 : decode cX8_gap 14 = .ok (.iadd, 1) := by decide +kernel
theorem dX8_gap_15 : decode cX8_gap 15 = .ok (.istore_n 2, 1) := by decide +kernel
theorem dX8_gap_16 : decode cX8_gap 16 = .ok (.aload_n 1, 1) := by decide +kernel
theorem dX8_gap_17 : decode cX8_gap 17 = .ok (.iconst 5, 1) := by decide +kernel
theorem dX8_gap_18 : decode cX8_gap 18 = .ok (.iaload, 1) := by decide +kernel
theorem dX8_gap_19 : decode cX8_gap 19 = .ok (.aload_n 1, 1) := by decide +kernel
theorem dX8_gap_20 : decode cX8_gap 20 = .ok (.bipush 6, 2) := by decide +kernel
theorem dX8_gap_22 : decode cX8_gap 22 = .ok (.iaload, 1) := by decide +kernel
theorem dX8_gap_23 : decode cX8_gap 23 = .ok (.iadd, 1) := by decide +kernel
theorem dX8_gap_24 : decode cX8_gap 24 = .ok (.istore_n 3, 1) := by decide +kernel
theorem dX8_gap_25 : decode cX8_gap 25 = .ok (.iconst 0, 1) := by decide +kernel
theorem dX8_gap_26 : decode cX8_gap 26 = .ok (.istore 4, 2) := by decide +kernel
theorem dX8_gap_28 : decode cX8_gap 28 = .ok (.iconst 0, 1) := by decide +kernel
theorem dX8_gap_29 : decode cX8_gap 29 = .ok (.istore 5, 2) := by decide +kernel
theorem dX8_gap_31 : decode cX8_gap 31 = .ok (.iconst 0, 1) := by decide +kernel
theorem dX8_gap_32 : decode cX8_gap 32 = .ok (.istore 6, 2) := by decide +kernel
theorem dX8_gap_34 : decode cX8_gap 34 = .ok (.iconst 0, 1) := by decide +kernel
theorem dX8_gap_35 : decode cX8_gap 35 = .ok (.istore 7, 2) := by decide +kernel
theorem dX8_gap_37 : decode cX8_gap 37 = .ok (.iload 7, 2) := by decide +kernel
theorem dX8_gap_39 : decode cX8_gap 39 = .ok (.aload_n 0, 1) := by decide +kernel
theorem dX8_gap_40 : decode cX8_gap 40 = .ok (.getfield 26, 3) := by decide +kernel
theorem dX8_gap_43 : decode cX8_gap 43 = .ok (.getfield 108, 3) := by decide +kernel
theorem dX8_gap_46 : decode cX8_gap 46 = .ok (.if_icmp .ge 91, 3) := by decide +kernel
theorem dX8_gap_49 : decode cX8_gap 49 = .ok (.iload 4, 2) := by decide +kernel
theorem dX8_gap_51 : decode cX8_gap 51 = .ok (.aload_n 0, 1) := by decide +kernel
theorem dX8_gap_52 : decode cX8_gap 52 = .ok (.getfield 26, 3) := by decide +kernel
theorem dX8_gap_55 : decode cX8_gap 55 = .ok (.getfield 174, 3) := by decide +kernel
theorem dX8_gap_58 : decode cX8_gap 58 = .ok (.iload 7, 2) := by decide +kernel
theorem dX8_gap_60 : decode cX8_gap 60 = .ok (.invokevirtual 244, 3) := by decide +kernel
theorem dX8_gap_63 : decode cX8_gap 63 = .ok (.iadd, 1) := by decide +kernel
theorem dX8_gap_64 : decode cX8_gap 64 = .ok (.istore 4, 2) := by decide +kernel
theorem dX8_gap_66 : decode cX8_gap 66 = .ok (.iload 5, 2) := by decide +kernel
theorem dX8_gap_68 : decode cX8_gap 68 = .ok (.aload_n 0, 1) := by decide +kernel
theorem dX8_gap_69 : decode cX8_gap 69 = .ok (.getfield 26, 3) := by decide +kernel
theorem dX8_gap_72 : decode cX8_gap 72 = .ok (.getfield 174, 3) := by decide +kernel
theorem dX8_gap_75 : decode cX8_gap 75 = .ok (.iload 7, 2) := by decide +kernel
theorem dX8_gap_77 : decode cX8_gap 77 = .ok (.invokevirtual 247, 3) := by decide +kernel
theorem dX8_gap_80 : decode cX8_gap 80 = .ok (.iadd, 1) := by decide +kernel
theorem dX8_gap_81 : decode cX8_gap 81 = .ok (.istore 5, 2) := by decide +kernel
theorem dX8_gap_83 : decode cX8_gap 83 = .ok (.aload_n 0, 1) := by decide +kernel
theorem dX8_gap_84 : decode cX8_gap 84 = .ok (.getfield 26, 3) := by decide +kernel
theorem dX8_gap_87 : decode cX8_gap 87 = .ok (.getfield 203, 3) := by decide +kernel
theorem dX8_gap_90 : decode cX8_gap 90 = .ok (.iload 7, 2) := by decide +kernel
theorem dX8_gap_92 : decode cX8_gap 92 = .ok (.aaload, 1) := by decide +kernel
theorem dX8_gap_93 : decode cX8_gap 93 = .ok (.getfield 234, 3) := by decide +kernel
theorem dX8_gap_96 : decode cX8_gap 96 = .ok (.getfield 238, 3) := by decide +kernel
theorem dX8_gap_99 : decode cX8_gap 99 = .ok (.bipush 20, 2) := by decide +kernel
theorem dX8_gap_101 : decode cX8_gap 101 = .ok (.if_icmp .le 6, 3) := by decide +kernel
theorem dX8_gap_104 : decode cX8_gap 104 = .ok (.iinc 6 1, 3) := by decide +kernel
theorem dX8_gap_107 : decode cX8_gap 107 = .ok (.aload_n 0, 1) := by decide +kernel
theorem dX8_gap_108 : decode cX8_gap 108 = .ok (.getfield 26, 3) := by decide +kernel
theorem dX8_gap_111 : decode cX8_gap 111 = .ok (.getfield 203, 3) := by decide +kernel
theorem dX8_gap_114 : decode cX8_gap 114 = .ok (.iload 7, 2) := by decide +kernel
theorem dX8_gap_116 : decode cX8_gap 116 = .ok (.aaload, 1) := by decide +kernel
theorem dX8_gap_117 : decode cX8_gap 117 = .ok (.getfield 241, 3) := by decide +kernel
theorem dX8_gap_120 : decode cX8_gap 120 = .ok (.getfield 238, 3) := by decide +kernel
theorem dX8_gap_123 : decode cX8_gap 123 = .ok (.bipush 20, 2) := by decide +kernel
theorem dX8_gap_125 : decode cX8_gap 125 = .ok (.if_icmp .le 6, 3) := by decide +kernel
theorem dX8_gap_128 : decode cX8_gap 128 = .ok (.iinc 6 1, 3) := by decide +kernel
theorem dX8_gap_131 : decode cX8_gap 131 = .ok (.iinc 7 1, 3) := by decide +kernel
theorem dX8_gap_134 : decode cX8_gap 134 = .ok (.goto (-97), 3) := by decide +kernel
theorem dX8_gap_137 : decode cX8_gap 137 = .ok (.iload_n 2, 1) := by decide +kernel
theorem dX8_gap_138 : decode cX8_gap 138 = .ok (.aload_n 0, 1) := by decide +kernel
theorem dX8_gap_139 : decode cX8_gap 139 = .ok (.getfield 26, 3) := by decide +kernel
theorem dX8_gap_142 : decode cX8_gap 142 = .ok (.iconst 0, 1) := by decide +kernel
theorem dX8_gap_143 : decode cX8_gap 143 = .ok (.invokevirtual 171, 3) := by decide +kernel
theorem dX8_gap_146 : decode cX8_gap 146 = .ok (.isub, 1) := by decide +kernel
theorem dX8_gap_147 : decode cX8_gap 147 = .ok (.aload_n 0, 1) := by decide +kernel
theorem dX8_gap_148 : decode cX8_gap 148 = .ok (.getfield 26, 3) := by decide +kernel
theorem dX8_gap_151 : decode cX8_gap 151 = .ok (.iconst 1, 1) := by decide +kernel
theorem dX8_gap_152 : decode cX8_gap 152 = .ok (.invokevirtual 171, 3) := by decide +kernel
theorem dX8_gap_155 : decode cX8_gap 155 = .ok (.isub, 1) := by decide +kernel
theorem dX8_gap_156 : decode cX8_gap 156 = .ok (.iload_n 3, 1) := by decide +kernel
theorem dX8_gap_157 : decode cX8_gap 157 = .ok (.isub, 1) := by decide +kernel
theorem dX8_gap_158 : decode cX8_gap 158 = .ok (.invokestatic 347, 3) := by decide +kernel
theorem dX8_gap_161 : decode cX8_gap 161 = .ok (.iload 4, 2) := by decide +kernel
theorem dX8_gap_163 : decode cX8_gap 163 = .ok (.iload 5, 2) := by decide +kernel
theorem dX8_gap_165 : decode cX8_gap 165 = .ok (.isub, 1) := by decide +kernel
theorem dX8_gap_166 : decode cX8_gap 166 = .ok (.invokestatic 347, 3) := by decide +kernel
theorem dX8_gap_169 : decode cX8_gap 169 = .ok (.iadd, 1) := by decide +kernel
theorem dX8_gap_170 : decode cX8_gap 170 = .ok (.iload 6, 2) := by decide +kernel
theorem dX8_gap_172 : decode cX8_gap 172 = .ok (.iadd, 1) := by decide +kernel
theorem dX8_gap_173 : decode cX8_gap 173 = .ok (.ireturn, 1) := by decide +kernel
theorem dX8_meanMarks_0 : decode cX8_meanMarks 0 = .ok (.aload_n 0, 1) := by decide +kernel
theorem dX8_meanMarks_1 : decode cX8_meanMarks 1 = .ok (.getfield 26, 3) := by decide +kernel
theorem dX8_meanMarks_4 : decode cX8_meanMarks 4 = .ok (.getfield 108, 3) := by decide +kernel
theorem dX8_meanMarks_7 : decode cX8_meanMarks 7 = .ok (.istore_n 1, 1) := by decide +kernel
theorem dX8_meanMarks_8 : decode cX8_meanMarks 8 = .ok (.iload_n 1, 1) := by decide +kernel
theorem dX8_meanMarks_9 : decode cX8_meanMarks 9 = .ok (.ifCond .le 17, 3) := by decide +kernel
theorem dX8_meanMarks_12 : decode cX8_meanMarks 12 = .ok (.aload_n 0, 1) := by decide +kernel
theorem dX8_meanMarks_13 : decode cX8_meanMarks 13 = .ok (.getfield 26, 3) := by decide +kernel
theorem dX8_meanMarks_16 : decode cX8_meanMarks 16 = .ok (.invokevirtual 352, 3) := by decide +kernel
theorem dX8_meanMarks_19 : decode cX8_meanMarks 19 = .ok (.i2d, 1) := by decide +kernel
theorem dX8_meanMarks_20 : decode cX8_meanMarks 20 = .ok (.iload_n 1, 1) := by decide +kernel
theorem dX8_meanMarks_21 : decode cX8_meanMarks 21 = .ok (.i2d, 1) := by decide +kernel
theorem dX8_meanMarks_22 : decode cX8_meanMarks 22 = .ok (.ddiv, 1) := by decide +kernel
theorem dX8_meanMarks_23 : decode cX8_meanMarks 23 = .ok (.goto 4, 3) := by decide +kernel
theorem dX8_meanMarks_26 : decode cX8_meanMarks 26 = .ok (.dconst 0, 1) := by decide +kernel
theorem dX8_meanMarks_27 : decode cX8_meanMarks 27 = .ok (.dreturn, 1) := by decide +kernel
theorem dX8_ownShare_0 : decode cX8_ownShare 0 = .ok (.aload_n 0, 1) := by decide +kernel
theorem dX8_ownShare_1 : decode cX8_ownShare 1 = .ok (.iload_n 1, 1) := by decide +kernel
theorem dX8_ownShare_2 : decode cX8_ownShare 2 = .ok (.invokevirtual 200, 3) := by decide +kernel
theorem dX8_ownShare_5 : decode cX8_ownShare 5 = .ok (.aload_n 0, 1) := by decide +kernel
theorem dX8_ownShare_6 : decode cX8_ownShare 6 = .ok (.getfield 26, 3) := by decide +kernel
theorem dX8_ownShare_9 : decode cX8_ownShare 9 = .ok (.getfield 203, 3) := by decide +kernel
theorem dX8_ownShare_12 : decode cX8_ownShare 12 = .ok (.iload_n 1, 1) := by decide +kernel
theorem dX8_ownShare_13 : decode cX8_ownShare 13 = .ok (.aaload, 1) := by decide +kernel
theorem dX8_ownShare_14 : decode cX8_ownShare 14 = .ok (.astore_n 2, 1) := by decide +kernel
theorem dX8_ownShare_15 : decode cX8_ownShare 15 = .ok (.aload_n 2, 1) := by decide +kernel
theorem dX8_ownShare_16 : decode cX8_ownShare 16 = .ok (.getfield 234, 3) := by decide +kernel
theorem dX8_ownShare_19 : decode cX8_ownShare 19 = .ok (.iload_n 1, 1) := by decide +kernel
theorem dX8_ownShare_20 : decode cX8_ownShare 20 = .ok (.invokevirtual 270, 3) := by decide +kernel
theorem dX8_ownShare_23 : decode cX8_ownShare 23 = .ok (.aload_n 2, 1) := by decide +kernel
theorem dX8_ownShare_24 : decode cX8_ownShare 24 = .ok (.getfield 241, 3) := by decide +kernel
theorem dX8_ownShare_27 : decode cX8_ownShare 27 = .ok (.iload_n 1, 1) := by decide +kernel
theorem dX8_ownShare_28 : decode cX8_ownShare 28 = .ok (.invokevirtual 270, 3) := by decide +kernel
theorem dX8_ownShare_31 : decode cX8_ownShare 31 = .ok (.iadd, 1) := by decide +kernel
theorem dX8_ownShare_32 : decode cX8_ownShare 32 = .ok (.istore_n 3, 1) := by decide +kernel
theorem dX8_ownShare_33 : decode cX8_ownShare 33 = .ok (.aload_n 2, 1) := by decide +kernel
theorem dX8_ownShare_34 : decode cX8_ownShare 34 = .ok (.getfield 234, 3) := by decide +kernel
theorem dX8_ownShare_37 : decode cX8_ownShare 37 = .ok (.getfield 238, 3) := by decide +kernel
theorem dX8_ownShare_40 : decode cX8_ownShare 40 = .ok (.aload_n 2, 1) := by decide +kernel
theorem dX8_ownShare_41 : decode cX8_ownShare 41 = .ok (.getfield 241, 3) := by decide +kernel
theorem dX8_ownShare_44 : decode cX8_ownShare 44 = .ok (.getfield 238, 3) := by decide +kernel
theorem dX8_ownShare_47 : decode cX8_ownShare 47 = .ok (.iadd, 1) := by decide +kernel
theorem dX8_ownShare_48 : decode cX8_ownShare 48 = .ok (.istore 4, 2) := by decide +kernel
theorem dX8_ownShare_50 : decode cX8_ownShare 50 = .ok (.iload 4, 2) := by decide +kernel
theorem dX8_ownShare_52 : decode cX8_ownShare 52 = .ok (.ifCond .le 12, 3) := by decide +kernel
theorem dX8_ownShare_55 : decode cX8_ownShare 55 = .ok (.iload_n 3, 1) := by decide +kernel
theorem dX8_ownShare_56 : decode cX8_ownShare 56 = .ok (.i2f, 1) := by decide +kernel
theorem dX8_ownShare_57 : decode cX8_ownShare 57 = .ok (.iload 4, 2) := by decide +kernel
theorem dX8_ownShare_59 : decode cX8_ownShare 59 = .ok (.i2f, 1) := by decide +kernel
theorem dX8_ownShare_60 : decode cX8_ownShare 60 = .ok (.fdiv, 1) := by decide +kernel
theorem dX8_ownShare_61 : decode cX8_ownShare 61 = .ok (.goto 4, 3) := by decide +kernel
theorem dX8_ownShare_64 : decode cX8_ownShare 64 = .ok (.fconst 0, 1) := by decide +kernel
theorem dX8_ownShare_65 : decode cX8_ownShare 65 = .ok (.freturn, 1) := by decide +kernel
theorem dX8_couldMake_0 : decode cX8_couldMake 0 = .ok (.aload_n 0, 1) := by decide +kernel
theorem dX8_couldMake_1 : decode cX8_couldMake 1 = .ok (.iload_n 1, 1) := by decide +kernel
theorem dX8_couldMake_2 : decode cX8_couldMake 2 = .ok (.invokevirtual 200, 3) := by decide +kernel
theorem dX8_couldMake_5 : decode cX8_couldMake 5 = .ok (.iload_n 2, 1) := by decide +kernel
theorem dX8_couldMake_6 : decode cX8_couldMake 6 = .ok (.invokestatic 260, 3) := by decide +kernel
theorem dX8_couldMake_9 : decode cX8_couldMake 9 = .ok (.aload_n 0, 1) := by decide +kernel
theorem dX8_couldMake_10 : decode cX8_couldMake 10 = .ok (.getfield 26, 3) := by decide +kernel
theorem dX8_couldMake_13 : decode cX8_couldMake 13 = .ok (.getfield 203, 3) := by decide +kernel
theorem dX8_couldMake_16 : decode cX8_couldMake 16 = .ok (.iload_n 1, 1) := by decide +kernel
theorem dX8_couldMake_17 : decode cX8_couldMake 17 = .ok (.aaload, 1) := by decide +kernel
theorem dX8_couldMake_18 : decode cX8_couldMake 18 = .ok (.iload_n 2, 1) := by decide +kernel
theorem dX8_couldMake_19 : decode cX8_couldMake 19 = .ok (.invokevirtual 355, 3) := by decide +kernel
theorem dX8_couldMake_22 : decode cX8_couldMake 22 = .ok (.istore_n 3, 1) := by decide +kernel
theorem dX8_couldMake_23 : decode cX8_couldMake 23 = .ok (.iload_n 3, 1) := by decide +kernel
theorem dX8_couldMake_24 : decode cX8_couldMake 24 = .ok (.ifCond .le 20, 3) := by decide +kernel
theorem dX8_couldMake_27 : decode cX8_couldMake 27 = .ok (.aload_n 0, 1) := by decide +kernel
theorem dX8_couldMake_28 : decode cX8_couldMake 28 = .ok (.getfield 26, 3) := by decide +kernel
theorem dX8_couldMake_31 : decode cX8_couldMake 31 = .ok (.getfield 203, 3) := by decide +kernel
theorem dX8_couldMake_34 : decode cX8_couldMake 34 = .ok (.iload_n 1, 1) := by decide +kernel
theorem dX8_couldMake_35 : decode cX8_couldMake 35 = .ok (.aaload, 1) := by decide +kernel
theorem dX8_couldMake_36 : decode cX8_couldMake 36 = .ok (.getfield 222, 3) := by decide +kernel
theorem dX8_couldMake_39 : decode cX8_couldMake 39 = .ok (.iload_n 3, 1) := by decide +kernel
theorem dX8_couldMake_40 : decode cX8_couldMake 40 = .ok (.idiv, 1) := by decide +kernel
theorem dX8_couldMake_41 : decode cX8_couldMake 41 = .ok (.goto 4, 3) := by decide +kernel
theorem dX8_couldMake_44 : decode cX8_couldMake 44 = .ok (.iconst 0, 1) := by decide +kernel
theorem dX8_couldMake_45 : decode cX8_couldMake 45 = .ok (.ireturn, 1) := by decide +kernel
theorem dX8_ifWeek_0 : decode cX8_ifWeek 0 = .ok (.aload_n 0, 1) := by decide +kernel
theorem dX8_ifWeek_1 : decode cX8_ifWeek 1 = .ok (.iload_n 1, 1) := by decide +kernel
theorem dX8_ifWeek_2 : decode cX8_ifWeek 2 = .ok (.invokevirtual 200, 3) := by decide +kernel
theorem dX8_ifWeek_5 : decode cX8_ifWeek 5 = .ok (.iload_n 2, 1) := by decide +kernel
theorem dX8_ifWeek_6 : decode cX8_ifWeek 6 = .ok (.iconst 0, 1) := by decide +kernel
theorem dX8_ifWeek_7 : decode cX8_ifWeek 7 = .ok (.iconst 2, 1) := by decide +kernel
theorem dX8_ifWeek_8 : decode cX8_ifWeek 8 = .ok (.invokestatic 86, 3) := by decide +kernel
theorem dX8_ifWeek_11 : decode cX8_ifWeek 11 = .ok (.aload_n 0, 1) := by decide +kernel
theorem dX8_ifWeek_12 : decode cX8_ifWeek 12 = .ok (.getfield 26, 3) := by decide +kernel
theorem dX8_ifWeek_15 : decode cX8_ifWeek 15 = .ok (.getfield 203, 3) := by decide +kernel
theorem dX8_ifWeek_18 : decode cX8_ifWeek 18 = .ok (.iload_n 1, 1) := by decide +kernel
theorem dX8_ifWeek_19 : decode cX8_ifWeek 19 = .ok (.aaload, 1) := by decide +kernel
theorem dX8_ifWeek_20 : decode cX8_ifWeek 20 = .ok (.astore_n 3, 1) := by decide +kernel
theorem dX8_ifWeek_21 : decode cX8_ifWeek 21 = .ok (.iload_n 2, 1) := by decide +kernel
theorem dX8_ifWeek_22 : decode cX8_ifWeek 22 = .ok (.lookupswitch 44 #[(0, 26), (1, 35)], 26) := by decide +kernel
theorem dX8_ifWeek_48 : decode cX8_ifWeek 48 = .ok (.aload_n 0, 1) := by decide +kernel
theorem dX8_ifWeek_49 : decode cX8_ifWeek 49 = .ok (.getfield 26, 3) := by decide +kernel
theorem dX8_ifWeek_52 : decode cX8_ifWeek 52 = .ok (.aload_n 3, 1) := by decide +kernel
theorem dX8_ifWeek_53 : decode cX8_ifWeek 53 = .ok (.invokevirtual 319, 3) := by decide +kernel
theorem dX8_ifWeek_56 : decode cX8_ifWeek 56 = .ok (.ireturn, 1) := by decide +kernel
theorem dX8_ifWeek_57 : decode cX8_ifWeek 57 = .ok (.aload_n 0, 1) := by decide +kernel
theorem dX8_ifWeek_58 : decode cX8_ifWeek 58 = .ok (.getfield 26, 3) := by decide +kernel
theorem dX8_ifWeek_61 : decode cX8_ifWeek 61 = .ok (.aload_n 3, 1) := by decide +kernel
theorem dX8_ifWeek_62 : decode cX8_ifWeek 62 = .ok (.invokevirtual 358, 3) := by decide +kernel
theorem dX8_ifWeek_65 : decode cX8_ifWeek 65 = .ok (.ireturn, 1) := by decide +kernel
theorem dX8_ifWeek_66 : decode cX8_ifWeek 66 = .ok (.aload_n 0, 1) := by decide +kernel
theorem dX8_ifWeek_67 : decode cX8_ifWeek 67 = .ok (.getfield 26, 3) := by decide +kernel
theorem dX8_ifWeek_70 : decode cX8_ifWeek 70 = .ok (.aload_n 3, 1) := by decide +kernel
theorem dX8_ifWeek_71 : decode cX8_ifWeek 71 = .ok (.aload_n 0, 1) := by decide +kernel
theorem dX8_ifWeek_72 : decode cX8_ifWeek 72 = .ok (.getfield 26, 3) := by decide +kernel
theorem dX8_ifWeek_75 : decode cX8_ifWeek 75 = .ok (.aload_n 3, 1) := by decide +kernel
theorem dX8_ifWeek_76 : decode cX8_ifWeek 76 = .ok (.invokevirtual 316, 3) := by decide +kernel
theorem dX8_ifWeek_79 : decode cX8_ifWeek 79 = .ok (.invokevirtual 361, 3) := by decide +kernel
theorem dX8_ifWeek_82 : decode cX8_ifWeek 82 = .ok (.ireturn, 1) := by decide +kernel
theorem dX8_ifPassed_0 : decode cX8_ifPassed 0 = .ok (.iload_n 1, 1) := by decide +kernel
theorem dX8_ifPassed_1 : decode cX8_ifPassed 1 = .ok (.iconst 0, 1) := by decide +kernel
theorem dX8_ifPassed_2 : decode cX8_ifPassed 2 = .ok (.bipush 30, 2) := by decide +kernel
theorem dX8_ifPassed_4 : decode cX8_ifPassed 4 = .ok (.invokestatic 86, 3) := by decide +kernel
theorem dX8_ifPassed_7 : decode cX8_ifPassed 7 = .ok (.iload_n 2, 1) := by decide +kernel
theorem dX8_ifPassed_8 : decode cX8_ifPassed 8 = .ok (.iconst 0, 1) := by decide +kernel
theorem dX8_ifPassed_9 : decode cX8_ifPassed 9 = .ok (.iconst 3, 1) := by decide +kernel
theorem dX8_ifPassed_10 : decode cX8_ifPassed 10 = .ok (.invokestatic 86, 3) := by decide +kernel
theorem dX8_ifPassed_13 : decode cX8_ifPassed 13 = .ok (.aload_n 0, 1) := by decide +kernel
theorem dX8_ifPassed_14 : decode cX8_ifPassed 14 = .ok (.getfield 30, 3) := by decide +kernel
theorem dX8_ifPassed_17 : decode cX8_ifPassed 17 = .ok (.aload_n 0, 1) := by decide +kernel
theorem dX8_ifPassed_18 : decode cX8_ifPassed 18 = .ok (.getfield 26, 3) := by decide +kernel
theorem dX8_ifPassed_21 : decode cX8_ifPassed 21 = .ok (.invokevirtual 101, 3) := by decide +kernel
theorem dX8_ifPassed_24 : decode cX8_ifPassed 24 = .ok (.iconst 0, 1) := by decide +kernel
theorem dX8_ifPassed_25 : decode cX8_ifPassed 25 = .ok (.istore_n 3, 1) := by decide +kernel
theorem dX8_ifPassed_26 : decode cX8_ifPassed 26 = .ok (.iload_n 3, 1) := by decide +kernel
theorem dX8_ifPassed_27 : decode cX8_ifPassed 27 = .ok (.iload_n 1, 1) := by decide +kernel
theorem dX8_ifPassed_28 : decode cX8_ifPassed 28 = .ok (.if_icmp .ge 17, 3) := by decide +kernel
theorem dX8_ifPassed_31 : decode cX8_ifPassed 31 = .ok (.aload_n 0, 1) := by decide +kernel
theorem dX8_ifPassed_32 : decode cX8_ifPassed 32 = .ok (.getfield 30, 3) := by decide +kernel
theorem dX8_ifPassed_35 : decode cX8_ifPassed 35 = .ok (.invokevirtual 364, 3) := by decide +kernel
theorem dX8_ifPassed_38 : decode cX8_ifPassed 38 = .ok (.pop, 1) := by decide +kernel
theorem dX8_ifPassed_39 : decode cX8_ifPassed 39 = .ok (.iinc 3 1, 3) := by decide +kernel
theorem dX8_ifPassed_42 : decode cX8_ifPassed 42 = .ok (.goto (-16), 3) := by decide +kernel
theorem dX8_ifPassed_45 : decode cX8_ifPassed 45 = .ok (.iload_n 2, 1) := by decide +kernel
theorem dX8_ifPassed_46 : decode cX8_ifPassed 46 = .ok (.tableswitch 53 0 2 #[26, 34, 45], 26) := by decide +kernel
theorem dX8_ifPassed_72 : decode cX8_ifPassed 72 = .ok (.aload_n 0, 1) := by decide +kernel
theorem dX8_ifPassed_73 : decode cX8_ifPassed 73 = .ok (.getfield 30, 3) := by decide +kernel
theorem dX8_ifPassed_76 : decode cX8_ifPassed 76 = .ok (.invokevirtual 352, 3) := by decide +kernel
theorem dX8_ifPassed_79 : decode cX8_ifPassed 79 = .ok (.ireturn, 1) := by decide +kernel
theorem dX8_ifPassed_80 : decode cX8_ifPassed 80 = .ok (.aload_n 0, 1) := by decide +kernel
theorem dX8_ifPassed_81 : decode cX8_ifPassed 81 = .ok (.getfield 30, 3) := by decide +kernel
theorem dX8_ifPassed_84 : decode cX8_ifPassed 84 = .ok (.getfield 174, 3) := by decide +kernel
theorem dX8_ifPassed_87 : decode cX8_ifPassed 87 = .ok (.invokevirtual 181, 3) := by decide +kernel
theorem dX8_ifPassed_90 : decode cX8_ifPassed 90 = .ok (.ireturn, 1) := by decide +kernel
theorem dX8_ifPassed_91 : decode cX8_ifPassed 91 = .ok (.aload_n 0, 1) := by decide +kernel
theorem dX8_ifPassed_92 : decode cX8_ifPassed 92 = .ok (.getfield 30, 3) := by decide +kernel
theorem dX8_ifPassed_95 : decode cX8_ifPassed 95 = .ok (.invokevirtual 185, 3) := by decide +kernel
theorem dX8_ifPassed_98 : decode cX8_ifPassed 98 = .ok (.ireturn, 1) := by decide +kernel
theorem dX8_ifPassed_99 : decode cX8_ifPassed 99 = .ok (.aload_n 0, 1) := by decide +kernel
theorem dX8_ifPassed_100 : decode cX8_ifPassed 100 = .ok (.getfield 30, 3) := by decide +kernel
theorem dX8_ifPassed_103 : decode cX8_ifPassed 103 = .ok (.iconst 0, 1) := by decide +kernel
theorem dX8_ifPassed_104 : decode cX8_ifPassed 104 = .ok (.invokevirtual 171, 3) := by decide +kernel
theorem dX8_ifPassed_107 : decode cX8_ifPassed 107 = .ok (.aload_n 0, 1) := by decide +kernel
theorem dX8_ifPassed_108 : decode cX8_ifPassed 108 = .ok (.getfield 30, 3) := by decide +kernel
theorem dX8_ifPassed_111 : decode cX8_ifPassed 111 = .ok (.iconst 1, 1) := by decide +kernel
theorem dX8_ifPassed_112 : decode cX8_ifPassed 112 = .ok (.invokevirtual 171, 3) := by decide +kernel
theorem dX8_ifPassed_115 : decode cX8_ifPassed 115 = .ok (.iadd, 1) := by decide +kernel
theorem dX8_ifPassed_116 : decode cX8_ifPassed 116 = .ok (.ireturn, 1) := by decide +kernel
theorem dX8_freeIn_0 : decode cX8_freeIn 0 = .ok (.aload_n 0, 1) := by decide +kernel
theorem dX8_freeIn_1 : decode cX8_freeIn 1 = .ok (.iload_n 1, 1) := by decide +kernel
theorem dX8_freeIn_2 : decode cX8_freeIn 2 = .ok (.invokevirtual 200, 3) := by decide +kernel
theorem dX8_freeIn_5 : decode cX8_freeIn 5 = .ok (.aload_n 0, 1) := by decide +kernel
theorem dX8_freeIn_6 : decode cX8_freeIn 6 = .ok (.getfield 30, 3) := by decide +kernel
theorem dX8_freeIn_9 : decode cX8_freeIn 9 = .ok (.aload_n 0, 1) := by decide +kernel
theorem dX8_freeIn_10 : decode cX8_freeIn 10 = .ok (.getfield 26, 3) := by decide +kernel
theorem dX8_freeIn_13 : decode cX8_freeIn 13 = .ok (.invokevirtual 101, 3) := by decide +kernel
theorem dX8_freeIn_16 : decode cX8_freeIn 16 = .ok (.iconst 0, 1) := by decide +kernel
theorem dX8_freeIn_17 : decode cX8_freeIn 17 = .ok (.istore_n 2, 1) := by decide +kernel
theorem dX8_freeIn_18 : decode cX8_freeIn 18 = .ok (.iload_n 2, 1) := by decide +kernel
theorem dX8_freeIn_19 : decode cX8_freeIn 19 = .ok (.bipush 30, 2) := by decide +kernel
theorem dX8_freeIn_21 : decode cX8_freeIn 21 = .ok (.if_icmp .gt 34, 3) := by decide +kernel
theorem dX8_freeIn_24 : decode cX8_freeIn 24 = .ok (.aload_n 0, 1) := by decide +kernel
theorem dX8_freeIn_25 : decode cX8_freeIn 25 = .ok (.getfield 30, 3) := by decide +kernel
theorem dX8_freeIn_28 : decode cX8_freeIn 28 = .ok (.getfield 203, 3) := by decide +kernel
theorem dX8_freeIn_31 : decode cX8_freeIn 31 = .ok (.iload_n 1, 1) := by decide +kernel
theorem dX8_freeIn_32 : decode cX8_freeIn 32 = .ok (.aaload, 1) := by decide +kernel
theorem dX8_freeIn_33 : decode cX8_freeIn 33 = .ok (.invokevirtual 367, 3) := by decide +kernel
theorem dX8_freeIn_36 : decode cX8_freeIn 36 = .ok (.ifCond .ne 5, 3) := by decide +kernel
theorem dX8_freeIn_39 : decode cX8_freeIn 39 = .ok (.iload_n 2, 1) := by decide +kernel
theorem dX8_freeIn_40 : decode cX8_freeIn 40 = .ok (.ireturn, 1) := by decide +kernel
theorem dX8_freeIn_41 : decode cX8_freeIn 41 = .ok (.aload_n 0, 1) := by decide +kernel
theorem dX8_freeIn_42 : decode cX8_freeIn 42 = .ok (.getfield 30, 3) := by decide +kernel
theorem dX8_freeIn_45 : decode cX8_freeIn 45 = .ok (.invokevirtual 364, 3) := by decide +kernel
theorem dX8_freeIn_48 : decode cX8_freeIn 48 = .ok (.pop, 1) := by decide +kernel
theorem dX8_freeIn_49 : decode cX8_freeIn 49 = .ok (.iinc 2 1, 3) := by decide +kernel
theorem dX8_freeIn_52 : decode cX8_freeIn 52 = .ok (.goto (-34), 3) := by decide +kernel
theorem dX8_freeIn_55 : decode cX8_freeIn 55 = .ok (.iconst (-1), 1) := by decide +kernel
theorem dX8_freeIn_56 : decode cX8_freeIn 56 = .ok (.ireturn, 1) := by decide +kernel
theorem dX8_ifMoved_0 : decode cX8_ifMoved 0 = .ok (.aload_n 0, 1) := by decide +kernel
theorem dX8_ifMoved_1 : decode cX8_ifMoved 1 = .ok (.iload_n 1, 1) := by decide +kernel
theorem dX8_ifMoved_2 : decode cX8_ifMoved 2 = .ok (.invokevirtual 200, 3) := by decide +kernel
theorem dX8_ifMoved_5 : decode cX8_ifMoved 5 = .ok (.iload_n 2, 1) := by decide +kernel
theorem dX8_ifMoved_6 : decode cX8_ifMoved 6 = .ok (.iload_n 3, 1) := by decide +kernel
theorem dX8_ifMoved_7 : decode cX8_ifMoved 7 = .ok (.invokestatic 300, 3) := by decide +kernel
theorem dX8_ifMoved_10 : decode cX8_ifMoved 10 = .ok (.aload_n 0, 1) := by decide +kernel
theorem dX8_ifMoved_11 : decode cX8_ifMoved 11 = .ok (.getfield 26, 3) := by decide +kernel
theorem dX8_ifMoved_14 : decode cX8_ifMoved 14 = .ok (.iload_n 1, 1) := by decide +kernel
theorem dX8_ifMoved_15 : decode cX8_ifMoved 15 = .ok (.iload_n 2, 1) := by decide +kernel
theorem dX8_ifMoved_16 : decode cX8_ifMoved 16 = .ok (.iload_n 3, 1) := by decide +kernel
theorem dX8_ifMoved_17 : decode cX8_ifMoved 17 = .ok (.invokevirtual 370, 3) := by decide +kernel
theorem dX8_ifMoved_20 : decode cX8_ifMoved 20 = .ok (.ireturn, 1) := by decide +kernel
theorem dX8_whySwap_0 : decode cX8_whySwap 0 = .ok (.aload_n 0, 1) := by decide +kernel
theorem dX8_whySwap_1 : decode cX8_whySwap 1 = .ok (.iload_n 1, 1) := by decide +kernel
theorem dX8_whySwap_2 : decode cX8_whySwap 2 = .ok (.iload_n 2, 1) := by decide +kernel
theorem dX8_whySwap_3 : decode cX8_whySwap 3 = .ok (.iload_n 3, 1) := by decide +kernel
theorem dX8_whySwap_4 : decode cX8_whySwap 4 = .ok (.iload 4, 2) := by decide +kernel
theorem dX8_whySwap_6 : decode cX8_whySwap 6 = .ok (.invokevirtual 373, 3) := by decide +kernel
theorem dX8_whySwap_9 : decode cX8_whySwap 9 = .ok (.aload_n 0, 1) := by decide +kernel
theorem dX8_whySwap_10 : decode cX8_whySwap 10 = .ok (.getfield 26, 3) := by decide +kernel
theorem dX8_whySwap_13 : decode cX8_whySwap 13 = .ok (.iload_n 1, 1) := by decide +kernel
theorem dX8_whySwap_14 : decode cX8_whySwap 14 = .ok (.iload_n 2, 1) := by decide +kernel
theorem dX8_whySwap_15 : decode cX8_whySwap 15 = .ok (.iload_n 3, 1) := by decide +kernel
theorem dX8_whySwap_16 : decode cX8_whySwap 16 = .ok (.iload 4, 2) := by decide +kernel
theorem dX8_whySwap_18 : decode cX8_whySwap 18 = .ok (.invokevirtual 376, 3) := by decide +kernel
theorem dX8_whySwap_21 : decode cX8_whySwap 21 = .ok (.ireturn, 1) := by decide +kernel
theorem dX8_whyLend_0 : decode cX8_whyLend 0 = .ok (.aload_n 0, 1) := by decide +kernel
theorem dX8_whyLend_1 : decode cX8_whyLend 1 = .ok (.iload_n 1, 1) := by decide +kernel
theorem dX8_whyLend_2 : decode cX8_whyLend 2 = .ok (.iload_n 2, 1) := by decide +kernel
theorem dX8_whyLend_3 : decode cX8_whyLend 3 = .ok (.iload_n 3, 1) := by decide +kernel
theorem dX8_whyLend_4 : decode cX8_whyLend 4 = .ok (.iload 4, 2) := by decide +kernel
theorem dX8_whyLend_6 : decode cX8_whyLend 6 = .ok (.invokevirtual 379, 3) := by decide +kernel
theorem dX8_whyLend_9 : decode cX8_whyLend 9 = .ok (.aload_n 0, 1) := by decide +kernel
theorem dX8_whyLend_10 : decode cX8_whyLend 10 = .ok (.getfield 26, 3) := by decide +kernel
theorem dX8_whyLend_13 : decode cX8_whyLend 13 = .ok (.iload_n 1, 1) := by decide +kernel
theorem dX8_whyLend_14 : decode cX8_whyLend 14 = .ok (.iload_n 2, 1) := by decide +kernel
theorem dX8_whyLend_15 : decode cX8_whyLend 15 = .ok (.iload_n 3, 1) := by decide +kernel
theorem dX8_whyLend_16 : decode cX8_whyLend 16 = .ok (.iload 4, 2) := by decide +kernel
theorem dX8_whyLend_18 : decode cX8_whyLend 18 = .ok (.invokevirtual 382, 3) := by decide +kernel
theorem dX8_whyLend_21 : decode cX8_whyLend 21 = .ok (.ireturn, 1) := by decide +kernel
theorem dX8_safestBench_0 : decode cX8_safestBench 0 = .ok (.aload_n 0, 1) := by decide +kernel
theorem dX8_safestBench_1 : decode cX8_safestBench 1 = .ok (.iload_n 1, 1) := by decide +kernel
theorem dX8_safestBench_2 : decode cX8_safestBench 2 = .ok (.invokevirtual 200, 3) := by decide +kernel
theorem dX8_safestBench_5 : decode cX8_safestBench 5 = .ok (.iconst (-1), 1) := by decide +kernel
theorem dX8_safestBench_6 : decode cX8_safestBench 6 = .ok (.istore_n 2, 1) := by decide +kernel
theorem dX8_safestBench_7 : decode cX8_safestBench 7 = .ok (.bipush 12, 2) := by decide +kernel
theorem dX8_safestBench_9 : decode cX8_safestBench 9 = .ok (.istore_n 3, 1) := by decide +kernel
theorem dX8_safestBench_10 : decode cX8_safestBench 10 = .ok (.iconst 0, 1) := by decide +kernel
theorem dX8_safestBench_11 : decode cX8_safestBench 11 = .ok (.istore 4, 2) := by decide +kernel
theorem dX8_safestBench_13 : decode cX8_safestBench 13 = .ok (.iload 4, 2) := by decide +kernel
theorem dX8_safestBench_15 : decode cX8_safestBench 15 = .ok (.bipush 36, 2) := by decide +kernel
theorem dX8_safestBench_17 : decode cX8_safestBench 17 = .ok (.if_icmp .ge 64, 3) := by decide +kernel
theorem dX8_safestBench_20 : decode cX8_safestBench 20 = .ok (.iload 4, 2) := by decide +kernel
theorem dX8_safestBench_22 : decode cX8_safestBench 22 = .ok (.bipush 6, 2) := by decide +kernel
theorem dX8_safestBench_24 : decode cX8_safestBench 24 = .ok (.idiv, 1) := by decide +kernel
theorem dX8_safestBench_25 : decode cX8_safestBench 25 = .ok (.istore 5, 2) := by decide +kernel
theorem dX8_safestBench_27 : decode cX8_safestBench 27 = .ok (.iload 4, 2) := by decide +kernel
theorem dX8_safestBench_29 : decode cX8_safestBench 29 = .ok (.bipush 6, 2) := by decide +kernel
theorem dX8_safestBench_31 : decode cX8_safestBench 31 = .ok (.irem, 1) := by decide +kernel
theorem dX8_safestBench_32 : decode cX8_safestBench 32 = .ok (.istore 6, 2) := by decide +kernel
theorem dX8_safestBench_34 : decode cX8_safestBench 34 = .ok (.aload_n 0, 1) := by decide +kernel
theorem dX8_safestBench_35 : decode cX8_safestBench 35 = .ok (.getfield 26, 3) := by decide +kernel
theorem dX8_safestBench_38 : decode cX8_safestBench 38 = .ok (.iload_n 1, 1) := by decide +kernel
theorem dX8_safestBench_39 : decode cX8_safestBench 39 = .ok (.iload 5, 2) := by decide +kernel
theorem dX8_safestBench_41 : decode cX8_safestBench 41 = .ok (.iload 6, 2) := by decide +kernel
theorem dX8_safestBench_43 : decode cX8_safestBench 43 = .ok (.invokevirtual 370, 3) := by decide +kernel
theorem dX8_safestBench_46 : decode cX8_safestBench 46 = .ok (.istore 7, 2) := by decide +kernel
theorem dX8_safestBench_48 : decode cX8_safestBench 48 = .ok (.aload_n 0, 1) := by decide +kernel
theorem dX8_safestBench_49 : decode cX8_safestBench 49 = .ok (.getfield 26, 3) := by decide +kernel
theorem dX8_safestBench_52 : decode cX8_safestBench 52 = .ok (.iload 5, 2) := by decide +kernel
theorem dX8_safestBench_54 : decode cX8_safestBench 54 = .ok (.iload 6, 2) := by decide +kernel
theorem dX8_safestBench_56 : decode cX8_safestBench 56 = .ok (.invokevirtual 304, 3) := by decide +kernel
theorem dX8_safestBench_59 : decode cX8_safestBench 59 = .ok (.iconst (-1), 1) := by decide +kernel
theorem dX8_safestBench_60 : decode cX8_safestBench 60 = .ok (.if_icmp .ne 15, 3) := by decide +kernel
theorem dX8_safestBench_63 : decode cX8_safestBench 63 = .ok (.iload 7, 2) := by decide +kernel
theorem dX8_safestBench_65 : decode cX8_safestBench 65 = .ok (.iload_n 3, 1) := by decide +kernel
theorem dX8_safestBench_66 : decode cX8_safestBench 66 = .ok (.if_icmp .ge 9, 3) := by decide +kernel
theorem dX8_safestBench_69 : decode cX8_safestBench 69 = .ok (.iload 4, 2) := by decide +kernel
theorem dX8_safestBench_71 : decode cX8_safestBench 71 = .ok (.istore_n 2, 1) := by decide +kernel
theorem dX8_safestBench_72 : decode cX8_safestBench 72 = .ok (.iload 7, 2) := by decide +kernel
theorem dX8_safestBench_74 : decode cX8_safestBench 74 = .ok (.istore_n 3, 1) := by decide +kernel
theorem dX8_safestBench_75 : decode cX8_safestBench 75 = .ok (.iinc 4 1, 3) := by decide +kernel
theorem dX8_safestBench_78 : decode cX8_safestBench 78 = .ok (.goto (-65), 3) := by decide +kernel
theorem dX8_safestBench_81 : decode cX8_safestBench 81 = .ok (.iload_n 2, 1) := by decide +kernel
theorem dX8_safestBench_82 : decode cX8_safestBench 82 = .ok (.ireturn, 1) := by decide +kernel
theorem dX8_safestPartner_0 : decode cX8_safestPartner 0 = .ok (.aload_n 0, 1) := by decide +kernel
theorem dX8_safestPartner_1 : decode cX8_safestPartner 1 = .ok (.iload_n 1, 1) := by decide +kernel
theorem dX8_safestPartner_2 : decode cX8_safestPartner 2 = .ok (.invokevirtual 200, 3) := by decide +kernel
theorem dX8_safestPartner_5 : decode cX8_safestPartner 5 = .ok (.iconst (-1), 1) := by decide +kernel
theorem dX8_safestPartner_6 : decode cX8_safestPartner 6 = .ok (.istore_n 2, 1) := by decide +kernel
theorem dX8_safestPartner_7 : decode cX8_safestPartner 7 = .ok (.bipush 12, 2) := by decide +kernel
theorem dX8_safestPartner_9 : decode cX8_safestPartner 9 = .ok (.istore_n 3, 1) := by decide +kernel
theorem dX8_safestPartner_10 : decode cX8_safestPartner 10 = .ok (.iconst 0, 1) := by decide +kernel
theorem dX8_safestPartner_11 : decode cX8_safestPartner 11 = .ok (.istore 4, 2) := by decide +kernel
theorem dX8_safestPartner_13 : decode cX8_safestPartner 13 = .ok (.iload 4, 2) := by decide +kernel
theorem dX8_safestPartner_15 : decode cX8_safestPartner 15 = .ok (.aload_n 0, 1) := by decide +kernel
theorem dX8_safestPartner_16 : decode cX8_safestPartner 16 = .ok (.getfield 26, 3) := by decide +kernel
theorem dX8_safestPartner_19 : decode cX8_safestPartner 19 = .ok (.getfield 108, 3) := by decide +kernel
theorem dX8_safestPartner_22 : decode cX8_safestPartner 22 = .ok (.if_icmp .ge 58, 3) := by decide +kernel
theorem dX8_safestPartner_25 : decode cX8_safestPartner 25 = .ok (.aload_n 0, 1) := by decide +kernel
theorem dX8_safestPartner_26 : decode cX8_safestPartner 26 = .ok (.getfield 26, 3) := by decide +kernel
theorem dX8_safestPartner_29 : decode cX8_safestPartner 29 = .ok (.iload_n 1, 1) := by decide +kernel
theorem dX8_safestPartner_30 : decode cX8_safestPartner 30 = .ok (.iload 4, 2) := by decide +kernel
theorem dX8_safestPartner_32 : decode cX8_safestPartner 32 = .ok (.invokevirtual 309, 3) := by decide +kernel
theorem dX8_safestPartner_35 : decode cX8_safestPartner 35 = .ok (.invokestatic 253, 3) := by decide +kernel
theorem dX8_safestPartner_38 : decode cX8_safestPartner 38 = .ok (.istore 5, 2) := by decide +kernel
theorem dX8_safestPartner_40 : decode cX8_safestPartner 40 = .ok (.iload 4, 2) := by decide +kernel
theorem dX8_safestPartner_42 : decode cX8_safestPartner 42 = .ok (.iload_n 1, 1) := by decide +kernel
theorem dX8_safestPartner_43 : decode cX8_safestPartner 43 = .ok (.if_icmp .eq 31, 3) := by decide +kernel
theorem dX8_safestPartner_46 : decode cX8_safestPartner 46 = .ok (.aload_n 0, 1) := by decide +kernel
theorem dX8_safestPartner_47 : decode cX8_safestPartner 47 = .ok (.getfield 26, 3) := by decide +kernel
theorem dX8_safestPartner_50 : decode cX8_safestPartner 50 = .ok (.getfield 203, 3) := by decide +kernel
theorem dX8_safestPartner_53 : decode cX8_safestPartner 53 = .ok (.iload 4, 2) := by decide +kernel
theorem dX8_safestPartner_55 : decode cX8_safestPartner 55 = .ok (.aaload, 1) := by decide +kernel
theorem dX8_safestPartner_56 : decode cX8_safestPartner 56 = .ok (.invokevirtual 367, 3) := by decide +kernel
theorem dX8_safestPartner_59 : decode cX8_safestPartner 59 = .ok (.ifCond .ne 15, 3) := by decide +kernel
theorem dX8_safestPartner_62 : decode cX8_safestPartner 62 = .ok (.iload 5, 2) := by decide +kernel
theorem dX8_safestPartner_64 : decode cX8_safestPartner 64 = .ok (.iload_n 3, 1) := by decide +kernel
theorem dX8_safestPartner_65 : decode cX8_safestPartner 65 = .ok (.if_icmp .ge 9, 3) := by decide +kernel
theorem dX8_safestPartner_68 : decode cX8_safestPartner 68 = .ok (.iload 4, 2) := by decide +kernel
theorem dX8_safestPartner_70 : decode cX8_safestPartner 70 = .ok (.istore_n 2, 1) := by decide +kernel
theorem dX8_safestPartner_71 : decode cX8_safestPartner 71 = .ok (.iload 5, 2) := by decide +kernel
theorem dX8_safestPartner_73 : decode cX8_safestPartner 73 = .ok (.istore_n 3, 1) := by decide +kernel
theorem dX8_safestPartner_74 : decode cX8_safestPartner 74 = .ok (.iinc 4 1, 3) := by decide +kernel
theorem dX8_safestPartner_77 : decode cX8_safestPartner 77 = .ok (.goto (-64), 3) := by decide +kernel
theorem dX8_safestPartner_80 : decode cX8_safestPartner 80 = .ok (.iload_n 2, 1) := by decide +kernel
theorem dX8_safestPartner_81 : decode cX8_safestPartner 81 = .ok (.ireturn, 1) := by decide +kernel
theorem dX8_drownsIn_0 : decode cX8_drownsIn 0 = .ok (.aload_n 0, 1) := by decide +kernel
theorem dX8_drownsIn_1 : decode cX8_drownsIn 1 = .ok (.iload_n 1, 1) := by decide +kernel
theorem dX8_drownsIn_2 : decode cX8_drownsIn 2 = .ok (.invokevirtual 200, 3) := by decide +kernel
theorem dX8_drownsIn_5 : decode cX8_drownsIn 5 = .ok (.iload_n 2, 1) := by decide +kernel
theorem dX8_drownsIn_6 : decode cX8_drownsIn 6 = .ok (.invokestatic 260, 3) := by decide +kernel
theorem dX8_drownsIn_9 : decode cX8_drownsIn 9 = .ok (.aload_n 0, 1) := by decide +kernel
theorem dX8_drownsIn_10 : decode cX8_drownsIn 10 = .ok (.getfield 26, 3) := by decide +kernel
theorem dX8_drownsIn_13 : decode cX8_drownsIn 13 = .ok (.getfield 174, 3) := by decide +kernel
theorem dX8_drownsIn_16 : decode cX8_drownsIn 16 = .ok (.iload_n 1, 1) := by decide +kernel
theorem dX8_drownsIn_17 : decode cX8_drownsIn 17 = .ok (.iload_n 2, 1) := by decide +kernel
theorem dX8_drownsIn_18 : decode cX8_drownsIn 18 = .ok (.iconst 0, 1) := by decide +kernel
theorem dX8_drownsIn_19 : decode cX8_drownsIn 19 = .ok (.invokevirtual 385, 3) := by decide +kernel
theorem dX8_drownsIn_22 : decode cX8_drownsIn 22 = .ok (.ifCond .ne 5, 3) := by decide +kernel
theorem dX8_drownsIn_25 : decode cX8_drownsIn 25 = .ok (.iconst (-1), 1) := by decide +kernel
theorem dX8_drownsIn_26 : decode cX8_drownsIn 26 = .ok (.ireturn, 1) := by decide +kernel
theorem dX8_drownsIn_27 : decode cX8_drownsIn 27 = .ok (.iconst 0, 1) := by decide +kernel
theorem dX8_drownsIn_28 : decode cX8_drownsIn 28 = .ok (.istore_n 3, 1) := by decide +kernel
theorem dX8_drownsIn_29 : decode cX8_drownsIn 29 = .ok (.iload_n 3, 1) := by decide +kernel
theorem dX8_drownsIn_30 : decode cX8_drownsIn 30 = .ok (.bipush 20, 2) := by decide +kernel
theorem dX8_drownsIn_32 : decode cX8_drownsIn 32 = .ok (.if_icmp .gt 29, 3) := by decide +kernel
theorem dX8_drownsIn_35 : decode cX8_drownsIn 35 = .ok (.aload_n 0, 1) := by decide +kernel
theorem dX8_drownsIn_36 : decode cX8_drownsIn 36 = .ok (.getfield 26, 3) := by decide +kernel
theorem dX8_drownsIn_39 : decode cX8_drownsIn 39 = .ok (.getfield 174, 3) := by decide +kernel
theorem dX8_drownsIn_42 : decode cX8_drownsIn 42 = .ok (.iload_n 1, 1) := by decide +kernel
theorem dX8_drownsIn_43 : decode cX8_drownsIn 43 = .ok (.iload_n 2, 1) := by decide +kernel
theorem dX8_drownsIn_44 : decode cX8_drownsIn 44 = .ok (.iload_n 3, 1) := by decide +kernel
theorem dX8_drownsIn_45 : decode cX8_drownsIn 45 = .ok (.invokevirtual 385, 3) := by decide +kernel
theorem dX8_drownsIn_48 : decode cX8_drownsIn 48 = .ok (.bipush 20, 2) := by decide +kernel
theorem dX8_drownsIn_50 : decode cX8_drownsIn 50 = .ok (.if_icmp .le 5, 3) := by decide +kernel
theorem dX8_drownsIn_53 : decode cX8_drownsIn 53 = .ok (.iload_n 3, 1) := by decide +kernel
theorem dX8_drownsIn_54 : decode cX8_drownsIn 54 = .ok (.ireturn, 1) := by decide +kernel
theorem dX8_drownsIn_55 : decode cX8_drownsIn 55 = .ok (.iinc 3 1, 3) := by decide +kernel
theorem dX8_drownsIn_58 : decode cX8_drownsIn 58 = .ok (.goto (-29), 3) := by decide +kernel
theorem dX8_drownsIn_61 : decode cX8_drownsIn 61 = .ok (.iconst (-1), 1) := by decide +kernel
theorem dX8_drownsIn_62 : decode cX8_drownsIn 62 = .ok (.ireturn, 1) := by decide +kernel
theorem dX8_work_0 : decode cX8_work 0 = .ok (.aload_n 0, 1) := by decide +kernel
theorem dX8_work_1 : decode cX8_work 1 = .ok (.iload_n 1, 1) := by decide +kernel
theorem dX8_work_2 : decode cX8_work 2 = .ok (.invokevirtual 200, 3) := by decide +kernel
theorem dX8_work_5 : decode cX8_work 5 = .ok (.iload_n 2, 1) := by decide +kernel
theorem dX8_work_6 : decode cX8_work 6 = .ok (.invokestatic 260, 3) := by decide +kernel
theorem dX8_work_9 : decode cX8_work 9 = .ok (.iload_n 3, 1) := by decide +kernel
theorem dX8_work_10 : decode cX8_work 10 = .ok (.iconst 1, 1) := by decide +kernel
theorem dX8_work_11 : decode cX8_work 11 = .ok (.bipush 20, 2) := by decide +kernel
theorem dX8_work_13 : decode cX8_work 13 = .ok (.invokestatic 86, 3) := by decide +kernel
theorem dX8_work_16 : decode cX8_work 16 = .ok (.aload_n 0, 1) := by decide +kernel
theorem dX8_work_17 : decode cX8_work 17 = .ok (.iload_n 1, 1) := by decide +kernel
theorem dX8_work_18 : decode cX8_work 18 = .ok (.iload_n 2, 1) := by decide +kernel
theorem dX8_work_19 : decode cX8_work 19 = .ok (.iload_n 3, 1) := by decide +kernel
theorem dX8_work_20 : decode cX8_work 20 = .ok (.invokevirtual 139, 3) := by decide +kernel
theorem dX8_work_23 : decode cX8_work 23 = .ok (.ireturn, 1) := by decide +kernel
theorem dX8_swap_0 : decode cX8_swap 0 = .ok (.aload_n 0, 1) := by decide +kernel
theorem dX8_swap_1 : decode cX8_swap 1 = .ok (.iload_n 1, 1) := by decide +kernel
theorem dX8_swap_2 : decode cX8_swap 2 = .ok (.iload_n 2, 1) := by decide +kernel
theorem dX8_swap_3 : decode cX8_swap 3 = .ok (.iload_n 3, 1) := by decide +kernel
theorem dX8_swap_4 : decode cX8_swap 4 = .ok (.iload 4, 2) := by decide +kernel
theorem dX8_swap_6 : decode cX8_swap 6 = .ok (.invokevirtual 373, 3) := by decide +kernel
theorem dX8_swap_9 : decode cX8_swap 9 = .ok (.aload_n 0, 1) := by decide +kernel
theorem dX8_swap_10 : decode cX8_swap 10 = .ok (.iload_n 1, 1) := by decide +kernel
theorem dX8_swap_11 : decode cX8_swap 11 = .ok (.iload_n 2, 1) := by decide +kernel
theorem dX8_swap_12 : decode cX8_swap 12 = .ok (.iload_n 3, 1) := by decide +kernel
theorem dX8_swap_13 : decode cX8_swap 13 = .ok (.iload 4, 2) := by decide +kernel
theorem dX8_swap_15 : decode cX8_swap 15 = .ok (.invokevirtual 143, 3) := by decide +kernel
theorem dX8_swap_18 : decode cX8_swap 18 = .ok (.ireturn, 1) := by decide +kernel
theorem dX8_lend_0 : decode cX8_lend 0 = .ok (.aload_n 0, 1) := by decide +kernel
theorem dX8_lend_1 : decode cX8_lend 1 = .ok (.iload_n 1, 1) := by decide +kernel
theorem dX8_lend_2 : decode cX8_lend 2 = .ok (.iload_n 2, 1) := by decide +kernel
theorem dX8_lend_3 : decode cX8_lend 3 = .ok (.iload_n 3, 1) := by decide +kernel
theorem dX8_lend_4 : decode cX8_lend 4 = .ok (.iload 4, 2) := by decide +kernel
theorem dX8_lend_6 : decode cX8_lend 6 = .ok (.invokevirtual 379, 3) := by decide +kernel
theorem dX8_lend_9 : decode cX8_lend 9 = .ok (.aload_n 0, 1) := by decide +kernel
theorem dX8_lend_10 : decode cX8_lend 10 = .ok (.iload_n 1, 1) := by decide +kernel
theorem dX8_lend_11 : decode cX8_lend 11 = .ok (.iload_n 2, 1) := by decide +kernel
theorem dX8_lend_12 : decode cX8_lend 12 = .ok (.iload_n 3, 1) := by decide +kernel
theorem dX8_lend_13 : decode cX8_lend 13 = .ok (.iload 4, 2) := by decide +kernel
theorem dX8_lend_15 : decode cX8_lend 15 = .ok (.invokevirtual 147, 3) := by decide +kernel
theorem dX8_lend_18 : decode cX8_lend 18 = .ok (.ireturn, 1) := by decide +kernel
theorem dX8_payBack_0 : decode cX8_payBack 0 = .ok (.aload_n 0, 1) := by decide +kernel
theorem dX8_payBack_1 : decode cX8_payBack 1 = .ok (.iload_n 1, 1) := by decide +kernel
theorem dX8_payBack_2 : decode cX8_payBack 2 = .ok (.iload_n 2, 1) := by decide +kernel
theorem dX8_payBack_3 : decode cX8_payBack 3 = .ok (.iload_n 3, 1) := by decide +kernel
theorem dX8_payBack_4 : decode cX8_payBack 4 = .ok (.iload 4, 2) := by decide +kernel
theorem dX8_payBack_6 : decode cX8_payBack 6 = .ok (.invokevirtual 379, 3) := by decide +kernel
theorem dX8_payBack_9 : decode cX8_payBack 9 = .ok (.aload_n 0, 1) := by decide +kernel
theorem dX8_payBack_10 : decode cX8_payBack 10 = .ok (.iload_n 1, 1) := by decide +kernel
theorem dX8_payBack_11 : decode cX8_payBack 11 = .ok (.iload_n 2, 1) := by decide +kernel
theorem dX8_payBack_12 : decode cX8_payBack 12 = .ok (.iload_n 3, 1) := by decide +kernel
theorem dX8_payBack_13 : decode cX8_payBack 13 = .ok (.iload 4, 2) := by decide +kernel
theorem dX8_payBack_15 : decode cX8_payBack 15 = .ok (.invokevirtual 150, 3) := by decide +kernel
theorem dX8_payBack_18 : decode cX8_payBack 18 = .ok (.ireturn, 1) := by decide +kernel
theorem dX8_move_0 : decode cX8_move 0 = .ok (.aload_n 0, 1) := by decide +kernel
theorem dX8_move_1 : decode cX8_move 1 = .ok (.iload_n 1, 1) := by decide +kernel
theorem dX8_move_2 : decode cX8_move 2 = .ok (.invokevirtual 200, 3) := by decide +kernel
theorem dX8_move_5 : decode cX8_move 5 = .ok (.iload_n 2, 1) := by decide +kernel
theorem dX8_move_6 : decode cX8_move 6 = .ok (.iload_n 3, 1) := by decide +kernel
theorem dX8_move_7 : decode cX8_move 7 = .ok (.invokestatic 300, 3) := by decide +kernel
theorem dX8_move_10 : decode cX8_move 10 = .ok (.aload_n 0, 1) := by decide +kernel
theorem dX8_move_11 : decode cX8_move 11 = .ok (.iload_n 1, 1) := by decide +kernel
theorem dX8_move_12 : decode cX8_move 12 = .ok (.iload_n 2, 1) := by decide +kernel
theorem dX8_move_13 : decode cX8_move 13 = .ok (.iload_n 3, 1) := by decide +kernel
theorem dX8_move_14 : decode cX8_move 14 = .ok (.invokevirtual 153, 3) := by decide +kernel
theorem dX8_move_17 : decode cX8_move 17 = .ok (.ireturn, 1) := by decide +kernel
theorem dX8_confess_0 : decode cX8_confess 0 = .ok (.aload_n 0, 1) := by decide +kernel
theorem dX8_confess_1 : decode cX8_confess 1 = .ok (.iload_n 1, 1) := by decide +kernel
theorem dX8_confess_2 : decode cX8_confess 2 = .ok (.invokevirtual 200, 3) := by decide +kernel
theorem dX8_confess_5 : decode cX8_confess 5 = .ok (.aload_n 0, 1) := by decide +kernel
theorem dX8_confess_6 : decode cX8_confess 6 = .ok (.iload_n 1, 1) := by decide +kernel
theorem dX8_confess_7 : decode cX8_confess 7 = .ok (.invokevirtual 156, 3) := by decide +kernel
theorem dX8_confess_10 : decode cX8_confess 10 = .ok (.ireturn, 1) := by decide +kernel
theorem dX8_pass_0 : decode cX8_pass 0 = .ok (.iload_n 1, 1) := by decide +kernel
theorem dX8_pass_1 : decode cX8_pass 1 = .ok (.iconst 1, 1) := by decide +kernel
theorem dX8_pass_2 : decode cX8_pass 2 = .ok (.bipush 10, 2) := by decide +kernel
theorem dX8_pass_4 : decode cX8_pass 4 = .ok (.invokestatic 86, 3) := by decide +kernel
theorem dX8_pass_7 : decode cX8_pass 7 = .ok (.aload_n 0, 1) := by decide +kernel
theorem dX8_pass_8 : decode cX8_pass 8 = .ok (.iload_n 1, 1) := by decide +kernel
theorem dX8_pass_9 : decode cX8_pass 9 = .ok (.invokevirtual 132, 3) := by decide +kernel
theorem dX8_pass_12 : decode cX8_pass 12 = .ok (.ireturn, 1) := by decide +kernel
theorem dX8_doWork_0 : decode cX8_doWork 0 = .ok (.aload_n 0, 1) := by decide +kernel
theorem dX8_doWork_1 : decode cX8_doWork 1 = .ok (.getfield 26, 3) := by decide +kernel
theorem dX8_doWork_4 : decode cX8_doWork 4 = .ok (.iload_n 1, 1) := by decide +kernel
theorem dX8_doWork_5 : decode cX8_doWork 5 = .ok (.iload_n 2, 1) := by decide +kernel
theorem dX8_doWork_6 : decode cX8_doWork 6 = .ok (.iload_n 3, 1) := by decide +kernel
theorem dX8_doWork_7 : decode cX8_doWork 7 = .ok (.invokevirtual 388, 3) := by decide +kernel
theorem dX8_doWork_10 : decode cX8_doWork 10 = .ok (.istore 4, 2) := by decide +kernel
theorem dX8_doWork_12 : decode cX8_doWork 12 = .ok (.iload 4, 2) := by decide +kernel
theorem dX8_doWork_14 : decode cX8_doWork 14 = .ok (.ifCond .eq 10, 3) := by decide +kernel
theorem dX8_doWork_17 : decode cX8_doWork 17 = .ok (.aload_n 0, 1) := by decide +kernel
theorem dX8_doWork_18 : decode cX8_doWork 18 = .ok (.iload 4, 2) := by decide +kernel
theorem dX8_doWork_20 : decode cX8_doWork 20 = .ok (.invokevirtual 391, 3) := by decide +kernel
theorem dX8_doWork_23 : decode cX8_doWork 23 = .ok (.ireturn, 1) := by decide +kernel
theorem dX8_doWork_24 : decode cX8_doWork 24 = .ok (.aload_n 0, 1) := by decide +kernel
theorem dX8_doWork_25 : decode cX8_doWork 25 = .ok (.getfield 36, 3) := by decide +kernel
theorem dX8_doWork_28 : decode cX8_doWork 28 = .ok (.aload_n 0, 1) := by decide +kernel
theorem dX8_doWork_29 : decode cX8_doWork 29 = .ok (.getfield 26, 3) := by decide +kernel
theorem dX8_doWork_32 : decode cX8_doWork 32 = .ok (.invokevirtual 394, 3) := by decide +kernel
theorem dX8_doWork_35 : decode cX8_doWork 35 = .ok (.aload_n 0, 1) := by decide +kernel
theorem dX8_doWork_36 : decode cX8_doWork 36 = .ok (.getfield 26, 3) := by decide +kernel
theorem dX8_doWork_39 : decode cX8_doWork 39 = .ok (.iload_n 1, 1) := by decide +kernel
theorem dX8_doWork_40 : decode cX8_doWork 40 = .ok (.iload_n 2, 1) := by decide +kernel
theorem dX8_doWork_41 : decode cX8_doWork 41 = .ok (.iload_n 3, 1) := by decide +kernel
theorem dX8_doWork_42 : decode cX8_doWork 42 = .ok (.invokevirtual 397, 3) := by decide +kernel
theorem dX8_doWork_45 : decode cX8_doWork 45 = .ok (.ireturn, 1) := by decide +kernel
theorem dX8_doSwap_0 : decode cX8_doSwap 0 = .ok (.aload_n 0, 1) := by decide +kernel
theorem dX8_doSwap_1 : decode cX8_doSwap 1 = .ok (.getfield 26, 3) := by decide +kernel
theorem dX8_doSwap_4 : decode cX8_doSwap 4 = .ok (.iload_n 1, 1) := by decide +kernel
theorem dX8_doSwap_5 : decode cX8_doSwap 5 = .ok (.iload_n 2, 1) := by decide +kernel
theorem dX8_doSwap_6 : decode cX8_doSwap 6 = .ok (.iload_n 3, 1) := by decide +kernel
theorem dX8_doSwap_7 : decode cX8_doSwap 7 = .ok (.iload 4, 2) := by decide +kernel
theorem dX8_doSwap_9 : decode cX8_doSwap 9 = .ok (.invokevirtual 376, 3) := by decide +kernel
theorem dX8_doSwap_12 : decode cX8_doSwap 12 = .ok (.istore 5, 2) := by decide +kernel
theorem dX8_doSwap_14 : decode cX8_doSwap 14 = .ok (.iload 5, 2) := by decide +kernel
theorem dX8_doSwap_16 : decode cX8_doSwap 16 = .ok (.ifCond .eq 10, 3) := by decide +kernel
theorem dX8_doSwap_19 : decode cX8_doSwap 19 = .ok (.aload_n 0, 1) := by decide +kernel
theorem dX8_doSwap_20 : decode cX8_doSwap 20 = .ok (.iload 5, 2) := by decide +kernel
theorem dX8_doSwap_22 : decode cX8_doSwap 22 = .ok (.invokevirtual 391, 3) := by decide +kernel
theorem dX8_doSwap_25 : decode cX8_doSwap 25 = .ok (.ireturn, 1) := by decide +kernel
theorem dX8_doSwap_26 : decode cX8_doSwap 26 = .ok (.aload_n 0, 1) := by decide +kernel
theorem dX8_doSwap_27 : decode cX8_doSwap 27 = .ok (.getfield 36, 3) := by decide +kernel
theorem dX8_doSwap_30 : decode cX8_doSwap 30 = .ok (.aload_n 0, 1) := by decide +kernel
theorem dX8_doSwap_31 : decode cX8_doSwap 31 = .ok (.getfield 26, 3) := by decide +kernel
theorem dX8_doSwap_34 : decode cX8_doSwap 34 = .ok (.invokevirtual 394, 3) := by decide +kernel
theorem dX8_doSwap_37 : decode cX8_doSwap 37 = .ok (.aload_n 0, 1) := by decide +kernel
theorem dX8_doSwap_38 : decode cX8_doSwap 38 = .ok (.getfield 26, 3) := by decide +kernel
theorem dX8_doSwap_41 : decode cX8_doSwap 41 = .ok (.iload_n 1, 1) := by decide +kernel
theorem dX8_doSwap_42 : decode cX8_doSwap 42 = .ok (.iload_n 2, 1) := by decide +kernel
theorem dX8_doSwap_43 : decode cX8_doSwap 43 = .ok (.iload_n 3, 1) := by decide +kernel
theorem dX8_doSwap_44 : decode cX8_doSwap 44 = .ok (.iload 4, 2) := by decide +kernel
theorem dX8_doSwap_46 : decode cX8_doSwap 46 = .ok (.invokevirtual 400, 3) := by decide +kernel
theorem dX8_doSwap_49 : decode cX8_doSwap 49 = .ok (.ireturn, 1) := by decide +kernel
theorem dX8_doLend_0 : decode cX8_doLend 0 = .ok (.aload_n 0, 1) := by decide +kernel
theorem dX8_doLend_1 : decode cX8_doLend 1 = .ok (.getfield 26, 3) := by decide +kernel
theorem dX8_doLend_4 : decode cX8_doLend 4 = .ok (.iload_n 1, 1) := by decide +kernel
theorem dX8_doLend_5 : decode cX8_doLend 5 = .ok (.iload_n 2, 1) := by decide +kernel
theorem dX8_doLend_6 : decode cX8_doLend 6 = .ok (.iload_n 3, 1) := by decide +kernel
theorem dX8_doLend_7 : decode cX8_doLend 7 = .ok (.iload 4, 2) := by decide +kernel
theorem dX8_doLend_9 : decode cX8_doLend 9 = .ok (.invokevirtual 382, 3) := by decide +kernel
theorem dX8_doLend_12 : decode cX8_doLend 12 = .ok (.istore 5, 2) := by decide +kernel
theorem dX8_doLend_14 : decode cX8_doLend 14 = .ok (.iload 5, 2) := by decide +kernel
theorem dX8_doLend_16 : decode cX8_doLend 16 = .ok (.ifCond .eq 10, 3) := by decide +kernel
theorem dX8_doLend_19 : decode cX8_doLend 19 = .ok (.aload_n 0, 1) := by decide +kernel
theorem dX8_doLend_20 : decode cX8_doLend 20 = .ok (.iload 5, 2) := by decide +kernel
theorem dX8_doLend_22 : decode cX8_doLend 22 = .ok (.invokevirtual 391, 3) := by decide +kernel
theorem dX8_doLend_25 : decode cX8_doLend 25 = .ok (.ireturn, 1) := by decide +kernel
theorem dX8_doLend_26 : decode cX8_doLend 26 = .ok (.aload_n 0, 1) := by decide +kernel
theorem dX8_doLend_27 : decode cX8_doLend 27 = .ok (.getfield 36, 3) := by decide +kernel
theorem dX8_doLend_30 : decode cX8_doLend 30 = .ok (.aload_n 0, 1) := by decide +kernel
theorem dX8_doLend_31 : decode cX8_doLend 31 = .ok (.getfield 26, 3) := by decide +kernel
theorem dX8_doLend_34 : decode cX8_doLend 34 = .ok (.invokevirtual 394, 3) := by decide +kernel
theorem dX8_doLend_37 : decode cX8_doLend 37 = .ok (.aload_n 0, 1) := by decide +kernel
theorem dX8_doLend_38 : decode cX8_doLend 38 = .ok (.getfield 26, 3) := by decide +kernel
theorem dX8_doLend_41 : decode cX8_doLend 41 = .ok (.iload_n 1, 1) := by decide +kernel
theorem dX8_doLend_42 : decode cX8_doLend 42 = .ok (.iload_n 2, 1) := by decide +kernel
theorem dX8_doLend_43 : decode cX8_doLend 43 = .ok (.iload_n 3, 1) := by decide +kernel
theorem dX8_doLend_44 : decode cX8_doLend 44 = .ok (.iload 4, 2) := by decide +kernel
theorem dX8_doLend_46 : decode cX8_doLend 46 = .ok (.invokevirtual 403, 3) := by decide +kernel
theorem dX8_doLend_49 : decode cX8_doLend 49 = .ok (.ireturn, 1) := by decide +kernel
theorem dX8_doPay_0 : decode cX8_doPay 0 = .ok (.aload_n 0, 1) := by decide +kernel
theorem dX8_doPay_1 : decode cX8_doPay 1 = .ok (.getfield 26, 3) := by decide +kernel
theorem dX8_doPay_4 : decode cX8_doPay 4 = .ok (.iload_n 1, 1) := by decide +kernel
theorem dX8_doPay_5 : decode cX8_doPay 5 = .ok (.iload_n 2, 1) := by decide +kernel
theorem dX8_doPay_6 : decode cX8_doPay 6 = .ok (.iload_n 3, 1) := by decide +kernel
theorem dX8_doPay_7 : decode cX8_doPay 7 = .ok (.iload 4, 2) := by decide +kernel
theorem dX8_doPay_9 : decode cX8_doPay 9 = .ok (.invokevirtual 344, 3) := by decide +kernel
theorem dX8_doPay_12 : decode cX8_doPay 12 = .ok (.istore 5, 2) := by decide +kernel
theorem dX8_doPay_14 : decode cX8_doPay 14 = .ok (.iload 5, 2) := by decide +kernel
theorem dX8_doPay_16 : decode cX8_doPay 16 = .ok (.ifCond .eq 10, 3) := by decide +kernel
theorem dX8_doPay_19 : decode cX8_doPay 19 = .ok (.aload_n 0, 1) := by decide +kernel
theorem dX8_doPay_20 : decode cX8_doPay 20 = .ok (.iload 5, 2) := by decide +kernel
theorem dX8_doPay_22 : decode cX8_doPay 22 = .ok (.invokevirtual 391, 3) := by decide +kernel
theorem dX8_doPay_25 : decode cX8_doPay 25 = .ok (.ireturn, 1) := by decide +kernel
theorem dX8_doPay_26 : decode cX8_doPay 26 = .ok (.aload_n 0, 1) := by decide +kernel
theorem dX8_doPay_27 : decode cX8_doPay 27 = .ok (.getfield 36, 3) := by decide +kernel
theorem dX8_doPay_30 : decode cX8_doPay 30 = .ok (.aload_n 0, 1) := by decide +kernel
theorem dX8_doPay_31 : decode cX8_doPay 31 = .ok (.getfield 26, 3) := by decide +kernel
theorem dX8_doPay_34 : decode cX8_doPay 34 = .ok (.invokevirtual 394, 3) := by decide +kernel
theorem dX8_doPay_37 : decode cX8_doPay 37 = .ok (.aload_n 0, 1) := by decide +kernel
theorem dX8_doPay_38 : decode cX8_doPay 38 = .ok (.getfield 26, 3) := by decide +kernel
theorem dX8_doPay_41 : decode cX8_doPay 41 = .ok (.iload_n 1, 1) := by decide +kernel
theorem dX8_doPay_42 : decode cX8_doPay 42 = .ok (.iload_n 2, 1) := by decide +kernel
theorem dX8_doPay_43 : decode cX8_doPay 43 = .ok (.iload_n 3, 1) := by decide +kernel
theorem dX8_doPay_44 : decode cX8_doPay 44 = .ok (.iload 4, 2) := by decide +kernel
theorem dX8_doPay_46 : decode cX8_doPay 46 = .ok (.invokevirtual 406, 3) := by decide +kernel
theorem dX8_doPay_49 : decode cX8_doPay 49 = .ok (.ireturn, 1) := by decide +kernel
theorem dX8_doMove_0 : decode cX8_doMove 0 = .ok (.aload_n 0, 1) := by decide +kernel
theorem dX8_doMove_1 : decode cX8_doMove 1 = .ok (.getfield 26, 3) := by decide +kernel
theorem dX8_doMove_4 : decode cX8_doMove 4 = .ok (.iload_n 1, 1) := by decide +kernel
theorem dX8_doMove_5 : decode cX8_doMove 5 = .ok (.iload_n 2, 1) := by decide +kernel
theorem dX8_doMove_6 : decode cX8_doMove 6 = .ok (.iload_n 3, 1) := by decide +kernel
theorem dX8_doMove_7 : decode cX8_doMove 7 = .ok (.invokevirtual 409, 3) := by decide +kernel
theorem dX8_doMove_10 : decode cX8_doMove 10 = .ok (.istore 4, 2) := by decide +kernel
theorem dX8_doMove_12 : decode cX8_doMove 12 = .ok (.iload 4, 2) := by decide +kernel
theorem dX8_doMove_14 : decode cX8_doMove 14 = .ok (.ifCond .eq 10, 3) := by decide +kernel
theorem dX8_doMove_17 : decode cX8_doMove 17 = .ok (.aload_n 0, 1) := by decide +kernel
theorem dX8_doMove_18 : decode cX8_doMove 18 = .ok (.iload 4, 2) := by decide +kernel
theorem dX8_doMove_20 : decode cX8_doMove 20 = .ok (.invokevirtual 391, 3) := by decide +kernel
theorem dX8_doMove_23 : decode cX8_doMove 23 = .ok (.ireturn, 1) := by decide +kernel
theorem dX8_doMove_24 : decode cX8_doMove 24 = .ok (.aload_n 0, 1) := by decide +kernel
theorem dX8_doMove_25 : decode cX8_doMove 25 = .ok (.getfield 36, 3) := by decide +kernel
theorem dX8_doMove_28 : decode cX8_doMove 28 = .ok (.aload_n 0, 1) := by decide +kernel
theorem dX8_doMove_29 : decode cX8_doMove 29 = .ok (.getfield 26, 3) := by decide +kernel
theorem dX8_doMove_32 : decode cX8_doMove 32 = .ok (.invokevirtual 394, 3) := by decide +kernel
theorem dX8_doMove_35 : decode cX8_doMove 35 = .ok (.aload_n 0, 1) := by decide +kernel
theorem dX8_doMove_36 : decode cX8_doMove 36 = .ok (.getfield 26, 3) := by decide +kernel
theorem dX8_doMove_39 : decode cX8_doMove 39 = .ok (.iload_n 1, 1) := by decide +kernel
theorem dX8_doMove_40 : decode cX8_doMove 40 = .ok (.iload_n 2, 1) := by decide +kernel
theorem dX8_doMove_41 : decode cX8_doMove 41 = .ok (.iload_n 3, 1) := by decide +kernel
theorem dX8_doMove_42 : decode cX8_doMove 42 = .ok (.invokevirtual 412, 3) := by decide +kernel
theorem dX8_doMove_45 : decode cX8_doMove 45 = .ok (.ireturn, 1) := by decide +kernel
theorem dX8_doConfess_0 : decode cX8_doConfess 0 = .ok (.aload_n 0, 1) := by decide +kernel
theorem dX8_doConfess_1 : decode cX8_doConfess 1 = .ok (.getfield 26, 3) := by decide +kernel
theorem dX8_doConfess_4 : decode cX8_doConfess 4 = .ok (.getfield 203, 3) := by decide +kernel
theorem dX8_doConfess_7 : decode cX8_doConfess 7 = .ok (.iload_n 1, 1) := by decide +kernel
theorem dX8_doConfess_8 : decode cX8_doConfess 8 = .ok (.aaload, 1) := by decide +kernel
theorem dX8_doConfess_9 : decode cX8_doConfess 9 = .ok (.getfield 225, 3) := by decide +kernel
theorem dX8_doConfess_12 : decode cX8_doConfess 12 = .ok (.ifCond .ne 10, 3) := by decide +kernel
theorem dX8_doConfess_15 : decode cX8_doConfess 15 = .ok (.aload_n 0, 1) := by decide +kernel
theorem dX8_doConfess_16 : decode cX8_doConfess 16 = .ok (.bipush 8, 2) := by decide +kernel
theorem dX8_doConfess_18 : decode cX8_doConfess 18 = .ok (.invokevirtual 391, 3) := by decide +kernel
theorem dX8_doConfess_21 : decode cX8_doConfess 21 = .ok (.ireturn, 1) := by decide +kernel
theorem dX8_doConfess_22 : decode cX8_doConfess 22 = .ok (.aload_n 0, 1) := by decide +kernel
theorem dX8_doConfess_23 : decode cX8_doConfess 23 = .ok (.getfield 36, 3) := by decide +kernel
theorem dX8_doConfess_26 : decode cX8_doConfess 26 = .ok (.aload_n 0, 1) := by decide +kernel
theorem dX8_doConfess_27 : decode cX8_doConfess 27 = .ok (.getfield 26, 3) := by decide +kernel
theorem dX8_doConfess_30 : decode cX8_doConfess 30 = .ok (.invokevirtual 394, 3) := by decide +kernel
theorem dX8_doConfess_33 : decode cX8_doConfess 33 = .ok (.aload_n 0, 1) := by decide +kernel
theorem dX8_doConfess_34 : decode cX8_doConfess 34 = .ok (.getfield 26, 3) := by decide +kernel
theorem dX8_doConfess_37 : decode cX8_doConfess 37 = .ok (.getfield 203, 3) := by decide +kernel
theorem dX8_doConfess_40 : decode cX8_doConfess 40 = .ok (.iload_n 1, 1) := by decide +kernel
theorem dX8_doConfess_41 : decode cX8_doConfess 41 = .ok (.aaload, 1) := by decide +kernel
theorem dX8_doConfess_42 : decode cX8_doConfess 42 = .ok (.invokevirtual 415, 3) := by decide +kernel
theorem dX8_doConfess_45 : decode cX8_doConfess 45 = .ok (.ireturn, 1) := by decide +kernel
theorem dX8_doPass_0 : decode cX8_doPass 0 = .ok (.aload_n 0, 1) := by decide +kernel
theorem dX8_doPass_1 : decode cX8_doPass 1 = .ok (.getfield 26, 3) := by decide +kernel
theorem dX8_doPass_4 : decode cX8_doPass 4 = .ok (.getfield 159, 3) := by decide +kernel
theorem dX8_doPass_7 : decode cX8_doPass 7 = .ok (.iload_n 1, 1) := by decide +kernel
theorem dX8_doPass_8 : decode cX8_doPass 8 = .ok (.iadd, 1) := by decide +kernel
theorem dX8_doPass_9 : decode cX8_doPass 9 = .ok (.sipush 999, 3) := by decide +kernel
theorem dX8_doPass_12 : decode cX8_doPass 12 = .ok (.if_icmp .le 10, 3) := by decide +kernel
theorem dX8_doPass_15 : decode cX8_doPass 15 = .ok (.aload_n 0, 1) := by decide +kernel
theorem dX8_doPass_16 : decode cX8_doPass 16 = .ok (.bipush 10, 2) := by decide +kernel
theorem dX8_doPass_18 : decode cX8_doPass 18 = .ok (.invokevirtual 391, 3) := by decide +kernel
theorem dX8_doPass_21 : decode cX8_doPass 21 = .ok (.ireturn, 1) := by decide +kernel
theorem dX8_doPass_22 : decode cX8_doPass 22 = .ok (.aload_n 0, 1) := by decide +kernel
theorem dX8_doPass_23 : decode cX8_doPass 23 = .ok (.getfield 36, 3) := by decide +kernel
theorem dX8_doPass_26 : decode cX8_doPass 26 = .ok (.aload_n 0, 1) := by decide +kernel
theorem dX8_doPass_27 : decode cX8_doPass 27 = .ok (.getfield 26, 3) := by decide +kernel
theorem dX8_doPass_30 : decode cX8_doPass 30 = .ok (.invokevirtual 394, 3) := by decide +kernel
theorem dX8_doPass_33 : decode cX8_doPass 33 = .ok (.iconst 0, 1) := by decide +kernel
theorem dX8_doPass_34 : decode cX8_doPass 34 = .ok (.istore_n 2, 1) := by decide +kernel
theorem dX8_doPass_35 : decode cX8_doPass 35 = .ok (.iconst 0, 1) := by decide +kernel
theorem dX8_doPass_36 : decode cX8_doPass 36 = .ok (.istore_n 3, 1) := by decide +kernel
theorem dX8_doPass_37 : decode cX8_doPass 37 = .ok (.iload_n 3, 1) := by decide +kernel
