theorem dX9_lend_19 : decode cX9_lend 19 = .ok (.ifCond .eq 7, 3) := by decide +kernel
theorem dX9_lend_22 : decode cX9_lend 22 = .ok (.iconst 1, 1) := by decide +kernel
theorem dX9_lend_23 : decode cX9_lend 23 = .ok (.goto 4, 3) := by decide +kernel
theorem dX9_lend_26 : decode cX9_lend 26 = .ok (.iconst 0, 1) := by decide +kernel
theorem dX9_lend_27 : decode cX9_lend 27 = .ok (.iconst 1, 1) := by decide +kernel
theorem dX9_lend_28 : decode cX9_lend 28 = .ok (.invokevirtual 158, 3) := by decide +kernel
theorem dX9_lend_31 : decode cX9_lend 31 = .ok (.ifCond .eq 36, 3) := by decide +kernel
theorem dX9_lend_34 : decode cX9_lend 34 = .ok (.aload_n 0, 1) := by decide +kernel
theorem dX9_lend_35 : decode cX9_lend 35 = .ok (.iload_n 3, 1) := by decide +kernel
theorem dX9_lend_36 : decode cX9_lend 36 = .ok (.iconst 0, 1) := by decide +kernel
theorem dX9_lend_37 : decode cX9_lend 37 = .ok (.iconst 1, 1) := by decide +kernel
theorem dX9_lend_38 : decode cX9_lend 38 = .ok (.invokestatic 162, 3) := by decide +kernel
theorem dX9_lend_41 : decode cX9_lend 41 = .ok (.ifCond .eq 18, 3) := by decide +kernel
theorem dX9_lend_44 : decode cX9_lend 44 = .ok (.iload 4, 2) := by decide +kernel
theorem dX9_lend_46 : decode cX9_lend 46 = .ok (.iconst 1, 1) := by decide +kernel
theorem dX9_lend_47 : decode cX9_lend 47 = .ok (.bipush 20, 2) := by decide +kernel
theorem dX9_lend_49 : decode cX9_lend 49 = .ok (.invokestatic 162, 3) := by decide +kernel
theorem dX9_lend_52 : decode cX9_lend 52 = .ok (.ifCond .eq 7, 3) := by decide +kernel
theorem dX9_lend_55 : decode cX9_lend 55 = .ok (.iconst 1, 1) := by decide +kernel
theorem dX9_lend_56 : decode cX9_lend 56 = .ok (.goto 4, 3) := by decide +kernel
theorem dX9_lend_59 : decode cX9_lend 59 = .ok (.iconst 0, 1) := by decide +kernel
theorem dX9_lend_60 : decode cX9_lend 60 = .ok (.iconst 2, 1) := by decide +kernel
theorem dX9_lend_61 : decode cX9_lend 61 = .ok (.invokevirtual 158, 3) := by decide +kernel
theorem dX9_lend_64 : decode cX9_lend 64 = .ok (.ifCond .ne 5, 3) := by decide +kernel
theorem dX9_lend_67 : decode cX9_lend 67 = .ok (.iconst 0, 1) := by decide +kernel
theorem dX9_lend_68 : decode cX9_lend 68 = .ok (.ireturn, 1) := by decide +kernel
theorem dX9_lend_69 : decode cX9_lend 69 = .ok (.aload_n 0, 1) := by decide +kernel
theorem dX9_lend_70 : decode cX9_lend 70 = .ok (.iload_n 1, 1) := by decide +kernel
theorem dX9_lend_71 : decode cX9_lend 71 = .ok (.iload_n 2, 1) := by decide +kernel
theorem dX9_lend_72 : decode cX9_lend 72 = .ok (.iload_n 3, 1) := by decide +kernel
theorem dX9_lend_73 : decode cX9_lend 73 = .ok (.iload 4, 2) := by decide +kernel
theorem dX9_lend_75 : decode cX9_lend 75 = .ok (.invokevirtual 327, 3) := by decide +kernel
theorem dX9_lend_78 : decode cX9_lend 78 = .ok (.istore 5, 2) := by decide +kernel
theorem dX9_lend_80 : decode cX9_lend 80 = .ok (.iload 5, 2) := by decide +kernel
theorem dX9_lend_82 : decode cX9_lend 82 = .ok (.ifCond .le 10, 3) := by decide +kernel
theorem dX9_lend_85 : decode cX9_lend 85 = .ok (.aload_n 0, 1) := by decide +kernel
theorem dX9_lend_86 : decode cX9_lend 86 = .ok (.iload 5, 2) := by decide +kernel
theorem dX9_lend_88 : decode cX9_lend 88 = .ok (.invokevirtual 345, 3) := by decide +kernel
theorem dX9_lend_91 : decode cX9_lend 91 = .ok (.ireturn, 1) := by decide +kernel
theorem dX9_lend_92 : decode cX9_lend 92 = .ok (.aload_n 0, 1) := by decide +kernel
theorem dX9_lend_93 : decode cX9_lend 93 = .ok (.invokevirtual 348, 3) := by decide +kernel
theorem dX9_lend_96 : decode cX9_lend 96 = .ok (.aload_n 0, 1) := by decide +kernel
theorem dX9_lend_97 : decode cX9_lend 97 = .ok (.iload_n 1, 1) := by decide +kernel
theorem dX9_lend_98 : decode cX9_lend 98 = .ok (.iload_n 2, 1) := by decide +kernel
theorem dX9_lend_99 : decode cX9_lend 99 = .ok (.iload_n 3, 1) := by decide +kernel
theorem dX9_lend_100 : decode cX9_lend 100 = .ok (.iload 4, 2) := by decide +kernel
theorem dX9_lend_102 : decode cX9_lend 102 = .ok (.invokevirtual 357, 3) := by decide +kernel
theorem dX9_lend_105 : decode cX9_lend 105 = .ok (.aload_n 0, 1) := by decide +kernel
theorem dX9_lend_106 : decode cX9_lend 106 = .ok (.iload_n 2, 1) := by decide +kernel
theorem dX9_lend_107 : decode cX9_lend 107 = .ok (.iload_n 1, 1) := by decide +kernel
theorem dX9_lend_108 : decode cX9_lend 108 = .ok (.iconst 1, 1) := by decide +kernel
theorem dX9_lend_109 : decode cX9_lend 109 = .ok (.iload_n 3, 1) := by decide +kernel
theorem dX9_lend_110 : decode cX9_lend 110 = .ok (.isub, 1) := by decide +kernel
theorem dX9_lend_111 : decode cX9_lend 111 = .ok (.iload 4, 2) := by decide +kernel
theorem dX9_lend_113 : decode cX9_lend 113 = .ok (.invokevirtual 364, 3) := by decide +kernel
theorem dX9_lend_116 : decode cX9_lend 116 = .ok (.aload_n 0, 1) := by decide +kernel
theorem dX9_lend_117 : decode cX9_lend 117 = .ok (.iconst 3, 1) := by decide +kernel
theorem dX9_lend_118 : decode cX9_lend 118 = .ok (.iconst 1, 1) := by decide +kernel
theorem dX9_lend_119 : decode cX9_lend 119 = .ok (.invokevirtual 117, 3) := by decide +kernel
theorem dX9_lend_122 : decode cX9_lend 122 = .ok (.aload_n 0, 1) := by decide +kernel
theorem dX9_lend_123 : decode cX9_lend 123 = .ok (.iload_n 1, 1) := by decide +kernel
theorem dX9_lend_124 : decode cX9_lend 124 = .ok (.iload_n 2, 1) := by decide +kernel
theorem dX9_lend_125 : decode cX9_lend 125 = .ok (.invokevirtual 361, 3) := by decide +kernel
theorem dX9_lend_128 : decode cX9_lend 128 = .ok (.istore 6, 2) := by decide +kernel
theorem dX9_lend_130 : decode cX9_lend 130 = .ok (.aload_n 0, 1) := by decide +kernel
theorem dX9_lend_131 : decode cX9_lend 131 = .ok (.iload_n 2, 1) := by decide +kernel
theorem dX9_lend_132 : decode cX9_lend 132 = .ok (.iload_n 1, 1) := by decide +kernel
theorem dX9_lend_133 : decode cX9_lend 133 = .ok (.iconst 1, 1) := by decide +kernel
theorem dX9_lend_134 : decode cX9_lend 134 = .ok (.iload_n 3, 1) := by decide +kernel
theorem dX9_lend_135 : decode cX9_lend 135 = .ok (.isub, 1) := by decide +kernel
theorem dX9_lend_136 : decode cX9_lend 136 = .ok (.invokevirtual 306, 3) := by decide +kernel
theorem dX9_lend_139 : decode cX9_lend 139 = .ok (.ireturn, 1) := by decide +kernel
theorem dX9_barsPaying_0 : decode cX9_barsPaying 0 = .ok (.iload_n 1, 1) := by decide +kernel
theorem dX9_barsPaying_1 : decode cX9_barsPaying 1 = .ok (.iload_n 2, 1) := by decide +kernel
theorem dX9_barsPaying_2 : decode cX9_barsPaying 2 = .ok (.if_icmp .ne 5, 3) := by decide +kernel
theorem dX9_barsPaying_5 : decode cX9_barsPaying 5 = .ok (.iconst 5, 1) := by decide +kernel
theorem dX9_barsPaying_6 : decode cX9_barsPaying 6 = .ok (.ireturn, 1) := by decide +kernel
theorem dX9_barsPaying_7 : decode cX9_barsPaying 7 = .ok (.aload_n 0, 1) := by decide +kernel
theorem dX9_barsPaying_8 : decode cX9_barsPaying 8 = .ok (.iload_n 1, 1) := by decide +kernel
theorem dX9_barsPaying_9 : decode cX9_barsPaying 9 = .ok (.iload_n 2, 1) := by decide +kernel
theorem dX9_barsPaying_10 : decode cX9_barsPaying 10 = .ok (.iload_n 3, 1) := by decide +kernel
theorem dX9_barsPaying_11 : decode cX9_barsPaying 11 = .ok (.invokevirtual 306, 3) := by decide +kernel
theorem dX9_barsPaying_14 : decode cX9_barsPaying 14 = .ok (.iload 4, 2) := by decide +kernel
theorem dX9_barsPaying_16 : decode cX9_barsPaying 16 = .ok (.if_icmp .ge 6, 3) := by decide +kernel
theorem dX9_barsPaying_19 : decode cX9_barsPaying 19 = .ok (.bipush 6, 2) := by decide +kernel
theorem dX9_barsPaying_21 : decode cX9_barsPaying 21 = .ok (.ireturn, 1) := by decide +kernel
theorem dX9_barsPaying_22 : decode cX9_barsPaying 22 = .ok (.aload_n 0, 1) := by decide +kernel
theorem dX9_barsPaying_23 : decode cX9_barsPaying 23 = .ok (.iload_n 1, 1) := by decide +kernel
theorem dX9_barsPaying_24 : decode cX9_barsPaying 24 = .ok (.iload_n 2, 1) := by decide +kernel
theorem dX9_barsPaying_25 : decode cX9_barsPaying 25 = .ok (.invokevirtual 351, 3) := by decide +kernel
theorem dX9_barsPaying_28 : decode cX9_barsPaying 28 = .ok (.ifCond .eq 7, 3) := by decide +kernel
theorem dX9_barsPaying_31 : decode cX9_barsPaying 31 = .ok (.iconst 1, 1) := by decide +kernel
theorem dX9_barsPaying_32 : decode cX9_barsPaying 32 = .ok (.goto 12, 3) := by decide +kernel
theorem dX9_barsPaying_35 : decode cX9_barsPaying 35 = .ok (.aload_n 0, 1) := by decide +kernel
theorem dX9_barsPaying_36 : decode cX9_barsPaying 36 = .ok (.iload_n 1, 1) := by decide +kernel
theorem dX9_barsPaying_37 : decode cX9_barsPaying 37 = .ok (.iload_n 2, 1) := by decide +kernel
theorem dX9_barsPaying_38 : decode cX9_barsPaying 38 = .ok (.iload_n 3, 1) := by decide +kernel
theorem dX9_barsPaying_39 : decode cX9_barsPaying 39 = .ok (.iload 4, 2) := by decide +kernel
theorem dX9_barsPaying_41 : decode cX9_barsPaying 41 = .ok (.invokevirtual 354, 3) := by decide +kernel
theorem dX9_barsPaying_44 : decode cX9_barsPaying 44 = .ok (.ireturn, 1) := by decide +kernel
theorem dX9_payBack_0 : decode cX9_payBack 0 = .ok (.aload_n 0, 1) := by decide +kernel
theorem dX9_payBack_1 : decode cX9_payBack 1 = .ok (.iconst 0, 1) := by decide +kernel
theorem dX9_payBack_2 : decode cX9_payBack 2 = .ok (.putfield 41, 3) := by decide +kernel
theorem dX9_payBack_5 : decode cX9_payBack 5 = .ok (.aload_n 0, 1) := by decide +kernel
theorem dX9_payBack_6 : decode cX9_payBack 6 = .ok (.aload_n 0, 1) := by decide +kernel
theorem dX9_payBack_7 : decode cX9_payBack 7 = .ok (.iload_n 1, 1) := by decide +kernel
theorem dX9_payBack_8 : decode cX9_payBack 8 = .ok (.invokevirtual 297, 3) := by decide +kernel
theorem dX9_payBack_11 : decode cX9_payBack 11 = .ok (.ifCond .eq 15, 3) := by decide +kernel
theorem dX9_payBack_14 : decode cX9_payBack 14 = .ok (.aload_n 0, 1) := by decide +kernel
theorem dX9_payBack_15 : decode cX9_payBack 15 = .ok (.iload_n 2, 1) := by decide +kernel
theorem dX9_payBack_16 : decode cX9_payBack 16 = .ok (.invokevirtual 297, 3) := by decide +kernel
theorem dX9_payBack_19 : decode cX9_payBack 19 = .ok (.ifCond .eq 7, 3) := by decide +kernel
theorem dX9_payBack_22 : decode cX9_payBack 22 = .ok (.iconst 1, 1) := by decide +kernel
theorem dX9_payBack_23 : decode cX9_payBack 23 = .ok (.goto 4, 3) := by decide +kernel
theorem dX9_payBack_26 : decode cX9_payBack 26 = .ok (.iconst 0, 1) := by decide +kernel
theorem dX9_payBack_27 : decode cX9_payBack 27 = .ok (.iconst 1, 1) := by decide +kernel
theorem dX9_payBack_28 : decode cX9_payBack 28 = .ok (.invokevirtual 158, 3) := by decide +kernel
theorem dX9_payBack_31 : decode cX9_payBack 31 = .ok (.ifCond .eq 36, 3) := by decide +kernel
theorem dX9_payBack_34 : decode cX9_payBack 34 = .ok (.aload_n 0, 1) := by decide +kernel
theorem dX9_payBack_35 : decode cX9_payBack 35 = .ok (.iload_n 3, 1) := by decide +kernel
theorem dX9_payBack_36 : decode cX9_payBack 36 = .ok (.iconst 0, 1) := by decide +kernel
theorem dX9_payBack_37 : decode cX9_payBack 37 = .ok (.iconst 1, 1) := by decide +kernel
theorem dX9_payBack_38 : decode cX9_payBack 38 = .ok (.invokestatic 162, 3) := by decide +kernel
theorem dX9_payBack_41 : decode cX9_payBack 41 = .ok (.ifCond .eq 18, 3) := by decide +kernel
theorem dX9_payBack_44 : decode cX9_payBack 44 = .ok (.iload 4, 2) := by decide +kernel
theorem dX9_payBack_46 : decode cX9_payBack 46 = .ok (.iconst 1, 1) := by decide +kernel
theorem dX9_payBack_47 : decode cX9_payBack 47 = .ok (.bipush 20, 2) := by decide +kernel
theorem dX9_payBack_49 : decode cX9_payBack 49 = .ok (.invokestatic 162, 3) := by decide +kernel
theorem dX9_payBack_52 : decode cX9_payBack 52 = .ok (.ifCond .eq 7, 3) := by decide +kernel
theorem dX9_payBack_55 : decode cX9_payBack 55 = .ok (.iconst 1, 1) := by decide +kernel
theorem dX9_payBack_56 : decode cX9_payBack 56 = .ok (.goto 4, 3) := by decide +kernel
theorem dX9_payBack_59 : decode cX9_payBack 59 = .ok (.iconst 0, 1) := by decide +kernel
theorem dX9_payBack_60 : decode cX9_payBack 60 = .ok (.iconst 2, 1) := by decide +kernel
theorem dX9_payBack_61 : decode cX9_payBack 61 = .ok (.invokevirtual 158, 3) := by decide +kernel
theorem dX9_payBack_64 : decode cX9_payBack 64 = .ok (.ifCond .ne 5, 3) := by decide +kernel
theorem dX9_payBack_67 : decode cX9_payBack 67 = .ok (.iconst 0, 1) := by decide +kernel
theorem dX9_payBack_68 : decode cX9_payBack 68 = .ok (.ireturn, 1) := by decide +kernel
theorem dX9_payBack_69 : decode cX9_payBack 69 = .ok (.aload_n 0, 1) := by decide +kernel
theorem dX9_payBack_70 : decode cX9_payBack 70 = .ok (.iload_n 1, 1) := by decide +kernel
theorem dX9_payBack_71 : decode cX9_payBack 71 = .ok (.iload_n 2, 1) := by decide +kernel
theorem dX9_payBack_72 : decode cX9_payBack 72 = .ok (.iload_n 3, 1) := by decide +kernel
theorem dX9_payBack_73 : decode cX9_payBack 73 = .ok (.iload 4, 2) := by decide +kernel
theorem dX9_payBack_75 : decode cX9_payBack 75 = .ok (.invokevirtual 321, 3) := by decide +kernel
theorem dX9_payBack_78 : decode cX9_payBack 78 = .ok (.istore 5, 2) := by decide +kernel
theorem dX9_payBack_80 : decode cX9_payBack 80 = .ok (.iload 5, 2) := by decide +kernel
theorem dX9_payBack_82 : decode cX9_payBack 82 = .ok (.ifCond .le 10, 3) := by decide +kernel
theorem dX9_payBack_85 : decode cX9_payBack 85 = .ok (.aload_n 0, 1) := by decide +kernel
theorem dX9_payBack_86 : decode cX9_payBack 86 = .ok (.iload 5, 2) := by decide +kernel
theorem dX9_payBack_88 : decode cX9_payBack 88 = .ok (.invokevirtual 345, 3) := by decide +kernel
theorem dX9_payBack_91 : decode cX9_payBack 91 = .ok (.ireturn, 1) := by decide +kernel
theorem dX9_payBack_92 : decode cX9_payBack 92 = .ok (.aload_n 0, 1) := by decide +kernel
theorem dX9_payBack_93 : decode cX9_payBack 93 = .ok (.invokevirtual 348, 3) := by decide +kernel
theorem dX9_payBack_96 : decode cX9_payBack 96 = .ok (.aload_n 0, 1) := by decide +kernel
theorem dX9_payBack_97 : decode cX9_payBack 97 = .ok (.iload_n 1, 1) := by decide +kernel
theorem dX9_payBack_98 : decode cX9_payBack 98 = .ok (.iload_n 2, 1) := by decide +kernel
theorem dX9_payBack_99 : decode cX9_payBack 99 = .ok (.iload_n 3, 1) := by decide +kernel
theorem dX9_payBack_100 : decode cX9_payBack 100 = .ok (.iload 4, 2) := by decide +kernel
theorem dX9_payBack_102 : decode cX9_payBack 102 = .ok (.invokevirtual 357, 3) := by decide +kernel
theorem dX9_payBack_105 : decode cX9_payBack 105 = .ok (.aload_n 0, 1) := by decide +kernel
theorem dX9_payBack_106 : decode cX9_payBack 106 = .ok (.aload_n 0, 1) := by decide +kernel
theorem dX9_payBack_107 : decode cX9_payBack 107 = .ok (.iload_n 1, 1) := by decide +kernel
theorem dX9_payBack_108 : decode cX9_payBack 108 = .ok (.iload_n 2, 1) := by decide +kernel
theorem dX9_payBack_109 : decode cX9_payBack 109 = .ok (.iload_n 3, 1) := by decide +kernel
theorem dX9_payBack_110 : decode cX9_payBack 110 = .ok (.invokevirtual 87, 3) := by decide +kernel
theorem dX9_payBack_113 : decode cX9_payBack 113 = .ok (.iload 4, 2) := by decide +kernel
theorem dX9_payBack_115 : decode cX9_payBack 115 = .ok (.invokevirtual 367, 3) := by decide +kernel
theorem dX9_payBack_118 : decode cX9_payBack 118 = .ok (.aload_n 0, 1) := by decide +kernel
theorem dX9_payBack_119 : decode cX9_payBack 119 = .ok (.iconst 4, 1) := by decide +kernel
theorem dX9_payBack_120 : decode cX9_payBack 120 = .ok (.iload 4, 2) := by decide +kernel
theorem dX9_payBack_122 : decode cX9_payBack 122 = .ok (.invokevirtual 117, 3) := by decide +kernel
theorem dX9_payBack_125 : decode cX9_payBack 125 = .ok (.aload_n 0, 1) := by decide +kernel
theorem dX9_payBack_126 : decode cX9_payBack 126 = .ok (.iload_n 1, 1) := by decide +kernel
theorem dX9_payBack_127 : decode cX9_payBack 127 = .ok (.iload_n 2, 1) := by decide +kernel
theorem dX9_payBack_128 : decode cX9_payBack 128 = .ok (.invokevirtual 361, 3) := by decide +kernel
theorem dX9_payBack_131 : decode cX9_payBack 131 = .ok (.istore 6, 2) := by decide +kernel
theorem dX9_payBack_133 : decode cX9_payBack 133 = .ok (.aload_n 0, 1) := by decide +kernel
theorem dX9_payBack_134 : decode cX9_payBack 134 = .ok (.iload_n 1, 1) := by decide +kernel
theorem dX9_payBack_135 : decode cX9_payBack 135 = .ok (.iload_n 2, 1) := by decide +kernel
theorem dX9_payBack_136 : decode cX9_payBack 136 = .ok (.iload_n 3, 1) := by decide +kernel
theorem dX9_payBack_137 : decode cX9_payBack 137 = .ok (.invokevirtual 306, 3) := by decide +kernel
theorem dX9_payBack_140 : decode cX9_payBack 140 = .ok (.ireturn, 1) := by decide +kernel
theorem dX9_move_0 : decode cX9_move 0 = .ok (.aload_n 0, 1) := by decide +kernel
theorem dX9_move_1 : decode cX9_move 1 = .ok (.iconst 0, 1) := by decide +kernel
theorem dX9_move_2 : decode cX9_move 2 = .ok (.putfield 41, 3) := by decide +kernel
theorem dX9_move_5 : decode cX9_move 5 = .ok (.aload_n 0, 1) := by decide +kernel
theorem dX9_move_6 : decode cX9_move 6 = .ok (.aload_n 0, 1) := by decide +kernel
theorem dX9_move_7 : decode cX9_move 7 = .ok (.iload_n 1, 1) := by decide +kernel
theorem dX9_move_8 : decode cX9_move 8 = .ok (.invokevirtual 297, 3) := by decide +kernel
theorem dX9_move_11 : decode cX9_move 11 = .ok (.iconst 1, 1) := by decide +kernel
theorem dX9_move_12 : decode cX9_move 12 = .ok (.invokevirtual 158, 3) := by decide +kernel
theorem dX9_move_15 : decode cX9_move 15 = .ok (.ifCond .eq 34, 3) := by decide +kernel
theorem dX9_move_18 : decode cX9_move 18 = .ok (.aload_n 0, 1) := by decide +kernel
theorem dX9_move_19 : decode cX9_move 19 = .ok (.iload_n 2, 1) := by decide +kernel
theorem dX9_move_20 : decode cX9_move 20 = .ok (.iconst 0, 1) := by decide +kernel
theorem dX9_move_21 : decode cX9_move 21 = .ok (.iconst 5, 1) := by decide +kernel
theorem dX9_move_22 : decode cX9_move 22 = .ok (.invokestatic 162, 3) := by decide +kernel
theorem dX9_move_25 : decode cX9_move 25 = .ok (.ifCond .eq 16, 3) := by decide +kernel
theorem dX9_move_28 : decode cX9_move 28 = .ok (.iload_n 3, 1) := by decide +kernel
theorem dX9_move_29 : decode cX9_move 29 = .ok (.iconst 0, 1) := by decide +kernel
theorem dX9_move_30 : decode cX9_move 30 = .ok (.iconst 5, 1) := by decide +kernel
theorem dX9_move_31 : decode cX9_move 31 = .ok (.invokestatic 162, 3) := by decide +kernel
theorem dX9_move_34 : decode cX9_move 34 = .ok (.ifCond .eq 7, 3) := by decide +kernel
theorem dX9_move_37 : decode cX9_move 37 = .ok (.iconst 1, 1) := by decide +kernel
theorem dX9_move_38 : decode cX9_move 38 = .ok (.goto 4, 3) := by decide +kernel
theorem dX9_move_41 : decode cX9_move 41 = .ok (.iconst 0, 1) := by decide +kernel
theorem dX9_move_42 : decode cX9_move 42 = .ok (.iconst 2, 1) := by decide +kernel
theorem dX9_move_43 : decode cX9_move 43 = .ok (.invokevirtual 158, 3) := by decide +kernel
theorem dX9_move_46 : decode cX9_move 46 = .ok (.ifCond .ne 5, 3) := by decide +kernel
theorem dX9_move_49 : decode cX9_move 49 = .ok (.iconst 0, 1) := by decide +kernel
theorem dX9_move_50 : decode cX9_move 50 = .ok (.ireturn, 1) := by decide +kernel
theorem dX9_move_51 : decode cX9_move 51 = .ok (.aload_n 0, 1) := by decide +kernel
theorem dX9_move_52 : decode cX9_move 52 = .ok (.iload_n 1, 1) := by decide +kernel
theorem dX9_move_53 : decode cX9_move 53 = .ok (.invokevirtual 99, 3) := by decide +kernel
theorem dX9_move_56 : decode cX9_move 56 = .ok (.ifCond .eq 9, 3) := by decide +kernel
theorem dX9_move_59 : decode cX9_move 59 = .ok (.aload_n 0, 1) := by decide +kernel
theorem dX9_move_60 : decode cX9_move 60 = .ok (.iconst 1, 1) := by decide +kernel
theorem dX9_move_61 : decode cX9_move 61 = .ok (.invokevirtual 345, 3) := by decide +kernel
theorem dX9_move_64 : decode cX9_move 64 = .ok (.ireturn, 1) := by decide +kernel
theorem dX9_move_65 : decode cX9_move 65 = .ok (.aload_n 0, 1) := by decide +kernel
theorem dX9_move_66 : decode cX9_move 66 = .ok (.iload_n 2, 1) := by decide +kernel
theorem dX9_move_67 : decode cX9_move 67 = .ok (.iload_n 3, 1) := by decide +kernel
theorem dX9_move_68 : decode cX9_move 68 = .ok (.invokevirtual 214, 3) := by decide +kernel
theorem dX9_move_71 : decode cX9_move 71 = .ok (.iconst (-1), 1) := by decide +kernel
theorem dX9_move_72 : decode cX9_move 72 = .ok (.if_icmp .eq 10, 3) := by decide +kernel
theorem dX9_move_75 : decode cX9_move 75 = .ok (.aload_n 0, 1) := by decide +kernel
theorem dX9_move_76 : decode cX9_move 76 = .ok (.bipush 7, 2) := by decide +kernel
theorem dX9_move_78 : decode cX9_move 78 = .ok (.invokevirtual 345, 3) := by decide +kernel
theorem dX9_move_81 : decode cX9_move 81 = .ok (.ireturn, 1) := by decide +kernel
theorem dX9_move_82 : decode cX9_move 82 = .ok (.aload_n 0, 1) := by decide +kernel
theorem dX9_move_83 : decode cX9_move 83 = .ok (.invokevirtual 348, 3) := by decide +kernel
theorem dX9_move_86 : decode cX9_move 86 = .ok (.aload_n 0, 1) := by decide +kernel
theorem dX9_move_87 : decode cX9_move 87 = .ok (.iload_n 1, 1) := by decide +kernel
theorem dX9_move_88 : decode cX9_move 88 = .ok (.iconst 0, 1) := by decide +kernel
theorem dX9_move_89 : decode cX9_move 89 = .ok (.iload_n 2, 1) := by decide +kernel
theorem dX9_move_90 : decode cX9_move 90 = .ok (.invokevirtual 58, 3) := by decide +kernel
theorem dX9_move_93 : decode cX9_move 93 = .ok (.aload_n 0, 1) := by decide +kernel
theorem dX9_move_94 : decode cX9_move 94 = .ok (.iload_n 1, 1) := by decide +kernel
theorem dX9_move_95 : decode cX9_move 95 = .ok (.iconst 1, 1) := by decide +kernel
theorem dX9_move_96 : decode cX9_move 96 = .ok (.iload_n 3, 1) := by decide +kernel
theorem dX9_move_97 : decode cX9_move 97 = .ok (.invokevirtual 58, 3) := by decide +kernel
theorem dX9_move_100 : decode cX9_move 100 = .ok (.iconst 0, 1) := by decide +kernel
theorem dX9_move_101 : decode cX9_move 101 = .ok (.istore 4, 2) := by decide +kernel
theorem dX9_move_103 : decode cX9_move 103 = .ok (.iconst 0, 1) := by decide +kernel
theorem dX9_move_104 : decode cX9_move 104 = .ok (.istore 5, 2) := by decide +kernel
theorem dX9_move_106 : decode cX9_move 106 = .ok (.iload 5, 2) := by decide +kernel
theorem dX9_move_108 : decode cX9_move 108 = .ok (.aload_n 0, 1) := by decide +kernel
theorem dX9_move_109 : decode cX9_move 109 = .ok (.iconst 0, 1) := by decide +kernel
theorem dX9_move_110 : decode cX9_move 110 = .ok (.invokevirtual 50, 3) := by decide +kernel
theorem dX9_move_113 : decode cX9_move 113 = .ok (.if_icmp .ge 38, 3) := by decide +kernel
theorem dX9_move_116 : decode cX9_move 116 = .ok (.iload 4, 2) := by decide +kernel
theorem dX9_move_118 : decode cX9_move 118 = .ok (.iload 5, 2) := by decide +kernel
theorem dX9_move_120 : decode cX9_move 120 = .ok (.iload_n 1, 1) := by decide +kernel
theorem dX9_move_121 : decode cX9_move 121 = .ok (.if_icmp .eq 17, 3) := by decide +kernel
theorem dX9_move_124 : decode cX9_move 124 = .ok (.aload_n 0, 1) := by decide +kernel
theorem dX9_move_125 : decode cX9_move 125 = .ok (.iload 5, 2) := by decide +kernel
theorem dX9_move_127 : decode cX9_move 127 = .ok (.iload_n 1, 1) := by decide +kernel
theorem dX9_move_128 : decode cX9_move 128 = .ok (.invokevirtual 103, 3) := by decide +kernel
theorem dX9_move_131 : decode cX9_move 131 = .ok (.ifCond .eq 7, 3) := by decide +kernel
theorem dX9_move_134 : decode cX9_move 134 = .ok (.iconst 1, 1) := by decide +kernel
theorem dX9_move_135 : decode cX9_move 135 = .ok (.goto 4, 3) := by decide +kernel
theorem dX9_move_138 : decode cX9_move 138 = .ok (.iconst 0, 1) := by decide +kernel
theorem dX9_move_139 : decode cX9_move 139 = .ok (.invokestatic 110, 3) := by decide +kernel
theorem dX9_move_142 : decode cX9_move 142 = .ok (.iadd, 1) := by decide +kernel
theorem dX9_move_143 : decode cX9_move 143 = .ok (.istore 4, 2) := by decide +kernel
theorem dX9_move_145 : decode cX9_move 145 = .ok (.iinc 5 1, 3) := by decide +kernel
theorem dX9_move_148 : decode cX9_move 148 = .ok (.goto (-42), 3) := by decide +kernel
theorem dX9_move_151 : decode cX9_move 151 = .ok (.iload 4, 2) := by decide +kernel
theorem dX9_move_153 : decode cX9_move 153 = .ok (.ireturn, 1) := by decide +kernel
theorem dX9_confess_0 : decode cX9_confess 0 = .ok (.aload_n 0, 1) := by decide +kernel
theorem dX9_confess_1 : decode cX9_confess 1 = .ok (.iconst 0, 1) := by decide +kernel
theorem dX9_confess_2 : decode cX9_confess 2 = .ok (.putfield 41, 3) := by decide +kernel
theorem dX9_confess_5 : decode cX9_confess 5 = .ok (.aload_n 0, 1) := by decide +kernel
theorem dX9_confess_6 : decode cX9_confess 6 = .ok (.aload_n 0, 1) := by decide +kernel
theorem dX9_confess_7 : decode cX9_confess 7 = .ok (.iload_n 1, 1) := by decide +kernel
theorem dX9_confess_8 : decode cX9_confess 8 = .ok (.invokevirtual 297, 3) := by decide +kernel
theorem dX9_confess_11 : decode cX9_confess 11 = .ok (.iconst 1, 1) := by decide +kernel
theorem dX9_confess_12 : decode cX9_confess 12 = .ok (.invokevirtual 158, 3) := by decide +kernel
theorem dX9_confess_15 : decode cX9_confess 15 = .ok (.ifCond .ne 5, 3) := by decide +kernel
theorem dX9_confess_18 : decode cX9_confess 18 = .ok (.iconst 0, 1) := by decide +kernel
theorem dX9_confess_19 : decode cX9_confess 19 = .ok (.ireturn, 1) := by decide +kernel
theorem dX9_confess_20 : decode cX9_confess 20 = .ok (.aload_n 0, 1) := by decide +kernel
theorem dX9_confess_21 : decode cX9_confess 21 = .ok (.iload_n 1, 1) := by decide +kernel
theorem dX9_confess_22 : decode cX9_confess 22 = .ok (.bipush 6, 2) := by decide +kernel
theorem dX9_confess_24 : decode cX9_confess 24 = .ok (.invokevirtual 54, 3) := by decide +kernel
theorem dX9_confess_27 : decode cX9_confess 27 = .ok (.ifCond .ne 10, 3) := by decide +kernel
theorem dX9_confess_30 : decode cX9_confess 30 = .ok (.aload_n 0, 1) := by decide +kernel
theorem dX9_confess_31 : decode cX9_confess 31 = .ok (.bipush 8, 2) := by decide +kernel
theorem dX9_confess_33 : decode cX9_confess 33 = .ok (.invokevirtual 345, 3) := by decide +kernel
theorem dX9_confess_36 : decode cX9_confess 36 = .ok (.ireturn, 1) := by decide +kernel
theorem dX9_confess_37 : decode cX9_confess 37 = .ok (.aload_n 0, 1) := by decide +kernel
theorem dX9_confess_38 : decode cX9_confess 38 = .ok (.invokevirtual 348, 3) := by decide +kernel
theorem dX9_confess_41 : decode cX9_confess 41 = .ok (.aload_n 0, 1) := by decide +kernel
theorem dX9_confess_42 : decode cX9_confess 42 = .ok (.iload_n 1, 1) := by decide +kernel
theorem dX9_confess_43 : decode cX9_confess 43 = .ok (.bipush 6, 2) := by decide +kernel
theorem dX9_confess_45 : decode cX9_confess 45 = .ok (.aload_n 0, 1) := by decide +kernel
theorem dX9_confess_46 : decode cX9_confess 46 = .ok (.iload_n 1, 1) := by decide +kernel
theorem dX9_confess_47 : decode cX9_confess 47 = .ok (.bipush 6, 2) := by decide +kernel
theorem dX9_confess_49 : decode cX9_confess 49 = .ok (.invokevirtual 54, 3) := by decide +kernel
theorem dX9_confess_52 : decode cX9_confess 52 = .ok (.iconst 2, 1) := by decide +kernel
theorem dX9_confess_53 : decode cX9_confess 53 = .ok (.idiv, 1) := by decide +kernel
theorem dX9_confess_54 : decode cX9_confess 54 = .ok (.invokevirtual 58, 3) := by decide +kernel
theorem dX9_confess_57 : decode cX9_confess 57 = .ok (.aload_n 0, 1) := by decide +kernel
theorem dX9_confess_58 : decode cX9_confess 58 = .ok (.iload_n 1, 1) := by decide +kernel
theorem dX9_confess_59 : decode cX9_confess 59 = .ok (.bipush 9, 2) := by decide +kernel
theorem dX9_confess_61 : decode cX9_confess 61 = .ok (.iconst 0, 1) := by decide +kernel
theorem dX9_confess_62 : decode cX9_confess 62 = .ok (.invokevirtual 58, 3) := by decide +kernel
theorem dX9_confess_65 : decode cX9_confess 65 = .ok (.aload_n 0, 1) := by decide +kernel
theorem dX9_confess_66 : decode cX9_confess 66 = .ok (.iload_n 1, 1) := by decide +kernel
theorem dX9_confess_67 : decode cX9_confess 67 = .ok (.bipush 7, 2) := by decide +kernel
theorem dX9_confess_69 : decode cX9_confess 69 = .ok (.iconst 1, 1) := by decide +kernel
theorem dX9_confess_70 : decode cX9_confess 70 = .ok (.invokevirtual 68, 3) := by decide +kernel
theorem dX9_confess_73 : decode cX9_confess 73 = .ok (.aload_n 0, 1) := by decide +kernel
theorem dX9_confess_74 : decode cX9_confess 74 = .ok (.iload_n 1, 1) := by decide +kernel
theorem dX9_confess_75 : decode cX9_confess 75 = .ok (.bipush 6, 2) := by decide +kernel
theorem dX9_confess_77 : decode cX9_confess 77 = .ok (.invokevirtual 54, 3) := by decide +kernel
theorem dX9_confess_80 : decode cX9_confess 80 = .ok (.ireturn, 1) := by decide +kernel
theorem dX9_pass_0 : decode cX9_pass 0 = .ok (.aload_n 0, 1) := by decide +kernel
theorem dX9_pass_1 : decode cX9_pass 1 = .ok (.iconst 0, 1) := by decide +kernel
theorem dX9_pass_2 : decode cX9_pass 2 = .ok (.putfield 41, 3) := by decide +kernel
theorem dX9_pass_5 : decode cX9_pass 5 = .ok (.aload_n 0, 1) := by decide +kernel
theorem dX9_pass_6 : decode cX9_pass 6 = .ok (.iload_n 1, 1) := by decide +kernel
theorem dX9_pass_7 : decode cX9_pass 7 = .ok (.iconst 1, 1) := by decide +kernel
theorem dX9_pass_8 : decode cX9_pass 8 = .ok (.bipush 10, 2) := by decide +kernel
theorem dX9_pass_10 : decode cX9_pass 10 = .ok (.invokestatic 162, 3) := by decide +kernel
theorem dX9_pass_13 : decode cX9_pass 13 = .ok (.iconst 1, 1) := by decide +kernel
theorem dX9_pass_14 : decode cX9_pass 14 = .ok (.invokevirtual 158, 3) := by decide +kernel
theorem dX9_pass_17 : decode cX9_pass 17 = .ok (.ifCond .ne 5, 3) := by decide +kernel
theorem dX9_pass_20 : decode cX9_pass 20 = .ok (.iconst 0, 1) := by decide +kernel
theorem dX9_pass_21 : decode cX9_pass 21 = .ok (.ireturn, 1) := by decide +kernel
theorem dX9_pass_22 : decode cX9_pass 22 = .ok (.aload_n 0, 1) := by decide +kernel
theorem dX9_pass_23 : decode cX9_pass 23 = .ok (.iconst 1, 1) := by decide +kernel
theorem dX9_pass_24 : decode cX9_pass 24 = .ok (.invokevirtual 50, 3) := by decide +kernel
theorem dX9_pass_27 : decode cX9_pass 27 = .ok (.iload_n 1, 1) := by decide +kernel
theorem dX9_pass_28 : decode cX9_pass 28 = .ok (.iadd, 1) := by decide +kernel
theorem dX9_pass_29 : decode cX9_pass 29 = .ok (.sipush 999, 3) := by decide +kernel
theorem dX9_pass_32 : decode cX9_pass 32 = .ok (.if_icmp .le 10, 3) := by decide +kernel
theorem dX9_pass_35 : decode cX9_pass 35 = .ok (.aload_n 0, 1) := by decide +kernel
theorem dX9_pass_36 : decode cX9_pass 36 = .ok (.bipush 10, 2) := by decide +kernel
theorem dX9_pass_38 : decode cX9_pass 38 = .ok (.invokevirtual 345, 3) := by decide +kernel
theorem dX9_pass_41 : decode cX9_pass 41 = .ok (.ireturn, 1) := by decide +kernel
theorem dX9_pass_42 : decode cX9_pass 42 = .ok (.aload_n 0, 1) := by decide +kernel
theorem dX9_pass_43 : decode cX9_pass 43 = .ok (.invokevirtual 348, 3) := by decide +kernel
theorem dX9_pass_46 : decode cX9_pass 46 = .ok (.aload_n 0, 1) := by decide +kernel
theorem dX9_pass_47 : decode cX9_pass 47 = .ok (.iload_n 1, 1) := by decide +kernel
theorem dX9_pass_48 : decode cX9_pass 48 = .ok (.invokevirtual 336, 3) := by decide +kernel
theorem dX9_pass_51 : decode cX9_pass 51 = .ok (.ireturn, 1) := by decide +kernel
theorem dX9_says_0 : decode cX9_says 0 = .ok (.aload_n 0, 1) := by decide +kernel
theorem dX9_says_1 : decode cX9_says 1 = .ok (.getfield 30, 3) := by decide +kernel
theorem dX9_says_4 : decode cX9_says 4 = .ok (.aload_n 0, 1) := by decide +kernel
theorem dX9_says_5 : decode cX9_says 5 = .ok (.getfield 370, 3) := by decide +kernel
theorem dX9_says_8 : decode cX9_says 8 = .ok (.iload_n 1, 1) := by decide +kernel
theorem dX9_says_9 : decode cX9_says 9 = .ok (.iastore, 1) := by decide +kernel
theorem dX9_says_10 : decode cX9_says 10 = .ok (.aload_n 0, 1) := by decide +kernel
theorem dX9_says_11 : decode cX9_says 11 = .ok (.dup, 1) := by decide +kernel
theorem dX9_says_12 : decode cX9_says 12 = .ok (.getfield 370, 3) := by decide +kernel
theorem dX9_says_15 : decode cX9_says 15 = .ok (.iconst 1, 1) := by decide +kernel
theorem dX9_says_16 : decode cX9_says 16 = .ok (.iadd, 1) := by decide +kernel
theorem dX9_says_17 : decode cX9_says 17 = .ok (.putfield 370, 3) := by decide +kernel
theorem dX9_says_20 : decode cX9_says 20 = .ok (.return_, 1) := by decide +kernel
theorem dX9_saysNumber_0 : decode cX9_saysNumber 0 = .ok (.iload_n 1, 1) := by decide +kernel
theorem dX9_saysNumber_1 : decode cX9_saysNumber 1 = .ok (.bipush 9, 2) := by decide +kernel
theorem dX9_saysNumber_3 : decode cX9_saysNumber 3 = .ok (.if_icmp .le 14, 3) := by decide +kernel
theorem dX9_saysNumber_6 : decode cX9_saysNumber 6 = .ok (.aload_n 0, 1) := by decide +kernel
theorem dX9_saysNumber_7 : decode cX9_saysNumber 7 = .ok (.bipush 48, 2) := by decide +kernel
theorem dX9_saysNumber_9 : decode cX9_saysNumber 9 = .ok (.iload_n 1, 1) := by decide +kernel
theorem dX9_saysNumber_10 : decode cX9_saysNumber 10 = .ok (.bipush 10, 2) := by decide +kernel
theorem dX9_saysNumber_12 : decode cX9_saysNumber 12 = .ok (.idiv, 1) := by decide +kernel
theorem dX9_saysNumber_13 : decode cX9_saysNumber 13 = .ok (.iadd, 1) := by decide +kernel
theorem dX9_saysNumber_14 : decode cX9_saysNumber 14 = .ok (.invokevirtual 373, 3) := by decide +kernel
theorem dX9_saysNumber_17 : decode cX9_saysNumber 17 = .ok (.aload_n 0, 1) := by decide +kernel
theorem dX9_saysNumber_18 : decode cX9_saysNumber 18 = .ok (.bipush 48, 2) := by decide +kernel
theorem dX9_saysNumber_20 : decode cX9_saysNumber 20 = .ok (.iload_n 1, 1) := by decide +kernel
theorem dX9_saysNumber_21 : decode cX9_saysNumber 21 = .ok (.bipush 10, 2) := by decide +kernel
theorem dX9_saysNumber_23 : decode cX9_saysNumber 23 = .ok (.irem, 1) := by decide +kernel
theorem dX9_saysNumber_24 : decode cX9_saysNumber 24 = .ok (.iadd, 1) := by decide +kernel
theorem dX9_saysNumber_25 : decode cX9_saysNumber 25 = .ok (.invokevirtual 373, 3) := by decide +kernel
theorem dX9_saysNumber_28 : decode cX9_saysNumber 28 = .ok (.return_, 1) := by decide +kernel
theorem dX9_saysSatchel_0 : decode cX9_saysSatchel 0 = .ok (.iconst 0, 1) := by decide +kernel
theorem dX9_saysSatchel_1 : decode cX9_saysSatchel 1 = .ok (.istore_n 3, 1) := by decide +kernel
theorem dX9_saysSatchel_2 : decode cX9_saysSatchel 2 = .ok (.iload_n 3, 1) := by decide +kernel
theorem dX9_saysSatchel_3 : decode cX9_saysSatchel 3 = .ok (.aload_n 0, 1) := by decide +kernel
theorem dX9_saysSatchel_4 : decode cX9_saysSatchel 4 = .ok (.iload_n 1, 1) := by decide +kernel
theorem dX9_saysSatchel_5 : decode cX9_saysSatchel 5 = .ok (.iload_n 2, 1) := by decide +kernel
theorem dX9_saysSatchel_6 : decode cX9_saysSatchel 6 = .ok (.invokevirtual 65, 3) := by decide +kernel
theorem dX9_saysSatchel_9 : decode cX9_saysSatchel 9 = .ok (.if_icmp .ge 23, 3) := by decide +kernel
theorem dX9_saysSatchel_12 : decode cX9_saysSatchel 12 = .ok (.aload_n 0, 1) := by decide +kernel
theorem dX9_saysSatchel_13 : decode cX9_saysSatchel 13 = .ok (.bipush 97, 2) := by decide +kernel
theorem dX9_saysSatchel_15 : decode cX9_saysSatchel 15 = .ok (.aload_n 0, 1) := by decide +kernel
theorem dX9_saysSatchel_16 : decode cX9_saysSatchel 16 = .ok (.iload_n 1, 1) := by decide +kernel
theorem dX9_saysSatchel_17 : decode cX9_saysSatchel 17 = .ok (.iload_n 2, 1) := by decide +kernel
theorem dX9_saysSatchel_18 : decode cX9_saysSatchel 18 = .ok (.iload_n 3, 1) := by decide +kernel
theorem dX9_saysSatchel_19 : decode cX9_saysSatchel 19 = .ok (.invokevirtual 71, 3) := by decide +kernel
theorem dX9_saysSatchel_22 : decode cX9_saysSatchel 22 = .ok (.iadd, 1) := by decide +kernel
theorem dX9_saysSatchel_23 : decode cX9_saysSatchel 23 = .ok (.invokevirtual 373, 3) := by decide +kernel
theorem dX9_saysSatchel_26 : decode cX9_saysSatchel 26 = .ok (.iinc 3 1, 3) := by decide +kernel
theorem dX9_saysSatchel_29 : decode cX9_saysSatchel 29 = .ok (.goto (-27), 3) := by decide +kernel
theorem dX9_saysSatchel_32 : decode cX9_saysSatchel 32 = .ok (.return_, 1) := by decide +kernel
theorem dX9_saysDebt_0 : decode cX9_saysDebt 0 = .ok (.aload_n 0, 1) := by decide +kernel
theorem dX9_saysDebt_1 : decode cX9_saysDebt 1 = .ok (.bipush 32, 2) := by decide +kernel
theorem dX9_saysDebt_3 : decode cX9_saysDebt 3 = .ok (.invokevirtual 373, 3) := by decide +kernel
theorem dX9_saysDebt_6 : decode cX9_saysDebt 6 = .ok (.aload_n 0, 1) := by decide +kernel
theorem dX9_saysDebt_7 : decode cX9_saysDebt 7 = .ok (.bipush 97, 2) := by decide +kernel
theorem dX9_saysDebt_9 : decode cX9_saysDebt 9 = .ok (.aload_n 0, 1) := by decide +kernel
theorem dX9_saysDebt_10 : decode cX9_saysDebt 10 = .ok (.iload_n 1, 1) := by decide +kernel
theorem dX9_saysDebt_11 : decode cX9_saysDebt 11 = .ok (.iconst 1, 1) := by decide +kernel
theorem dX9_saysDebt_12 : decode cX9_saysDebt 12 = .ok (.invokevirtual 84, 3) := by decide +kernel
theorem dX9_saysDebt_15 : decode cX9_saysDebt 15 = .ok (.iadd, 1) := by decide +kernel
theorem dX9_saysDebt_16 : decode cX9_saysDebt 16 = .ok (.invokevirtual 373, 3) := by decide +kernel
theorem dX9_saysDebt_19 : decode cX9_saysDebt 19 = .ok (.aload_n 0, 1) := by decide +kernel
theorem dX9_saysDebt_20 : decode cX9_saysDebt 20 = .ok (.aload_n 0, 1) := by decide +kernel
theorem dX9_saysDebt_21 : decode cX9_saysDebt 21 = .ok (.iload_n 1, 1) := by decide +kernel
theorem dX9_saysDebt_22 : decode cX9_saysDebt 22 = .ok (.iconst 2, 1) := by decide +kernel
theorem dX9_saysDebt_23 : decode cX9_saysDebt 23 = .ok (.invokevirtual 84, 3) := by decide +kernel
theorem dX9_saysDebt_26 : decode cX9_saysDebt 26 = .ok (.ifCond .ne 8, 3) := by decide +kernel
theorem dX9_saysDebt_29 : decode cX9_saysDebt 29 = .ok (.bipush 115, 2) := by decide +kernel
theorem dX9_saysDebt_31 : decode cX9_saysDebt 31 = .ok (.goto 5, 3) := by decide +kernel
theorem dX9_saysDebt_34 : decode cX9_saysDebt 34 = .ok (.bipush 118, 2) := by decide +kernel
theorem dX9_saysDebt_36 : decode cX9_saysDebt 36 = .ok (.invokevirtual 373, 3) := by decide +kernel
theorem dX9_saysDebt_39 : decode cX9_saysDebt 39 = .ok (.aload_n 0, 1) := by decide +kernel
theorem dX9_saysDebt_40 : decode cX9_saysDebt 40 = .ok (.aload_n 0, 1) := by decide +kernel
theorem dX9_saysDebt_41 : decode cX9_saysDebt 41 = .ok (.iload_n 1, 1) := by decide +kernel
theorem dX9_saysDebt_42 : decode cX9_saysDebt 42 = .ok (.iconst 3, 1) := by decide +kernel
theorem dX9_saysDebt_43 : decode cX9_saysDebt 43 = .ok (.invokevirtual 84, 3) := by decide +kernel
theorem dX9_saysDebt_46 : decode cX9_saysDebt 46 = .ok (.invokevirtual 376, 3) := by decide +kernel
theorem dX9_saysDebt_49 : decode cX9_saysDebt 49 = .ok (.return_, 1) := by decide +kernel
theorem dX9_write_0 : decode cX9_write 0 = .ok (.aload_n 0, 1) := by decide +kernel
theorem dX9_write_1 : decode cX9_write 1 = .ok (.iconst 0, 1) := by decide +kernel
theorem dX9_write_2 : decode cX9_write 2 = .ok (.putfield 41, 3) := by decide +kernel
theorem dX9_write_5 : decode cX9_write 5 = .ok (.aload_n 0, 1) := by decide +kernel
theorem dX9_write_6 : decode cX9_write 6 = .ok (.aload_n 0, 1) := by decide +kernel
theorem dX9_write_7 : decode cX9_write 7 = .ok (.iload_n 1, 1) := by decide +kernel
theorem dX9_write_8 : decode cX9_write 8 = .ok (.invokevirtual 297, 3) := by decide +kernel
theorem dX9_write_11 : decode cX9_write 11 = .ok (.iconst 1, 1) := by decide +kernel
theorem dX9_write_12 : decode cX9_write 12 = .ok (.invokevirtual 158, 3) := by decide +kernel
theorem dX9_write_15 : decode cX9_write 15 = .ok (.ifCond .ne 5, 3) := by decide +kernel
theorem dX9_write_18 : decode cX9_write 18 = .ok (.iconst 0, 1) := by decide +kernel
theorem dX9_write_19 : decode cX9_write 19 = .ok (.ireturn, 1) := by decide +kernel
theorem dX9_write_20 : decode cX9_write 20 = .ok (.aload_n 0, 1) := by decide +kernel
theorem dX9_write_21 : decode cX9_write 21 = .ok (.iconst 0, 1) := by decide +kernel
theorem dX9_write_22 : decode cX9_write 22 = .ok (.putfield 370, 3) := by decide +kernel
theorem dX9_write_25 : decode cX9_write 25 = .ok (.aload_n 0, 1) := by decide +kernel
theorem dX9_write_26 : decode cX9_write 26 = .ok (.iload_n 1, 1) := by decide +kernel
theorem dX9_write_27 : decode cX9_write 27 = .ok (.iconst 0, 1) := by decide +kernel
theorem dX9_write_28 : decode cX9_write 28 = .ok (.invokevirtual 379, 3) := by decide +kernel
theorem dX9_write_31 : decode cX9_write 31 = .ok (.aload_n 0, 1) := by decide +kernel
theorem dX9_write_32 : decode cX9_write 32 = .ok (.bipush 47, 2) := by decide +kernel
theorem dX9_write_34 : decode cX9_write 34 = .ok (.invokevirtual 373, 3) := by decide +kernel
theorem dX9_write_37 : decode cX9_write 37 = .ok (.aload_n 0, 1) := by decide +kernel
theorem dX9_write_38 : decode cX9_write 38 = .ok (.iload_n 1, 1) := by decide +kernel
theorem dX9_write_39 : decode cX9_write 39 = .ok (.iconst 1, 1) := by decide +kernel
theorem dX9_write_40 : decode cX9_write 40 = .ok (.invokevirtual 379, 3) := by decide +kernel
theorem dX9_write_43 : decode cX9_write 43 = .ok (.iconst 0, 1) := by decide +kernel
theorem dX9_write_44 : decode cX9_write 44 = .ok (.istore_n 2, 1) := by decide +kernel
theorem dX9_write_45 : decode cX9_write 45 = .ok (.iload_n 2, 1) := by decide +kernel
theorem dX9_write_46 : decode cX9_write 46 = .ok (.aload_n 0, 1) := by decide +kernel
theorem dX9_write_47 : decode cX9_write 47 = .ok (.bipush 6, 2) := by decide +kernel
theorem dX9_write_49 : decode cX9_write 49 = .ok (.invokevirtual 50, 3) := by decide +kernel
theorem dX9_write_52 : decode cX9_write 52 = .ok (.if_icmp .ge 24, 3) := by decide +kernel
theorem dX9_write_55 : decode cX9_write 55 = .ok (.aload_n 0, 1) := by decide +kernel
theorem dX9_write_56 : decode cX9_write 56 = .ok (.iload_n 2, 1) := by decide +kernel
theorem dX9_write_57 : decode cX9_write 57 = .ok (.iconst 0, 1) := by decide +kernel
theorem dX9_write_58 : decode cX9_write 58 = .ok (.invokevirtual 84, 3) := by decide +kernel
theorem dX9_write_61 : decode cX9_write 61 = .ok (.iload_n 1, 1) := by decide +kernel
theorem dX9_write_62 : decode cX9_write 62 = .ok (.if_icmp .ne 8, 3) := by decide +kernel
theorem dX9_write_65 : decode cX9_write 65 = .ok (.aload_n 0, 1) := by decide +kernel
theorem dX9_write_66 : decode cX9_write 66 = .ok (.iload_n 2, 1) := by decide +kernel
theorem dX9_write_67 : decode cX9_write 67 = .ok (.invokevirtual 382, 3) := by decide +kernel
theorem dX9_write_70 : decode cX9_write 70 = .ok (.iinc 2 1, 3) := by decide +kernel
theorem dX9_write_73 : decode cX9_write 73 = .ok (.goto (-28), 3) := by decide +kernel
theorem dX9_write_76 : decode cX9_write 76 = .ok (.aload_n 0, 1) := by decide +kernel
theorem dX9_write_77 : decode cX9_write 77 = .ok (.getfield 370, 3) := by decide +kernel
theorem dX9_write_80 : decode cX9_write 80 = .ok (.ireturn, 1) := by decide +kernel
theorem dX9_output_0 : decode cX9_output 0 = .ok (.aload_n 0, 1) := by decide +kernel
theorem dX9_output_1 : decode cX9_output 1 = .ok (.iconst 0, 1) := by decide +kernel
theorem dX9_output_2 : decode cX9_output 2 = .ok (.putfield 41, 3) := by decide +kernel
theorem dX9_output_5 : decode cX9_output 5 = .ok (.iload_n 1, 1) := by decide +kernel
theorem dX9_output_6 : decode cX9_output 6 = .ok (.iconst 0, 1) := by decide +kernel
theorem dX9_output_7 : decode cX9_output 7 = .ok (.aload_n 0, 1) := by decide +kernel
theorem dX9_output_8 : decode cX9_output 8 = .ok (.getfield 370, 3) := by decide +kernel
theorem dX9_output_11 : decode cX9_output 11 = .ok (.iconst 1, 1) := by decide +kernel
theorem dX9_output_12 : decode cX9_output 12 = .ok (.isub, 1) := by decide +kernel
theorem dX9_output_13 : decode cX9_output 13 = .ok (.invokestatic 162, 3) := by decide +kernel
theorem dX9_output_16 : decode cX9_output 16 = .ok (.ifCond .eq 12, 3) := by decide +kernel
theorem dX9_output_19 : decode cX9_output 19 = .ok (.aload_n 0, 1) := by decide +kernel
theorem dX9_output_20 : decode cX9_output 20 = .ok (.getfield 30, 3) := by decide +kernel
theorem dX9_output_23 : decode cX9_output 23 = .ok (.iload_n 1, 1) := by decide +kernel
theorem dX9_output_24 : decode cX9_output 24 = .ok (.iaload, 1) := by decide +kernel
theorem dX9_output_25 : decode cX9_output 25 = .ok (.goto 4, 3) := by decide +kernel
theorem dX9_output_28 : decode cX9_output 28 = .ok (.iconst (-1), 1) := by decide +kernel
theorem dX9_output_29 : decode cX9_output 29 = .ok (.ireturn, 1) := by decide +kernel
theorem dX9_undo_0 : decode cX9_undo 0 = .ok (.aload_n 0, 1) := by decide +kernel
theorem dX9_undo_1 : decode cX9_undo 1 = .ok (.iconst 0, 1) := by decide +kernel
theorem dX9_undo_2 : decode cX9_undo 2 = .ok (.putfield 41, 3) := by decide +kernel
theorem dX9_undo_5 : decode cX9_undo 5 = .ok (.aload_n 0, 1) := by decide +kernel
theorem dX9_undo_6 : decode cX9_undo 6 = .ok (.getfield 234, 3) := by decide +kernel
theorem dX9_undo_9 : decode cX9_undo 9 = .ok (.ifCond .ne 5, 3) := by decide +kernel
theorem dX9_undo_12 : decode cX9_undo 12 = .ok (.iconst (-1), 1) := by decide +kernel
theorem dX9_undo_13 : decode cX9_undo 13 = .ok (.ireturn, 1) := by decide +kernel
theorem dX9_undo_14 : decode cX9_undo 14 = .ok (.aload_n 0, 1) := by decide +kernel
theorem dX9_undo_15 : decode cX9_undo 15 = .ok (.dup, 1) := by decide +kernel
theorem dX9_undo_16 : decode cX9_undo 16 = .ok (.getfield 234, 3) := by decide +kernel
theorem dX9_undo_19 : decode cX9_undo 19 = .ok (.iconst 1, 1) := by decide +kernel
theorem dX9_undo_20 : decode cX9_undo 20 = .ok (.isub, 1) := by decide +kernel
theorem dX9_undo_21 : decode cX9_undo 21 = .ok (.putfield 234, 3) := by decide +kernel
theorem dX9_undo_24 : decode cX9_undo 24 = .ok (.aload_n 0, 1) := by decide +kernel
theorem dX9_undo_25 : decode cX9_undo 25 = .ok (.iconst 1, 1) := by decide +kernel
theorem dX9_undo_26 : decode cX9_undo 26 = .ok (.aload_n 0, 1) := by decide +kernel
theorem dX9_undo_27 : decode cX9_undo 27 = .ok (.getfield 234, 3) := by decide +kernel
theorem dX9_undo_30 : decode cX9_undo 30 = .ok (.iadd, 1) := by decide +kernel
theorem dX9_undo_31 : decode cX9_undo 31 = .ok (.iconst 0, 1) := by decide +kernel
theorem dX9_undo_32 : decode cX9_undo 32 = .ok (.invokevirtual 152, 3) := by decide +kernel
theorem dX9_undo_35 : decode cX9_undo 35 = .ok (.aload_n 0, 1) := by decide +kernel
theorem dX9_undo_36 : decode cX9_undo 36 = .ok (.getfield 234, 3) := by decide +kernel
theorem dX9_undo_39 : decode cX9_undo 39 = .ok (.ireturn, 1) := by decide +kernel
theorem dX9_save_0 : decode cX9_save 0 = .ok (.aload_n 0, 1) := by decide +kernel
theorem dX9_save_1 : decode cX9_save 1 = .ok (.iconst 0, 1) := by decide +kernel
theorem dX9_save_2 : decode cX9_save 2 = .ok (.putfield 41, 3) := by decide +kernel
theorem dX9_save_5 : decode cX9_save 5 = .ok (.aload_n 0, 1) := by decide +kernel
theorem dX9_save_6 : decode cX9_save 6 = .ok (.iload_n 1, 1) := by decide +kernel
theorem dX9_save_7 : decode cX9_save 7 = .ok (.iconst 0, 1) := by decide +kernel
theorem dX9_save_8 : decode cX9_save 8 = .ok (.iconst 1, 1) := by decide +kernel
theorem dX9_save_9 : decode cX9_save 9 = .ok (.invokestatic 162, 3) := by decide +kernel
theorem dX9_save_12 : decode cX9_save 12 = .ok (.iconst 1, 1) := by decide +kernel
theorem dX9_save_13 : decode cX9_save 13 = .ok (.invokevirtual 158, 3) := by decide +kernel
theorem dX9_save_16 : decode cX9_save 16 = .ok (.ifCond .ne 4, 3) := by decide +kernel
theorem dX9_save_19 : decode cX9_save 19 = .ok (.return_, 1) := by decide +kernel
theorem dX9_save_20 : decode cX9_save 20 = .ok (.aload_n 0, 1) := by decide +kernel
theorem dX9_save_21 : decode cX9_save 21 = .ok (.iconst 0, 1) := by decide +kernel
theorem dX9_save_22 : decode cX9_save 22 = .ok (.bipush 7, 2) := by decide +kernel
theorem dX9_save_24 : decode cX9_save 24 = .ok (.iload_n 1, 1) := by decide +kernel
theorem dX9_save_25 : decode cX9_save 25 = .ok (.iadd, 1) := by decide +kernel
theorem dX9_save_26 : decode cX9_save 26 = .ok (.invokevirtual 152, 3) := by decide +kernel
theorem dX9_save_29 : decode cX9_save 29 = .ok (.aload_n 0, 1) := by decide +kernel
theorem dX9_save_30 : decode cX9_save 30 = .ok (.getfield 13, 3) := by decide +kernel
theorem dX9_save_33 : decode cX9_save 33 = .ok (.iload_n 1, 1) := by decide +kernel
theorem dX9_save_34 : decode cX9_save 34 = .ok (.iconst 1, 1) := by decide +kernel
theorem dX9_save_35 : decode cX9_save 35 = .ok (.bastore, 1) := by decide +kernel
theorem dX9_save_36 : decode cX9_save 36 = .ok (.return_, 1) := by decide +kernel
theorem dX9_restore_0 : decode cX9_restore 0 = .ok (.aload_n 0, 1) := by decide +kernel
theorem dX9_restore_1 : decode cX9_restore 1 = .ok (.iconst 0, 1) := by decide +kernel
theorem dX9_restore_2 : decode cX9_restore 2 = .ok (.putfield 41, 3) := by decide +kernel
theorem dX9_restore_5 : decode cX9_restore 5 = .ok (.iload_n 1, 1) := by decide +kernel
theorem dX9_restore_6 : decode cX9_restore 6 = .ok (.iconst 0, 1) := by decide +kernel
theorem dX9_restore_7 : decode cX9_restore 7 = .ok (.iconst 1, 1) := by decide +kernel
theorem dX9_restore_8 : decode cX9_restore 8 = .ok (.invokestatic 162, 3) := by decide +kernel
theorem dX9_restore_11 : decode cX9_restore 11 = .ok (.istore_n 2, 1) := by decide +kernel
theorem dX9_restore_12 : decode cX9_restore 12 = .ok (.aload_n 0, 1) := by decide +kernel
theorem dX9_restore_13 : decode cX9_restore 13 = .ok (.iload_n 2, 1) := by decide +kernel
theorem dX9_restore_14 : decode cX9_restore 14 = .ok (.iconst 1, 1) := by decide +kernel
theorem dX9_restore_15 : decode cX9_restore 15 = .ok (.invokevirtual 158, 3) := by decide +kernel
theorem dX9_restore_18 : decode cX9_restore 18 = .ok (.ifCond .eq 17, 3) := by decide +kernel
theorem dX9_restore_21 : decode cX9_restore 21 = .ok (.aload_n 0, 1) := by decide +kernel
theorem dX9_restore_22 : decode cX9_restore 22 = .ok (.aload_n 0, 1) := by decide +kernel
theorem dX9_restore_23 : decode cX9_restore 23 = .ok (.getfield 13, 3) := by decide +kernel
theorem dX9_restore_26 : decode cX9_restore 26 = .ok (.iload_n 1, 1) := by decide +kernel
theorem dX9_restore_27 : decode cX9_restore 27 = .ok (.baload, 1) := by decide +kernel
theorem dX9_restore_28 : decode cX9_restore 28 = .ok (.iconst 2, 1) := by decide +kernel
theorem dX9_restore_29 : decode cX9_restore 29 = .ok (.invokevirtual 158, 3) := by decide +kernel
theorem dX9_restore_32 : decode cX9_restore 32 = .ok (.ifCond .ne 4, 3) := by decide +kernel
theorem dX9_restore_35 : decode cX9_restore 35 = .ok (.return_, 1) := by decide +kernel
theorem dX9_restore_36 : decode cX9_restore 36 = .ok (.aload_n 0, 1) := by decide +kernel
theorem dX9_restore_37 : decode cX9_restore 37 = .ok (.bipush 7, 2) := by decide +kernel
theorem dX9_restore_39 : decode cX9_restore 39 = .ok (.iload_n 1, 1) := by decide +kernel
theorem dX9_restore_40 : decode cX9_restore 40 = .ok (.iadd, 1) := by decide +kernel
theorem dX9_restore_41 : decode cX9_restore 41 = .ok (.iconst 0, 1) := by decide +kernel
theorem dX9_restore_42 : decode cX9_restore 42 = .ok (.invokevirtual 152, 3) := by decide +kernel
theorem dX9_restore_45 : decode cX9_restore 45 = .ok (.aload_n 0, 1) := by decide +kernel
theorem dX9_restore_46 : decode cX9_restore 46 = .ok (.iconst 0, 1) := by decide +kernel
theorem dX9_restore_47 : decode cX9_restore 47 = .ok (.putfield 234, 3) := by decide +kernel
theorem dX9_restore_50 : decode cX9_restore 50 = .ok (.return_, 1) := by decide +kernel
