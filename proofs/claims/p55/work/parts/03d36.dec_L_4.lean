theorem dL_isDoneAgain_10 : decode cL_isDoneAgain 10 = .ok (.invokevirtual 34, 3) := by decide +kernel
theorem dL_isDoneAgain_13 : decode cL_isDoneAgain 13 = .ok (.istore_n 3, 1) := by decide +kernel
theorem dL_isDoneAgain_14 : decode cL_isDoneAgain 14 = .ok (.aload_n 1, 1) := by decide +kernel
theorem dL_isDoneAgain_15 : decode cL_isDoneAgain 15 = .ok (.ldc 228, 2) := by decide +kernel
theorem dL_isDoneAgain_17 : decode cL_isDoneAgain 17 = .ok (.invokevirtual 34, 3) := by decide +kernel
theorem dL_isDoneAgain_20 : decode cL_isDoneAgain 20 = .ok (.istore 4, 2) := by decide +kernel
theorem dL_isDoneAgain_22 : decode cL_isDoneAgain 22 = .ok (.aload_n 1, 1) := by decide +kernel
theorem dL_isDoneAgain_23 : decode cL_isDoneAgain 23 = .ok (.iconst 4, 1) := by decide +kernel
theorem dL_isDoneAgain_24 : decode cL_isDoneAgain 24 = .ok (.invokevirtual 34, 3) := by decide +kernel
theorem dL_isDoneAgain_27 : decode cL_isDoneAgain 27 = .ok (.ifCond .ne 7, 3) := by decide +kernel
theorem dL_isDoneAgain_30 : decode cL_isDoneAgain 30 = .ok (.iconst 1, 1) := by decide +kernel
theorem dL_isDoneAgain_31 : decode cL_isDoneAgain 31 = .ok (.goto 4, 3) := by decide +kernel
theorem dL_isDoneAgain_34 : decode cL_isDoneAgain 34 = .ok (.iconst 0, 1) := by decide +kernel
theorem dL_isDoneAgain_35 : decode cL_isDoneAgain 35 = .ok (.istore 5, 2) := by decide +kernel
theorem dL_isDoneAgain_37 : decode cL_isDoneAgain 37 = .ok (.iload 5, 2) := by decide +kernel
theorem dL_isDoneAgain_39 : decode cL_isDoneAgain 39 = .ok (.ifCond .eq 10, 3) := by decide +kernel
theorem dL_isDoneAgain_42 : decode cL_isDoneAgain 42 = .ok (.aload_n 0, 1) := by decide +kernel
theorem dL_isDoneAgain_43 : decode cL_isDoneAgain 43 = .ok (.invokestatic 229, 3) := by decide +kernel
theorem dL_isDoneAgain_46 : decode cL_isDoneAgain 46 = .ok (.goto 4, 3) := by decide +kernel
theorem dL_isDoneAgain_49 : decode cL_isDoneAgain 49 = .ok (.aconst_null, 1) := by decide +kernel
theorem dL_isDoneAgain_50 : decode cL_isDoneAgain 50 = .ok (.astore 6, 2) := by decide +kernel
theorem dL_isDoneAgain_52 : decode cL_isDoneAgain 52 = .ok (.aload_n 0, 1) := by decide +kernel
theorem dL_isDoneAgain_53 : decode cL_isDoneAgain 53 = .ok (.iload_n 2, 1) := by decide +kernel
theorem dL_isDoneAgain_54 : decode cL_isDoneAgain 54 = .ok (.iload_n 3, 1) := by decide +kernel
theorem dL_isDoneAgain_55 : decode cL_isDoneAgain 55 = .ok (.iload 4, 2) := by decide +kernel
theorem dL_isDoneAgain_57 : decode cL_isDoneAgain 57 = .ok (.invokestatic 233, 3) := by decide +kernel
theorem dL_isDoneAgain_60 : decode cL_isDoneAgain 60 = .ok (.ifCond .eq 10, 3) := by decide +kernel
theorem dL_isDoneAgain_63 : decode cL_isDoneAgain 63 = .ok (.aload_n 0, 1) := by decide +kernel
theorem dL_isDoneAgain_64 : decode cL_isDoneAgain 64 = .ok (.invokestatic 236, 3) := by decide +kernel
theorem dL_isDoneAgain_67 : decode cL_isDoneAgain 67 = .ok (.ifCond .ne 5, 3) := by decide +kernel
theorem dL_isDoneAgain_70 : decode cL_isDoneAgain 70 = .ok (.iconst 0, 1) := by decide +kernel
theorem dL_isDoneAgain_71 : decode cL_isDoneAgain 71 = .ok (.ireturn, 1) := by decide +kernel
theorem dL_isDoneAgain_72 : decode cL_isDoneAgain 72 = .ok (.iload 5, 2) := by decide +kernel
theorem dL_isDoneAgain_74 : decode cL_isDoneAgain 74 = .ok (.ifCond .ne 5, 3) := by decide +kernel
theorem dL_isDoneAgain_77 : decode cL_isDoneAgain 77 = .ok (.iconst 1, 1) := by decide +kernel
theorem dL_isDoneAgain_78 : decode cL_isDoneAgain 78 = .ok (.ireturn, 1) := by decide +kernel
theorem dL_isDoneAgain_79 : decode cL_isDoneAgain 79 = .ok (.aload_n 0, 1) := by decide +kernel
theorem dL_isDoneAgain_80 : decode cL_isDoneAgain 80 = .ok (.invokestatic 229, 3) := by decide +kernel
theorem dL_isDoneAgain_83 : decode cL_isDoneAgain 83 = .ok (.astore 7, 2) := by decide +kernel
theorem dL_isDoneAgain_85 : decode cL_isDoneAgain 85 = .ok (.aload 7, 2) := by decide +kernel
theorem dL_isDoneAgain_87 : decode cL_isDoneAgain 87 = .ok (.aload 6, 2) := by decide +kernel
theorem dL_isDoneAgain_89 : decode cL_isDoneAgain 89 = .ok (.invokestatic 239, 3) := by decide +kernel
theorem dL_isDoneAgain_92 : decode cL_isDoneAgain 92 = .ok (.ifCond .eq 5, 3) := by decide +kernel
theorem dL_isDoneAgain_95 : decode cL_isDoneAgain 95 = .ok (.iconst 1, 1) := by decide +kernel
theorem dL_isDoneAgain_96 : decode cL_isDoneAgain 96 = .ok (.ireturn, 1) := by decide +kernel
theorem dL_isDoneAgain_97 : decode cL_isDoneAgain 97 = .ok (.aload_n 0, 1) := by decide +kernel
theorem dL_isDoneAgain_98 : decode cL_isDoneAgain 98 = .ok (.invokevirtual 243, 3) := by decide +kernel
theorem dL_isDoneAgain_101 : decode cL_isDoneAgain 101 = .ok (.ifCond .lt 15, 3) := by decide +kernel
theorem dL_isDoneAgain_104 : decode cL_isDoneAgain 104 = .ok (.aload_n 0, 1) := by decide +kernel
theorem dL_isDoneAgain_105 : decode cL_isDoneAgain 105 = .ok (.invokestatic 229, 3) := by decide +kernel
theorem dL_isDoneAgain_108 : decode cL_isDoneAgain 108 = .ok (.aload 6, 2) := by decide +kernel
theorem dL_isDoneAgain_110 : decode cL_isDoneAgain 110 = .ok (.invokestatic 239, 3) := by decide +kernel
theorem dL_isDoneAgain_113 : decode cL_isDoneAgain 113 = .ok (.ifCond .ne 5, 3) := by decide +kernel
theorem dL_isDoneAgain_116 : decode cL_isDoneAgain 116 = .ok (.iconst 0, 1) := by decide +kernel
theorem dL_isDoneAgain_117 : decode cL_isDoneAgain 117 = .ok (.ireturn, 1) := by decide +kernel
theorem dL_isDoneAgain_118 : decode cL_isDoneAgain 118 = .ok (.aload_n 0, 1) := by decide +kernel
theorem dL_isDoneAgain_119 : decode cL_isDoneAgain 119 = .ok (.iload_n 2, 1) := by decide +kernel
theorem dL_isDoneAgain_120 : decode cL_isDoneAgain 120 = .ok (.iload_n 3, 1) := by decide +kernel
theorem dL_isDoneAgain_121 : decode cL_isDoneAgain 121 = .ok (.iload 4, 2) := by decide +kernel
theorem dL_isDoneAgain_123 : decode cL_isDoneAgain 123 = .ok (.invokestatic 233, 3) := by decide +kernel
theorem dL_isDoneAgain_126 : decode cL_isDoneAgain 126 = .ok (.ifCond .eq 19, 3) := by decide +kernel
theorem dL_isDoneAgain_129 : decode cL_isDoneAgain 129 = .ok (.aload_n 0, 1) := by decide +kernel
theorem dL_isDoneAgain_130 : decode cL_isDoneAgain 130 = .ok (.invokestatic 229, 3) := by decide +kernel
theorem dL_isDoneAgain_133 : decode cL_isDoneAgain 133 = .ok (.aload 7, 2) := by decide +kernel
theorem dL_isDoneAgain_135 : decode cL_isDoneAgain 135 = .ok (.invokestatic 239, 3) := by decide +kernel
theorem dL_isDoneAgain_138 : decode cL_isDoneAgain 138 = .ok (.ifCond .eq 7, 3) := by decide +kernel
theorem dL_isDoneAgain_141 : decode cL_isDoneAgain 141 = .ok (.iconst 1, 1) := by decide +kernel
theorem dL_isDoneAgain_142 : decode cL_isDoneAgain 142 = .ok (.goto 4, 3) := by decide +kernel
theorem dL_isDoneAgain_145 : decode cL_isDoneAgain 145 = .ok (.iconst 0, 1) := by decide +kernel
theorem dL_isDoneAgain_146 : decode cL_isDoneAgain 146 = .ok (.ireturn, 1) := by decide +kernel
theorem dL_law_0 : decode cL_law 0 = .ok (.new 35, 3) := by decide +kernel
theorem dL_law_3 : decode cL_law 3 = .ok (.dup, 1) := by decide +kernel
theorem dL_law_4 : decode cL_law 4 = .ok (.aload_n 0, 1) := by decide +kernel
theorem dL_law_5 : decode cL_law 5 = .ok (.invokespecial 246, 3) := by decide +kernel
theorem dL_law_8 : decode cL_law 8 = .ok (.astore_n 1, 1) := by decide +kernel
theorem dL_law_9 : decode cL_law 9 = .ok (.new 9, 3) := by decide +kernel
theorem dL_law_12 : decode cL_law 12 = .ok (.dup, 1) := by decide +kernel
theorem dL_law_13 : decode cL_law 13 = .ok (.invokespecial 249, 3) := by decide +kernel
theorem dL_law_16 : decode cL_law 16 = .ok (.astore_n 2, 1) := by decide +kernel
theorem dL_law_17 : decode cL_law 17 = .ok (.aload_n 2, 1) := by decide +kernel
theorem dL_law_18 : decode cL_law 18 = .ok (.invokestatic 236, 3) := by decide +kernel
theorem dL_law_21 : decode cL_law 21 = .ok (.ifCond .eq 11, 3) := by decide +kernel
theorem dL_law_24 : decode cL_law 24 = .ok (.aload_n 2, 1) := by decide +kernel
theorem dL_law_25 : decode cL_law 25 = .ok (.invokevirtual 243, 3) := by decide +kernel
theorem dL_law_28 : decode cL_law 28 = .ok (.iconst (-1), 1) := by decide +kernel
theorem dL_law_29 : decode cL_law 29 = .ok (.if_icmp .eq 5, 3) := by decide +kernel
theorem dL_law_32 : decode cL_law 32 = .ok (.iconst 0, 1) := by decide +kernel
theorem dL_law_33 : decode cL_law 33 = .ok (.ireturn, 1) := by decide +kernel
theorem dL_law_34 : decode cL_law 34 = .ok (.aload_n 2, 1) := by decide +kernel
theorem dL_law_35 : decode cL_law 35 = .ok (.aload_n 1, 1) := by decide +kernel
theorem dL_law_36 : decode cL_law 36 = .ok (.invokestatic 250, 3) := by decide +kernel
theorem dL_law_39 : decode cL_law 39 = .ok (.invokestatic 254, 3) := by decide +kernel
theorem dL_law_42 : decode cL_law 42 = .ok (.aload_n 2, 1) := by decide +kernel
theorem dL_law_43 : decode cL_law 43 = .ok (.invokevirtual 258, 3) := by decide +kernel
theorem dL_law_46 : decode cL_law 46 = .ok (.ifCond .lt 10, 3) := by decide +kernel
theorem dL_law_49 : decode cL_law 49 = .ok (.aload_n 2, 1) := by decide +kernel
theorem dL_law_50 : decode cL_law 50 = .ok (.invokestatic 236, 3) := by decide +kernel
theorem dL_law_53 : decode cL_law 53 = .ok (.ifCond .ne 5, 3) := by decide +kernel
theorem dL_law_56 : decode cL_law 56 = .ok (.iconst 0, 1) := by decide +kernel
theorem dL_law_57 : decode cL_law 57 = .ok (.ireturn, 1) := by decide +kernel
theorem dL_law_58 : decode cL_law 58 = .ok (.iconst 0, 1) := by decide +kernel
theorem dL_law_59 : decode cL_law 59 = .ok (.istore_n 3, 1) := by decide +kernel
theorem dL_law_60 : decode cL_law 60 = .ok (.iload_n 3, 1) := by decide +kernel
theorem dL_law_61 : decode cL_law 61 = .ok (.bipush 28, 2) := by decide +kernel
theorem dL_law_63 : decode cL_law 63 = .ok (.if_icmp .ge 19, 3) := by decide +kernel
theorem dL_law_66 : decode cL_law 66 = .ok (.aload_n 2, 1) := by decide +kernel
theorem dL_law_67 : decode cL_law 67 = .ok (.aload_n 1, 1) := by decide +kernel
theorem dL_law_68 : decode cL_law 68 = .ok (.invokestatic 261, 3) := by decide +kernel
theorem dL_law_71 : decode cL_law 71 = .ok (.ifCond .ne 5, 3) := by decide +kernel
theorem dL_law_74 : decode cL_law 74 = .ok (.iconst 0, 1) := by decide +kernel
theorem dL_law_75 : decode cL_law 75 = .ok (.ireturn, 1) := by decide +kernel
theorem dL_law_76 : decode cL_law 76 = .ok (.iinc 3 1, 3) := by decide +kernel
theorem dL_law_79 : decode cL_law 79 = .ok (.goto (-19), 3) := by decide +kernel
theorem dL_law_82 : decode cL_law 82 = .ok (.aload_n 2, 1) := by decide +kernel
theorem dL_law_83 : decode cL_law 83 = .ok (.invokestatic 229, 3) := by decide +kernel
theorem dL_law_86 : decode cL_law 86 = .ok (.astore_n 3, 1) := by decide +kernel
theorem dL_law_87 : decode cL_law 87 = .ok (.aload_n 2, 1) := by decide +kernel
theorem dL_law_88 : decode cL_law 88 = .ok (.iconst 1, 1) := by decide +kernel
theorem dL_law_89 : decode cL_law 89 = .ok (.invokevirtual 265, 3) := by decide +kernel
theorem dL_law_92 : decode cL_law 92 = .ok (.iconst 0, 1) := by decide +kernel
theorem dL_law_93 : decode cL_law 93 = .ok (.istore 4, 2) := by decide +kernel
theorem dL_law_95 : decode cL_law 95 = .ok (.iload 4, 2) := by decide +kernel
theorem dL_law_97 : decode cL_law 97 = .ok (.iconst 5, 1) := by decide +kernel
theorem dL_law_98 : decode cL_law 98 = .ok (.if_icmp .ge 19, 3) := by decide +kernel
theorem dL_law_101 : decode cL_law 101 = .ok (.aload_n 2, 1) := by decide +kernel
theorem dL_law_102 : decode cL_law 102 = .ok (.aload_n 1, 1) := by decide +kernel
theorem dL_law_103 : decode cL_law 103 = .ok (.invokestatic 261, 3) := by decide +kernel
theorem dL_law_106 : decode cL_law 106 = .ok (.ifCond .ne 5, 3) := by decide +kernel
theorem dL_law_109 : decode cL_law 109 = .ok (.iconst 0, 1) := by decide +kernel
theorem dL_law_110 : decode cL_law 110 = .ok (.ireturn, 1) := by decide +kernel
theorem dL_law_111 : decode cL_law 111 = .ok (.iinc 4 1, 3) := by decide +kernel
theorem dL_law_114 : decode cL_law 114 = .ok (.goto (-19), 3) := by decide +kernel
theorem dL_law_117 : decode cL_law 117 = .ok (.aload_n 2, 1) := by decide +kernel
theorem dL_law_118 : decode cL_law 118 = .ok (.iconst 1, 1) := by decide +kernel
theorem dL_law_119 : decode cL_law 119 = .ok (.invokevirtual 269, 3) := by decide +kernel
theorem dL_law_122 : decode cL_law 122 = .ok (.aload_n 2, 1) := by decide +kernel
theorem dL_law_123 : decode cL_law 123 = .ok (.invokestatic 229, 3) := by decide +kernel
theorem dL_law_126 : decode cL_law 126 = .ok (.aload_n 3, 1) := by decide +kernel
theorem dL_law_127 : decode cL_law 127 = .ok (.invokestatic 239, 3) := by decide +kernel
theorem dL_law_130 : decode cL_law 130 = .ok (.ifCond .eq 15, 3) := by decide +kernel
theorem dL_law_133 : decode cL_law 133 = .ok (.aload_n 2, 1) := by decide +kernel
theorem dL_law_134 : decode cL_law 134 = .ok (.invokevirtual 243, 3) := by decide +kernel
theorem dL_law_137 : decode cL_law 137 = .ok (.iconst (-1), 1) := by decide +kernel
theorem dL_law_138 : decode cL_law 138 = .ok (.if_icmp .ne 7, 3) := by decide +kernel
theorem dL_law_141 : decode cL_law 141 = .ok (.iconst 1, 1) := by decide +kernel
theorem dL_law_142 : decode cL_law 142 = .ok (.goto 4, 3) := by decide +kernel
theorem dL_law_145 : decode cL_law 145 = .ok (.iconst 0, 1) := by decide +kernel
theorem dL_law_146 : decode cL_law 146 = .ok (.ireturn, 1) := by decide +kernel
