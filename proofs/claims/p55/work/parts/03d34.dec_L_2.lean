theorem dL_digest_10 : decode cL_digest 10 = .ok (.iload_n 3, 1) := by decide +kernel
theorem dL_digest_11 : decode cL_digest 11 = .ok (.bipush 12, 2) := by decide +kernel
theorem dL_digest_13 : decode cL_digest 13 = .ok (.if_icmp .ge 20, 3) := by decide +kernel
theorem dL_digest_16 : decode cL_digest 16 = .ok (.aload_n 1, 1) := by decide +kernel
theorem dL_digest_17 : decode cL_digest 17 = .ok (.iload_n 2, 1) := by decide +kernel
theorem dL_digest_18 : decode cL_digest 18 = .ok (.iinc 2 1, 3) := by decide +kernel
theorem dL_digest_21 : decode cL_digest 21 = .ok (.aload_n 0, 1) := by decide +kernel
theorem dL_digest_22 : decode cL_digest 22 = .ok (.iload_n 3, 1) := by decide +kernel
theorem dL_digest_23 : decode cL_digest 23 = .ok (.invokevirtual 68, 3) := by decide +kernel
theorem dL_digest_26 : decode cL_digest 26 = .ok (.iastore, 1) := by decide +kernel
theorem dL_digest_27 : decode cL_digest 27 = .ok (.iinc 3 1, 3) := by decide +kernel
theorem dL_digest_30 : decode cL_digest 30 = .ok (.goto (-20), 3) := by decide +kernel
theorem dL_digest_33 : decode cL_digest 33 = .ok (.iconst 0, 1) := by decide +kernel
theorem dL_digest_34 : decode cL_digest 34 = .ok (.istore_n 3, 1) := by decide +kernel
theorem dL_digest_35 : decode cL_digest 35 = .ok (.iload_n 3, 1) := by decide +kernel
theorem dL_digest_36 : decode cL_digest 36 = .ok (.bipush 10, 2) := by decide +kernel
theorem dL_digest_38 : decode cL_digest 38 = .ok (.if_icmp .ge 20, 3) := by decide +kernel
theorem dL_digest_41 : decode cL_digest 41 = .ok (.aload_n 1, 1) := by decide +kernel
theorem dL_digest_42 : decode cL_digest 42 = .ok (.iload_n 2, 1) := by decide +kernel
theorem dL_digest_43 : decode cL_digest 43 = .ok (.iinc 2 1, 3) := by decide +kernel
theorem dL_digest_46 : decode cL_digest 46 = .ok (.aload_n 0, 1) := by decide +kernel
theorem dL_digest_47 : decode cL_digest 47 = .ok (.iload_n 3, 1) := by decide +kernel
theorem dL_digest_48 : decode cL_digest 48 = .ok (.invokevirtual 137, 3) := by decide +kernel
theorem dL_digest_51 : decode cL_digest 51 = .ok (.iastore, 1) := by decide +kernel
theorem dL_digest_52 : decode cL_digest 52 = .ok (.iinc 3 1, 3) := by decide +kernel
theorem dL_digest_55 : decode cL_digest 55 = .ok (.goto (-20), 3) := by decide +kernel
theorem dL_digest_58 : decode cL_digest 58 = .ok (.iconst 0, 1) := by decide +kernel
theorem dL_digest_59 : decode cL_digest 59 = .ok (.istore_n 3, 1) := by decide +kernel
theorem dL_digest_60 : decode cL_digest 60 = .ok (.iload_n 3, 1) := by decide +kernel
theorem dL_digest_61 : decode cL_digest 61 = .ok (.aload_n 0, 1) := by decide +kernel
theorem dL_digest_62 : decode cL_digest 62 = .ok (.iconst 0, 1) := by decide +kernel
theorem dL_digest_63 : decode cL_digest 63 = .ok (.invokevirtual 68, 3) := by decide +kernel
theorem dL_digest_66 : decode cL_digest 66 = .ok (.if_icmp .ge 92, 3) := by decide +kernel
theorem dL_digest_69 : decode cL_digest 69 = .ok (.iconst 0, 1) := by decide +kernel
theorem dL_digest_70 : decode cL_digest 70 = .ok (.istore 4, 2) := by decide +kernel
theorem dL_digest_72 : decode cL_digest 72 = .ok (.iload 4, 2) := by decide +kernel
theorem dL_digest_74 : decode cL_digest 74 = .ok (.bipush 14, 2) := by decide +kernel
theorem dL_digest_76 : decode cL_digest 76 = .ok (.if_icmp .ge 22, 3) := by decide +kernel
theorem dL_digest_79 : decode cL_digest 79 = .ok (.aload_n 1, 1) := by decide +kernel
theorem dL_digest_80 : decode cL_digest 80 = .ok (.iload_n 2, 1) := by decide +kernel
theorem dL_digest_81 : decode cL_digest 81 = .ok (.iinc 2 1, 3) := by decide +kernel
theorem dL_digest_84 : decode cL_digest 84 = .ok (.aload_n 0, 1) := by decide +kernel
theorem dL_digest_85 : decode cL_digest 85 = .ok (.iload_n 3, 1) := by decide +kernel
theorem dL_digest_86 : decode cL_digest 86 = .ok (.iload 4, 2) := by decide +kernel
theorem dL_digest_88 : decode cL_digest 88 = .ok (.invokevirtual 59, 3) := by decide +kernel
theorem dL_digest_91 : decode cL_digest 91 = .ok (.iastore, 1) := by decide +kernel
theorem dL_digest_92 : decode cL_digest 92 = .ok (.iinc 4 1, 3) := by decide +kernel
theorem dL_digest_95 : decode cL_digest 95 = .ok (.goto (-23), 3) := by decide +kernel
theorem dL_digest_98 : decode cL_digest 98 = .ok (.iconst 0, 1) := by decide +kernel
theorem dL_digest_99 : decode cL_digest 99 = .ok (.istore 4, 2) := by decide +kernel
theorem dL_digest_101 : decode cL_digest 101 = .ok (.iload 4, 2) := by decide +kernel
theorem dL_digest_103 : decode cL_digest 103 = .ok (.iconst 2, 1) := by decide +kernel
theorem dL_digest_104 : decode cL_digest 104 = .ok (.if_icmp .ge 48, 3) := by decide +kernel
theorem dL_digest_107 : decode cL_digest 107 = .ok (.iconst 0, 1) := by decide +kernel
theorem dL_digest_108 : decode cL_digest 108 = .ok (.istore 5, 2) := by decide +kernel
theorem dL_digest_110 : decode cL_digest 110 = .ok (.iload 5, 2) := by decide +kernel
theorem dL_digest_112 : decode cL_digest 112 = .ok (.aload_n 0, 1) := by decide +kernel
theorem dL_digest_113 : decode cL_digest 113 = .ok (.iload_n 3, 1) := by decide +kernel
theorem dL_digest_114 : decode cL_digest 114 = .ok (.bipush 9, 2) := by decide +kernel
theorem dL_digest_116 : decode cL_digest 116 = .ok (.iload 4, 2) := by decide +kernel
theorem dL_digest_118 : decode cL_digest 118 = .ok (.iadd, 1) := by decide +kernel
theorem dL_digest_119 : decode cL_digest 119 = .ok (.invokevirtual 59, 3) := by decide +kernel
theorem dL_digest_122 : decode cL_digest 122 = .ok (.if_icmp .ge 24, 3) := by decide +kernel
theorem dL_digest_125 : decode cL_digest 125 = .ok (.aload_n 1, 1) := by decide +kernel
theorem dL_digest_126 : decode cL_digest 126 = .ok (.iload_n 2, 1) := by decide +kernel
theorem dL_digest_127 : decode cL_digest 127 = .ok (.iinc 2 1, 3) := by decide +kernel
theorem dL_digest_130 : decode cL_digest 130 = .ok (.aload_n 0, 1) := by decide +kernel
theorem dL_digest_131 : decode cL_digest 131 = .ok (.iload_n 3, 1) := by decide +kernel
theorem dL_digest_132 : decode cL_digest 132 = .ok (.iload 4, 2) := by decide +kernel
theorem dL_digest_134 : decode cL_digest 134 = .ok (.iload 5, 2) := by decide +kernel
theorem dL_digest_136 : decode cL_digest 136 = .ok (.invokevirtual 80, 3) := by decide +kernel
theorem dL_digest_139 : decode cL_digest 139 = .ok (.iastore, 1) := by decide +kernel
theorem dL_digest_140 : decode cL_digest 140 = .ok (.iinc 5 1, 3) := by decide +kernel
theorem dL_digest_143 : decode cL_digest 143 = .ok (.goto (-33), 3) := by decide +kernel
theorem dL_digest_146 : decode cL_digest 146 = .ok (.iinc 4 1, 3) := by decide +kernel
theorem dL_digest_149 : decode cL_digest 149 = .ok (.goto (-48), 3) := by decide +kernel
theorem dL_digest_152 : decode cL_digest 152 = .ok (.iinc 3 1, 3) := by decide +kernel
theorem dL_digest_155 : decode cL_digest 155 = .ok (.goto (-95), 3) := by decide +kernel
theorem dL_digest_158 : decode cL_digest 158 = .ok (.iconst 0, 1) := by decide +kernel
theorem dL_digest_159 : decode cL_digest 159 = .ok (.istore_n 3, 1) := by decide +kernel
theorem dL_digest_160 : decode cL_digest 160 = .ok (.iload_n 3, 1) := by decide +kernel
theorem dL_digest_161 : decode cL_digest 161 = .ok (.aload_n 0, 1) := by decide +kernel
theorem dL_digest_162 : decode cL_digest 162 = .ok (.bipush 8, 2) := by decide +kernel
theorem dL_digest_164 : decode cL_digest 164 = .ok (.invokevirtual 68, 3) := by decide +kernel
theorem dL_digest_167 : decode cL_digest 167 = .ok (.if_icmp .ge 37, 3) := by decide +kernel
theorem dL_digest_170 : decode cL_digest 170 = .ok (.iconst 0, 1) := by decide +kernel
theorem dL_digest_171 : decode cL_digest 171 = .ok (.istore 4, 2) := by decide +kernel
theorem dL_digest_173 : decode cL_digest 173 = .ok (.iload 4, 2) := by decide +kernel
theorem dL_digest_175 : decode cL_digest 175 = .ok (.iconst 4, 1) := by decide +kernel
theorem dL_digest_176 : decode cL_digest 176 = .ok (.if_icmp .ge 22, 3) := by decide +kernel
theorem dL_digest_179 : decode cL_digest 179 = .ok (.aload_n 1, 1) := by decide +kernel
theorem dL_digest_180 : decode cL_digest 180 = .ok (.iload_n 2, 1) := by decide +kernel
theorem dL_digest_181 : decode cL_digest 181 = .ok (.iinc 2 1, 3) := by decide +kernel
theorem dL_digest_184 : decode cL_digest 184 = .ok (.aload_n 0, 1) := by decide +kernel
theorem dL_digest_185 : decode cL_digest 185 = .ok (.iload_n 3, 1) := by decide +kernel
theorem dL_digest_186 : decode cL_digest 186 = .ok (.iload 4, 2) := by decide +kernel
theorem dL_digest_188 : decode cL_digest 188 = .ok (.invokevirtual 91, 3) := by decide +kernel
theorem dL_digest_191 : decode cL_digest 191 = .ok (.iastore, 1) := by decide +kernel
theorem dL_digest_192 : decode cL_digest 192 = .ok (.iinc 4 1, 3) := by decide +kernel
theorem dL_digest_195 : decode cL_digest 195 = .ok (.goto (-22), 3) := by decide +kernel
theorem dL_digest_198 : decode cL_digest 198 = .ok (.iinc 3 1, 3) := by decide +kernel
theorem dL_digest_201 : decode cL_digest 201 = .ok (.goto (-41), 3) := by decide +kernel
theorem dL_digest_204 : decode cL_digest 204 = .ok (.aload_n 1, 1) := by decide +kernel
theorem dL_digest_205 : decode cL_digest 205 = .ok (.areturn, 1) := by decide +kernel
theorem dL_isSame_0 : decode cL_isSame 0 = .ok (.iconst 0, 1) := by decide +kernel
theorem dL_isSame_1 : decode cL_isSame 1 = .ok (.istore_n 2, 1) := by decide +kernel
theorem dL_isSame_2 : decode cL_isSame 2 = .ok (.iload_n 2, 1) := by decide +kernel
theorem dL_isSame_3 : decode cL_isSame 3 = .ok (.aload_n 0, 1) := by decide +kernel
theorem dL_isSame_4 : decode cL_isSame 4 = .ok (.arraylength, 1) := by decide +kernel
theorem dL_isSame_5 : decode cL_isSame 5 = .ok (.if_icmp .ge 20, 3) := by decide +kernel
theorem dL_isSame_8 : decode cL_isSame 8 = .ok (.aload_n 0, 1) := by decide +kernel
theorem dL_isSame_9 : decode cL_isSame 9 = .ok (.iload_n 2, 1) := by decide +kernel
theorem dL_isSame_10 : decode cL_isSame 10 = .ok (.iaload, 1) := by decide +kernel
theorem dL_isSame_11 : decode cL_isSame 11 = .ok (.aload_n 1, 1) := by decide +kernel
theorem dL_isSame_12 : decode cL_isSame 12 = .ok (.iload_n 2, 1) := by decide +kernel
theorem dL_isSame_13 : decode cL_isSame 13 = .ok (.iaload, 1) := by decide +kernel
theorem dL_isSame_14 : decode cL_isSame 14 = .ok (.if_icmp .eq 5, 3) := by decide +kernel
theorem dL_isSame_17 : decode cL_isSame 17 = .ok (.iconst 0, 1) := by decide +kernel
theorem dL_isSame_18 : decode cL_isSame 18 = .ok (.ireturn, 1) := by decide +kernel
theorem dL_isSame_19 : decode cL_isSame 19 = .ok (.iinc 2 1, 3) := by decide +kernel
theorem dL_isSame_22 : decode cL_isSame 22 = .ok (.goto (-20), 3) := by decide +kernel
theorem dL_isSame_25 : decode cL_isSame 25 = .ok (.iconst 1, 1) := by decide +kernel
theorem dL_isSame_26 : decode cL_isSame 26 = .ok (.ireturn, 1) := by decide +kernel
theorem dL_isWorking_0 : decode cL_isWorking 0 = .ok (.aload_n 0, 1) := by decide +kernel
theorem dL_isWorking_1 : decode cL_isWorking 1 = .ok (.iload_n 1, 1) := by decide +kernel
theorem dL_isWorking_2 : decode cL_isWorking 2 = .ok (.iconst 5, 1) := by decide +kernel
theorem dL_isWorking_3 : decode cL_isWorking 3 = .ok (.invokevirtual 59, 3) := by decide +kernel
theorem dL_isWorking_6 : decode cL_isWorking 6 = .ok (.istore 4, 2) := by decide +kernel
theorem dL_isWorking_8 : decode cL_isWorking 8 = .ok (.aload_n 0, 1) := by decide +kernel
theorem dL_isWorking_9 : decode cL_isWorking 9 = .ok (.iload_n 1, 1) := by decide +kernel
theorem dL_isWorking_10 : decode cL_isWorking 10 = .ok (.bipush 9, 2) := by decide +kernel
theorem dL_isWorking_12 : decode cL_isWorking 12 = .ok (.iload_n 2, 1) := by decide +kernel
theorem dL_isWorking_13 : decode cL_isWorking 13 = .ok (.iadd, 1) := by decide +kernel
theorem dL_isWorking_14 : decode cL_isWorking 14 = .ok (.invokevirtual 59, 3) := by decide +kernel
theorem dL_isWorking_17 : decode cL_isWorking 17 = .ok (.istore 5, 2) := by decide +kernel
theorem dL_isWorking_19 : decode cL_isWorking 19 = .ok (.iload_n 3, 1) := by decide +kernel
theorem dL_isWorking_20 : decode cL_isWorking 20 = .ok (.bipush 10, 2) := by decide +kernel
theorem dL_isWorking_22 : decode cL_isWorking 22 = .ok (.aload_n 0, 1) := by decide +kernel
theorem dL_isWorking_23 : decode cL_isWorking 23 = .ok (.iload_n 1, 1) := by decide +kernel
theorem dL_isWorking_24 : decode cL_isWorking 24 = .ok (.iconst 2, 1) := by decide +kernel
theorem dL_isWorking_25 : decode cL_isWorking 25 = .ok (.iload_n 2, 1) := by decide +kernel
theorem dL_isWorking_26 : decode cL_isWorking 26 = .ok (.iadd, 1) := by decide +kernel
theorem dL_isWorking_27 : decode cL_isWorking 27 = .ok (.invokevirtual 59, 3) := by decide +kernel
theorem dL_isWorking_30 : decode cL_isWorking 30 = .ok (.isub, 1) := by decide +kernel
theorem dL_isWorking_31 : decode cL_isWorking 31 = .ok (.imul, 1) := by decide +kernel
theorem dL_isWorking_32 : decode cL_isWorking 32 = .ok (.istore 6, 2) := by decide +kernel
theorem dL_isWorking_34 : decode cL_isWorking 34 = .ok (.iload 6, 2) := by decide +kernel
theorem dL_isWorking_36 : decode cL_isWorking 36 = .ok (.iload 4, 2) := by decide +kernel
theorem dL_isWorking_38 : decode cL_isWorking 38 = .ok (.if_icmp .le 8, 3) := by decide +kernel
theorem dL_isWorking_41 : decode cL_isWorking 41 = .ok (.bipush (-2), 2) := by decide +kernel
theorem dL_isWorking_43 : decode cL_isWorking 43 = .ok (.goto 22, 3) := by decide +kernel
theorem dL_isWorking_46 : decode cL_isWorking 46 = .ok (.iload 5, 2) := by decide +kernel
theorem dL_isWorking_48 : decode cL_isWorking 48 = .ok (.iload_n 3, 1) := by decide +kernel
theorem dL_isWorking_49 : decode cL_isWorking 49 = .ok (.iadd, 1) := by decide +kernel
theorem dL_isWorking_50 : decode cL_isWorking 50 = .ok (.bipush 20, 2) := by decide +kernel
theorem dL_isWorking_52 : decode cL_isWorking 52 = .ok (.if_icmp .le 8, 3) := by decide +kernel
theorem dL_isWorking_55 : decode cL_isWorking 55 = .ok (.bipush (-3), 2) := by decide +kernel
theorem dL_isWorking_57 : decode cL_isWorking 57 = .ok (.goto 8, 3) := by decide +kernel
theorem dL_isWorking_60 : decode cL_isWorking 60 = .ok (.iload 4, 2) := by decide +kernel
theorem dL_isWorking_62 : decode cL_isWorking 62 = .ok (.iload 6, 2) := by decide +kernel
theorem dL_isWorking_64 : decode cL_isWorking 64 = .ok (.isub, 1) := by decide +kernel
theorem dL_isWorking_65 : decode cL_isWorking 65 = .ok (.istore 7, 2) := by decide +kernel
theorem dL_isWorking_67 : decode cL_isWorking 67 = .ok (.aload_n 0, 1) := by decide +kernel
theorem dL_isWorking_68 : decode cL_isWorking 68 = .ok (.iload_n 1, 1) := by decide +kernel
theorem dL_isWorking_69 : decode cL_isWorking 69 = .ok (.iload_n 2, 1) := by decide +kernel
theorem dL_isWorking_70 : decode cL_isWorking 70 = .ok (.iload_n 3, 1) := by decide +kernel
theorem dL_isWorking_71 : decode cL_isWorking 71 = .ok (.invokevirtual 166, 3) := by decide +kernel
theorem dL_isWorking_74 : decode cL_isWorking 74 = .ok (.iload 7, 2) := by decide +kernel
theorem dL_isWorking_76 : decode cL_isWorking 76 = .ok (.if_icmp .ne 40, 3) := by decide +kernel
theorem dL_isWorking_79 : decode cL_isWorking 79 = .ok (.iload 7, 2) := by decide +kernel
theorem dL_isWorking_81 : decode cL_isWorking 81 = .ok (.ifCond .lt 31, 3) := by decide +kernel
theorem dL_isWorking_84 : decode cL_isWorking 84 = .ok (.aload_n 0, 1) := by decide +kernel
theorem dL_isWorking_85 : decode cL_isWorking 85 = .ok (.iload_n 1, 1) := by decide +kernel
theorem dL_isWorking_86 : decode cL_isWorking 86 = .ok (.bipush 9, 2) := by decide +kernel
theorem dL_isWorking_88 : decode cL_isWorking 88 = .ok (.iload_n 2, 1) := by decide +kernel
theorem dL_isWorking_89 : decode cL_isWorking 89 = .ok (.iadd, 1) := by decide +kernel
theorem dL_isWorking_90 : decode cL_isWorking 90 = .ok (.invokevirtual 59, 3) := by decide +kernel
theorem dL_isWorking_93 : decode cL_isWorking 93 = .ok (.iload 5, 2) := by decide +kernel
theorem dL_isWorking_95 : decode cL_isWorking 95 = .ok (.iload_n 3, 1) := by decide +kernel
theorem dL_isWorking_96 : decode cL_isWorking 96 = .ok (.iadd, 1) := by decide +kernel
theorem dL_isWorking_97 : decode cL_isWorking 97 = .ok (.if_icmp .ne 19, 3) := by decide +kernel
theorem dL_isWorking_100 : decode cL_isWorking 100 = .ok (.aload_n 0, 1) := by decide +kernel
theorem dL_isWorking_101 : decode cL_isWorking 101 = .ok (.iload_n 1, 1) := by decide +kernel
theorem dL_isWorking_102 : decode cL_isWorking 102 = .ok (.iload_n 2, 1) := by decide +kernel
theorem dL_isWorking_103 : decode cL_isWorking 103 = .ok (.iload 5, 2) := by decide +kernel
theorem dL_isWorking_105 : decode cL_isWorking 105 = .ok (.invokevirtual 80, 3) := by decide +kernel
theorem dL_isWorking_108 : decode cL_isWorking 108 = .ok (.iload_n 1, 1) := by decide +kernel
theorem dL_isWorking_109 : decode cL_isWorking 109 = .ok (.if_icmp .ne 7, 3) := by decide +kernel
theorem dL_isWorking_112 : decode cL_isWorking 112 = .ok (.iconst 1, 1) := by decide +kernel
theorem dL_isWorking_113 : decode cL_isWorking 113 = .ok (.goto 4, 3) := by decide +kernel
theorem dL_isWorking_116 : decode cL_isWorking 116 = .ok (.iconst 0, 1) := by decide +kernel
theorem dL_isWorking_117 : decode cL_isWorking 117 = .ok (.ireturn, 1) := by decide +kernel
theorem dL_isSwapping_0 : decode cL_isSwapping 0 = .ok (.iload_n 1, 1) := by decide +kernel
theorem dL_isSwapping_1 : decode cL_isSwapping 1 = .ok (.iload_n 2, 1) := by decide +kernel
theorem dL_isSwapping_2 : decode cL_isSwapping 2 = .ok (.if_icmp .ne 23, 3) := by decide +kernel
theorem dL_isSwapping_5 : decode cL_isSwapping 5 = .ok (.aload_n 0, 1) := by decide +kernel
theorem dL_isSwapping_6 : decode cL_isSwapping 6 = .ok (.iload_n 1, 1) := by decide +kernel
theorem dL_isSwapping_7 : decode cL_isSwapping 7 = .ok (.iload_n 2, 1) := by decide +kernel
theorem dL_isSwapping_8 : decode cL_isSwapping 8 = .ok (.iload_n 3, 1) := by decide +kernel
theorem dL_isSwapping_9 : decode cL_isSwapping 9 = .ok (.iload 4, 2) := by decide +kernel
theorem dL_isSwapping_11 : decode cL_isSwapping 11 = .ok (.invokevirtual 169, 3) := by decide +kernel
theorem dL_isSwapping_14 : decode cL_isSwapping 14 = .ok (.bipush (-5), 2) := by decide +kernel
theorem dL_isSwapping_16 : decode cL_isSwapping 16 = .ok (.if_icmp .ne 7, 3) := by decide +kernel
theorem dL_isSwapping_19 : decode cL_isSwapping 19 = .ok (.iconst 1, 1) := by decide +kernel
theorem dL_isSwapping_20 : decode cL_isSwapping 20 = .ok (.goto 4, 3) := by decide +kernel
theorem dL_isSwapping_23 : decode cL_isSwapping 23 = .ok (.iconst 0, 1) := by decide +kernel
theorem dL_isSwapping_24 : decode cL_isSwapping 24 = .ok (.ireturn, 1) := by decide +kernel
theorem dL_isSwapping_25 : decode cL_isSwapping 25 = .ok (.aload_n 0, 1) := by decide +kernel
theorem dL_isSwapping_26 : decode cL_isSwapping 26 = .ok (.iload_n 1, 1) := by decide +kernel
theorem dL_isSwapping_27 : decode cL_isSwapping 27 = .ok (.bipush 8, 2) := by decide +kernel
theorem dL_isSwapping_29 : decode cL_isSwapping 29 = .ok (.invokevirtual 59, 3) := by decide +kernel
theorem dL_isSwapping_32 : decode cL_isSwapping 32 = .ok (.aload_n 0, 1) := by decide +kernel
theorem dL_isSwapping_33 : decode cL_isSwapping 33 = .ok (.iload_n 2, 1) := by decide +kernel
theorem dL_isSwapping_34 : decode cL_isSwapping 34 = .ok (.bipush 8, 2) := by decide +kernel
theorem dL_isSwapping_36 : decode cL_isSwapping 36 = .ok (.invokevirtual 59, 3) := by decide +kernel
theorem dL_isSwapping_39 : decode cL_isSwapping 39 = .ok (.iadd, 1) := by decide +kernel
theorem dL_isSwapping_40 : decode cL_isSwapping 40 = .ok (.ifCond .le 7, 3) := by decide +kernel
theorem dL_isSwapping_43 : decode cL_isSwapping 43 = .ok (.iconst 1, 1) := by decide +kernel
theorem dL_isSwapping_44 : decode cL_isSwapping 44 = .ok (.goto 4, 3) := by decide +kernel
theorem dL_isSwapping_47 : decode cL_isSwapping 47 = .ok (.iconst 0, 1) := by decide +kernel
theorem dL_isSwapping_48 : decode cL_isSwapping 48 = .ok (.istore 5, 2) := by decide +kernel
theorem dL_isSwapping_50 : decode cL_isSwapping 50 = .ok (.aload_n 0, 1) := by decide +kernel
theorem dL_isSwapping_51 : decode cL_isSwapping 51 = .ok (.iload_n 1, 1) := by decide +kernel
theorem dL_isSwapping_52 : decode cL_isSwapping 52 = .ok (.bipush 9, 2) := by decide +kernel
theorem dL_isSwapping_54 : decode cL_isSwapping 54 = .ok (.invokevirtual 59, 3) := by decide +kernel
theorem dL_isSwapping_57 : decode cL_isSwapping 57 = .ok (.iload_n 3, 1) := by decide +kernel
theorem dL_isSwapping_58 : decode cL_isSwapping 58 = .ok (.if_icmp .lt 15, 3) := by decide +kernel
theorem dL_isSwapping_61 : decode cL_isSwapping 61 = .ok (.aload_n 0, 1) := by decide +kernel
theorem dL_isSwapping_62 : decode cL_isSwapping 62 = .ok (.iload_n 2, 1) := by decide +kernel
theorem dL_isSwapping_63 : decode cL_isSwapping 63 = .ok (.bipush 10, 2) := by decide +kernel
theorem dL_isSwapping_65 : decode cL_isSwapping 65 = .ok (.invokevirtual 59, 3) := by decide +kernel
theorem dL_isSwapping_68 : decode cL_isSwapping 68 = .ok (.iload 4, 2) := by decide +kernel
theorem dL_isSwapping_70 : decode cL_isSwapping 70 = .ok (.if_icmp .ge 7, 3) := by decide +kernel
theorem dL_isSwapping_73 : decode cL_isSwapping 73 = .ok (.iconst 1, 1) := by decide +kernel
theorem dL_isSwapping_74 : decode cL_isSwapping 74 = .ok (.goto 4, 3) := by decide +kernel
theorem dL_isSwapping_77 : decode cL_isSwapping 77 = .ok (.iconst 0, 1) := by decide +kernel
theorem dL_isSwapping_78 : decode cL_isSwapping 78 = .ok (.istore 6, 2) := by decide +kernel
theorem dL_isSwapping_80 : decode cL_isSwapping 80 = .ok (.aload_n 0, 1) := by decide +kernel
theorem dL_isSwapping_81 : decode cL_isSwapping 81 = .ok (.iload_n 2, 1) := by decide +kernel
theorem dL_isSwapping_82 : decode cL_isSwapping 82 = .ok (.bipush 9, 2) := by decide +kernel
theorem dL_isSwapping_84 : decode cL_isSwapping 84 = .ok (.invokevirtual 59, 3) := by decide +kernel
theorem dL_isSwapping_87 : decode cL_isSwapping 87 = .ok (.iload_n 3, 1) := by decide +kernel
theorem dL_isSwapping_88 : decode cL_isSwapping 88 = .ok (.iadd, 1) := by decide +kernel
theorem dL_isSwapping_89 : decode cL_isSwapping 89 = .ok (.bipush 20, 2) := by decide +kernel
theorem dL_isSwapping_91 : decode cL_isSwapping 91 = .ok (.if_icmp .gt 18, 3) := by decide +kernel
theorem dL_isSwapping_94 : decode cL_isSwapping 94 = .ok (.aload_n 0, 1) := by decide +kernel
theorem dL_isSwapping_95 : decode cL_isSwapping 95 = .ok (.iload_n 1, 1) := by decide +kernel
theorem dL_isSwapping_96 : decode cL_isSwapping 96 = .ok (.bipush 10, 2) := by decide +kernel
theorem dL_isSwapping_98 : decode cL_isSwapping 98 = .ok (.invokevirtual 59, 3) := by decide +kernel
theorem dL_isSwapping_101 : decode cL_isSwapping 101 = .ok (.iload 4, 2) := by decide +kernel
theorem dL_isSwapping_103 : decode cL_isSwapping 103 = .ok (.iadd, 1) := by decide +kernel
theorem dL_isSwapping_104 : decode cL_isSwapping 104 = .ok (.bipush 20, 2) := by decide +kernel
theorem dL_isSwapping_106 : decode cL_isSwapping 106 = .ok (.if_icmp .le 7, 3) := by decide +kernel
theorem dL_isSwapping_109 : decode cL_isSwapping 109 = .ok (.iconst 1, 1) := by decide +kernel
theorem dL_isSwapping_110 : decode cL_isSwapping 110 = .ok (.goto 4, 3) := by decide +kernel
theorem dL_isSwapping_113 : decode cL_isSwapping 113 = .ok (.iconst 0, 1) := by decide +kernel
theorem dL_isSwapping_114 : decode cL_isSwapping 114 = .ok (.istore 7, 2) := by decide +kernel
theorem dL_isSwapping_116 : decode cL_isSwapping 116 = .ok (.aload_n 0, 1) := by decide +kernel
theorem dL_isSwapping_117 : decode cL_isSwapping 117 = .ok (.iload_n 1, 1) := by decide +kernel
theorem dL_isSwapping_118 : decode cL_isSwapping 118 = .ok (.bipush 6, 2) := by decide +kernel
theorem dL_isSwapping_120 : decode cL_isSwapping 120 = .ok (.invokevirtual 59, 3) := by decide +kernel
theorem dL_isSwapping_123 : decode cL_isSwapping 123 = .ok (.istore 8, 2) := by decide +kernel
theorem dL_isSwapping_125 : decode cL_isSwapping 125 = .ok (.iload_n 3, 1) := by decide +kernel
theorem dL_isSwapping_126 : decode cL_isSwapping 126 = .ok (.ifCond .le 13, 3) := by decide +kernel
theorem dL_isSwapping_129 : decode cL_isSwapping 129 = .ok (.aload_n 0, 1) := by decide +kernel
theorem dL_isSwapping_130 : decode cL_isSwapping 130 = .ok (.iload_n 1, 1) := by decide +kernel
theorem dL_isSwapping_131 : decode cL_isSwapping 131 = .ok (.iconst 0, 1) := by decide +kernel
theorem dL_isSwapping_132 : decode cL_isSwapping 132 = .ok (.iconst 0, 1) := by decide +kernel
theorem dL_isSwapping_133 : decode cL_isSwapping 133 = .ok (.invokevirtual 80, 3) := by decide +kernel
theorem dL_isSwapping_136 : decode cL_isSwapping 136 = .ok (.goto 4, 3) := by decide +kernel
theorem dL_isSwapping_139 : decode cL_isSwapping 139 = .ok (.iconst (-1), 1) := by decide +kernel
theorem dL_isSwapping_140 : decode cL_isSwapping 140 = .ok (.istore 9, 2) := by decide +kernel
theorem dL_isSwapping_142 : decode cL_isSwapping 142 = .ok (.aload_n 0, 1) := by decide +kernel
theorem dL_isSwapping_143 : decode cL_isSwapping 143 = .ok (.iload_n 2, 1) := by decide +kernel
theorem dL_isSwapping_144 : decode cL_isSwapping 144 = .ok (.bipush 9, 2) := by decide +kernel
theorem dL_isSwapping_146 : decode cL_isSwapping 146 = .ok (.invokevirtual 59, 3) := by decide +kernel
theorem dL_isSwapping_149 : decode cL_isSwapping 149 = .ok (.istore 10, 2) := by decide +kernel
theorem dL_isSwapping_151 : decode cL_isSwapping 151 = .ok (.iload 5, 2) := by decide +kernel
theorem dL_isSwapping_153 : decode cL_isSwapping 153 = .ok (.ifCond .eq 7, 3) := by decide +kernel
theorem dL_isSwapping_156 : decode cL_isSwapping 156 = .ok (.iconst (-1), 1) := by decide +kernel
theorem dL_isSwapping_157 : decode cL_isSwapping 157 = .ok (.goto 29, 3) := by decide +kernel
theorem dL_isSwapping_160 : decode cL_isSwapping 160 = .ok (.iload 6, 2) := by decide +kernel
theorem dL_isSwapping_162 : decode cL_isSwapping 162 = .ok (.ifCond .eq 8, 3) := by decide +kernel
theorem dL_isSwapping_165 : decode cL_isSwapping 165 = .ok (.bipush (-4), 2) := by decide +kernel
theorem dL_isSwapping_167 : decode cL_isSwapping 167 = .ok (.goto 19, 3) := by decide +kernel
theorem dL_isSwapping_170 : decode cL_isSwapping 170 = .ok (.iload 7, 2) := by decide +kernel
theorem dL_isSwapping_172 : decode cL_isSwapping 172 = .ok (.ifCond .eq 8, 3) := by decide +kernel
theorem dL_isSwapping_175 : decode cL_isSwapping 175 = .ok (.bipush (-3), 2) := by decide +kernel
theorem dL_isSwapping_177 : decode cL_isSwapping 177 = .ok (.goto 9, 3) := by decide +kernel
theorem dL_isSwapping_180 : decode cL_isSwapping 180 = .ok (.aload_n 0, 1) := by decide +kernel
theorem dL_isSwapping_181 : decode cL_isSwapping 181 = .ok (.iload_n 1, 1) := by decide +kernel
theorem dL_isSwapping_182 : decode cL_isSwapping 182 = .ok (.iload_n 2, 1) := by decide +kernel
theorem dL_isSwapping_183 : decode cL_isSwapping 183 = .ok (.invokestatic 150, 3) := by decide +kernel
theorem dL_isSwapping_186 : decode cL_isSwapping 186 = .ok (.istore 11, 2) := by decide +kernel
theorem dL_isSwapping_188 : decode cL_isSwapping 188 = .ok (.aload_n 0, 1) := by decide +kernel
theorem dL_isSwapping_189 : decode cL_isSwapping 189 = .ok (.iload_n 1, 1) := by decide +kernel
theorem dL_isSwapping_190 : decode cL_isSwapping 190 = .ok (.iload_n 2, 1) := by decide +kernel
theorem dL_isSwapping_191 : decode cL_isSwapping 191 = .ok (.iload_n 3, 1) := by decide +kernel
theorem dL_isSwapping_192 : decode cL_isSwapping 192 = .ok (.iload 4, 2) := by decide +kernel
theorem dL_isSwapping_194 : decode cL_isSwapping 194 = .ok (.invokevirtual 173, 3) := by decide +kernel
theorem dL_isSwapping_197 : decode cL_isSwapping 197 = .ok (.iconst 0, 1) := by decide +kernel
theorem dL_isSwapping_198 : decode cL_isSwapping 198 = .ok (.iload 11, 2) := by decide +kernel
theorem dL_isSwapping_200 : decode cL_isSwapping 200 = .ok (.ineg, 1) := by decide +kernel
theorem dL_isSwapping_201 : decode cL_isSwapping 201 = .ok (.invokestatic 84, 3) := by decide +kernel
theorem dL_isSwapping_204 : decode cL_isSwapping 204 = .ok (.if_icmp .eq 5, 3) := by decide +kernel
theorem dL_isSwapping_207 : decode cL_isSwapping 207 = .ok (.iconst 0, 1) := by decide +kernel
theorem dL_isSwapping_208 : decode cL_isSwapping 208 = .ok (.ireturn, 1) := by decide +kernel
theorem dL_isSwapping_209 : decode cL_isSwapping 209 = .ok (.aload_n 0, 1) := by decide +kernel
theorem dL_isSwapping_210 : decode cL_isSwapping 210 = .ok (.iload_n 1, 1) := by decide +kernel
theorem dL_isSwapping_211 : decode cL_isSwapping 211 = .ok (.iload_n 2, 1) := by decide +kernel
theorem dL_isSwapping_212 : decode cL_isSwapping 212 = .ok (.iload_n 3, 1) := by decide +kernel
theorem dL_isSwapping_213 : decode cL_isSwapping 213 = .ok (.iload 4, 2) := by decide +kernel
theorem dL_isSwapping_215 : decode cL_isSwapping 215 = .ok (.invokevirtual 169, 3) := by decide +kernel
theorem dL_isSwapping_218 : decode cL_isSwapping 218 = .ok (.iload 11, 2) := by decide +kernel
theorem dL_isSwapping_220 : decode cL_isSwapping 220 = .ok (.if_icmp .eq 5, 3) := by decide +kernel
theorem dL_isSwapping_223 : decode cL_isSwapping 223 = .ok (.iconst 0, 1) := by decide +kernel
theorem dL_isSwapping_224 : decode cL_isSwapping 224 = .ok (.ireturn, 1) := by decide +kernel
theorem dL_isSwapping_225 : decode cL_isSwapping 225 = .ok (.iload 11, 2) := by decide +kernel
theorem dL_isSwapping_227 : decode cL_isSwapping 227 = .ok (.ifCond .lt 35, 3) := by decide +kernel
theorem dL_isSwapping_230 : decode cL_isSwapping 230 = .ok (.aload_n 0, 1) := by decide +kernel
theorem dL_isSwapping_231 : decode cL_isSwapping 231 = .ok (.iload_n 1, 1) := by decide +kernel
theorem dL_isSwapping_232 : decode cL_isSwapping 232 = .ok (.bipush 6, 2) := by decide +kernel
theorem dL_isSwapping_234 : decode cL_isSwapping 234 = .ok (.invokevirtual 59, 3) := by decide +kernel
theorem dL_isSwapping_237 : decode cL_isSwapping 237 = .ok (.iload 8, 2) := by decide +kernel
theorem dL_isSwapping_239 : decode cL_isSwapping 239 = .ok (.iload 11, 2) := by decide +kernel
theorem dL_isSwapping_241 : decode cL_isSwapping 241 = .ok (.iadd, 1) := by decide +kernel
theorem dL_isSwapping_242 : decode cL_isSwapping 242 = .ok (.if_icmp .ne 24, 3) := by decide +kernel
theorem dL_isSwapping_245 : decode cL_isSwapping 245 = .ok (.iload_n 3, 1) := by decide +kernel
theorem dL_isSwapping_246 : decode cL_isSwapping 246 = .ok (.ifCond .eq 16, 3) := by decide +kernel
theorem dL_isSwapping_249 : decode cL_isSwapping 249 = .ok (.aload_n 0, 1) := by decide +kernel
theorem dL_isSwapping_250 : decode cL_isSwapping 250 = .ok (.iload_n 2, 1) := by decide +kernel
theorem dL_isSwapping_251 : decode cL_isSwapping 251 = .ok (.iconst 0, 1) := by decide +kernel
theorem dL_isSwapping_252 : decode cL_isSwapping 252 = .ok (.iload 10, 2) := by decide +kernel
theorem dL_isSwapping_254 : decode cL_isSwapping 254 = .ok (.invokevirtual 80, 3) := by decide +kernel
theorem dL_isSwapping_257 : decode cL_isSwapping 257 = .ok (.iload 9, 2) := by decide +kernel
theorem dL_isSwapping_259 : decode cL_isSwapping 259 = .ok (.if_icmp .ne 7, 3) := by decide +kernel
theorem dL_isSwapping_262 : decode cL_isSwapping 262 = .ok (.iconst 1, 1) := by decide +kernel
theorem dL_isSwapping_263 : decode cL_isSwapping 263 = .ok (.goto 4, 3) := by decide +kernel
theorem dL_isSwapping_266 : decode cL_isSwapping 266 = .ok (.iconst 0, 1) := by decide +kernel
theorem dL_isSwapping_267 : decode cL_isSwapping 267 = .ok (.ireturn, 1) := by decide +kernel
theorem dL_isLending_0 : decode cL_isLending 0 = .ok (.iload_n 1, 1) := by decide +kernel
theorem dL_isLending_1 : decode cL_isLending 1 = .ok (.iload_n 2, 1) := by decide +kernel
theorem dL_isLending_2 : decode cL_isLending 2 = .ok (.if_icmp .ne 23, 3) := by decide +kernel
theorem dL_isLending_5 : decode cL_isLending 5 = .ok (.aload_n 0, 1) := by decide +kernel
theorem dL_isLending_6 : decode cL_isLending 6 = .ok (.iload_n 1, 1) := by decide +kernel
theorem dL_isLending_7 : decode cL_isLending 7 = .ok (.iload_n 2, 1) := by decide +kernel
theorem dL_isLending_8 : decode cL_isLending 8 = .ok (.iload_n 3, 1) := by decide +kernel
theorem dL_isLending_9 : decode cL_isLending 9 = .ok (.iload 4, 2) := by decide +kernel
theorem dL_isLending_11 : decode cL_isLending 11 = .ok (.invokevirtual 176, 3) := by decide +kernel
theorem dL_isLending_14 : decode cL_isLending 14 = .ok (.bipush (-5), 2) := by decide +kernel
theorem dL_isLending_16 : decode cL_isLending 16 = .ok (.if_icmp .ne 7, 3) := by decide +kernel
theorem dL_isLending_19 : decode cL_isLending 19 = .ok (.iconst 1, 1) := by decide +kernel
theorem dL_isLending_20 : decode cL_isLending 20 = .ok (.goto 4, 3) := by decide +kernel
theorem dL_isLending_23 : decode cL_isLending 23 = .ok (.iconst 0, 1) := by decide +kernel
theorem dL_isLending_24 : decode cL_isLending 24 = .ok (.ireturn, 1) := by decide +kernel
theorem dL_isLending_25 : decode cL_isLending 25 = .ok (.aload_n 0, 1) := by decide +kernel
theorem dL_isLending_26 : decode cL_isLending 26 = .ok (.iload_n 2, 1) := by decide +kernel
theorem dL_isLending_27 : decode cL_isLending 27 = .ok (.iload_n 1, 1) := by decide +kernel
theorem dL_isLending_28 : decode cL_isLending 28 = .ok (.iconst 1, 1) := by decide +kernel
theorem dL_isLending_29 : decode cL_isLending 29 = .ok (.iload_n 3, 1) := by decide +kernel
theorem dL_isLending_30 : decode cL_isLending 30 = .ok (.isub, 1) := by decide +kernel
theorem dL_isLending_31 : decode cL_isLending 31 = .ok (.invokevirtual 94, 3) := by decide +kernel
theorem dL_isLending_34 : decode cL_isLending 34 = .ok (.istore 5, 2) := by decide +kernel
theorem dL_isLending_36 : decode cL_isLending 36 = .ok (.iload 5, 2) := by decide +kernel
theorem dL_isLending_38 : decode cL_isLending 38 = .ok (.iload 4, 2) := by decide +kernel
theorem dL_isLending_40 : decode cL_isLending 40 = .ok (.iadd, 1) := by decide +kernel
theorem dL_isLending_41 : decode cL_isLending 41 = .ok (.bipush 99, 2) := by decide +kernel
theorem dL_isLending_43 : decode cL_isLending 43 = .ok (.if_icmp .gt 19, 3) := by decide +kernel
theorem dL_isLending_46 : decode cL_isLending 46 = .ok (.iload 5, 2) := by decide +kernel
theorem dL_isLending_48 : decode cL_isLending 48 = .ok (.ifCond .ne 18, 3) := by decide +kernel
theorem dL_isLending_51 : decode cL_isLending 51 = .ok (.aload_n 0, 1) := by decide +kernel
theorem dL_isLending_52 : decode cL_isLending 52 = .ok (.bipush 8, 2) := by decide +kernel
theorem dL_isLending_54 : decode cL_isLending 54 = .ok (.invokevirtual 68, 3) := by decide +kernel
theorem dL_isLending_57 : decode cL_isLending 57 = .ok (.bipush 30, 2) := by decide +kernel
theorem dL_isLending_59 : decode cL_isLending 59 = .ok (.if_icmp .ne 7, 3) := by decide +kernel
theorem dL_isLending_62 : decode cL_isLending 62 = .ok (.iconst 1, 1) := by decide +kernel
theorem dL_isLending_63 : decode cL_isLending 63 = .ok (.goto 4, 3) := by decide +kernel
theorem dL_isLending_66 : decode cL_isLending 66 = .ok (.iconst 0, 1) := by decide +kernel
theorem dL_isLending_67 : decode cL_isLending 67 = .ok (.istore 6, 2) := by decide +kernel
theorem dL_isLending_69 : decode cL_isLending 69 = .ok (.aload_n 0, 1) := by decide +kernel
theorem dL_isLending_70 : decode cL_isLending 70 = .ok (.iload_n 1, 1) := by decide +kernel
theorem dL_isLending_71 : decode cL_isLending 71 = .ok (.bipush 8, 2) := by decide +kernel
theorem dL_isLending_73 : decode cL_isLending 73 = .ok (.invokevirtual 59, 3) := by decide +kernel
theorem dL_isLending_76 : decode cL_isLending 76 = .ok (.aload_n 0, 1) := by decide +kernel
theorem dL_isLending_77 : decode cL_isLending 77 = .ok (.iload_n 2, 1) := by decide +kernel
theorem dL_isLending_78 : decode cL_isLending 78 = .ok (.bipush 8, 2) := by decide +kernel
theorem dL_isLending_80 : decode cL_isLending 80 = .ok (.invokevirtual 59, 3) := by decide +kernel
theorem dL_isLending_83 : decode cL_isLending 83 = .ok (.iadd, 1) := by decide +kernel
theorem dL_isLending_84 : decode cL_isLending 84 = .ok (.ifCond .le 7, 3) := by decide +kernel
theorem dL_isLending_87 : decode cL_isLending 87 = .ok (.iconst (-1), 1) := by decide +kernel
theorem dL_isLending_88 : decode cL_isLending 88 = .ok (.goto 59, 3) := by decide +kernel
theorem dL_isLending_91 : decode cL_isLending 91 = .ok (.aload_n 0, 1) := by decide +kernel
theorem dL_isLending_92 : decode cL_isLending 92 = .ok (.iload_n 1, 1) := by decide +kernel
theorem dL_isLending_93 : decode cL_isLending 93 = .ok (.bipush 9, 2) := by decide +kernel
theorem dL_isLending_95 : decode cL_isLending 95 = .ok (.iload_n 3, 1) := by decide +kernel
theorem dL_isLending_96 : decode cL_isLending 96 = .ok (.iadd, 1) := by decide +kernel
theorem dL_isLending_97 : decode cL_isLending 97 = .ok (.invokevirtual 59, 3) := by decide +kernel
theorem dL_isLending_100 : decode cL_isLending 100 = .ok (.iload 4, 2) := by decide +kernel
theorem dL_isLending_102 : decode cL_isLending 102 = .ok (.if_icmp .ge 8, 3) := by decide +kernel
theorem dL_isLending_105 : decode cL_isLending 105 = .ok (.bipush (-4), 2) := by decide +kernel
theorem dL_isLending_107 : decode cL_isLending 107 = .ok (.goto 40, 3) := by decide +kernel
theorem dL_isLending_110 : decode cL_isLending 110 = .ok (.aload_n 0, 1) := by decide +kernel
theorem dL_isLending_111 : decode cL_isLending 111 = .ok (.iload_n 2, 1) := by decide +kernel
theorem dL_isLending_112 : decode cL_isLending 112 = .ok (.bipush 9, 2) := by decide +kernel
theorem dL_isLending_114 : decode cL_isLending 114 = .ok (.iload_n 3, 1) := by decide +kernel
theorem dL_isLending_115 : decode cL_isLending 115 = .ok (.iadd, 1) := by decide +kernel
theorem dL_isLending_116 : decode cL_isLending 116 = .ok (.invokevirtual 59, 3) := by decide +kernel
theorem dL_isLending_119 : decode cL_isLending 119 = .ok (.iload 4, 2) := by decide +kernel
theorem dL_isLending_121 : decode cL_isLending 121 = .ok (.iadd, 1) := by decide +kernel
theorem dL_isLending_122 : decode cL_isLending 122 = .ok (.bipush 20, 2) := by decide +kernel
theorem dL_isLending_124 : decode cL_isLending 124 = .ok (.if_icmp .le 8, 3) := by decide +kernel
theorem dL_isLending_127 : decode cL_isLending 127 = .ok (.bipush (-3), 2) := by decide +kernel
theorem dL_isLending_129 : decode cL_isLending 129 = .ok (.goto 18, 3) := by decide +kernel
theorem dL_isLending_132 : decode cL_isLending 132 = .ok (.iload 6, 2) := by decide +kernel
theorem dL_isLending_134 : decode cL_isLending 134 = .ok (.ifCond .eq 8, 3) := by decide +kernel
theorem dL_isLending_137 : decode cL_isLending 137 = .ok (.bipush (-9), 2) := by decide +kernel
theorem dL_isLending_139 : decode cL_isLending 139 = .ok (.goto 8, 3) := by decide +kernel
theorem dL_isLending_142 : decode cL_isLending 142 = .ok (.iload 5, 2) := by decide +kernel
theorem dL_isLending_144 : decode cL_isLending 144 = .ok (.iload 4, 2) := by decide +kernel
theorem dL_isLending_146 : decode cL_isLending 146 = .ok (.iadd, 1) := by decide +kernel
theorem dL_isLending_147 : decode cL_isLending 147 = .ok (.istore 7, 2) := by decide +kernel
theorem dL_isLending_149 : decode cL_isLending 149 = .ok (.aload_n 0, 1) := by decide +kernel
theorem dL_isLending_150 : decode cL_isLending 150 = .ok (.iload_n 1, 1) := by decide +kernel
theorem dL_isLending_151 : decode cL_isLending 151 = .ok (.iload_n 2, 1) := by decide +kernel
theorem dL_isLending_152 : decode cL_isLending 152 = .ok (.iload_n 3, 1) := by decide +kernel
theorem dL_isLending_153 : decode cL_isLending 153 = .ok (.iload 4, 2) := by decide +kernel
theorem dL_isLending_155 : decode cL_isLending 155 = .ok (.invokevirtual 179, 3) := by decide +kernel
theorem dL_isLending_158 : decode cL_isLending 158 = .ok (.iconst 0, 1) := by decide +kernel
theorem dL_isLending_159 : decode cL_isLending 159 = .ok (.iload 7, 2) := by decide +kernel
theorem dL_isLending_161 : decode cL_isLending 161 = .ok (.ineg, 1) := by decide +kernel
theorem dL_isLending_162 : decode cL_isLending 162 = .ok (.invokestatic 84, 3) := by decide +kernel
theorem dL_isLending_165 : decode cL_isLending 165 = .ok (.if_icmp .ne 40, 3) := by decide +kernel
theorem dL_isLending_168 : decode cL_isLending 168 = .ok (.aload_n 0, 1) := by decide +kernel
theorem dL_isLending_169 : decode cL_isLending 169 = .ok (.iload_n 1, 1) := by decide +kernel
theorem dL_isLending_170 : decode cL_isLending 170 = .ok (.iload_n 2, 1) := by decide +kernel
theorem dL_isLending_171 : decode cL_isLending 171 = .ok (.iload_n 3, 1) := by decide +kernel
theorem dL_isLending_172 : decode cL_isLending 172 = .ok (.iload 4, 2) := by decide +kernel
theorem dL_isLending_174 : decode cL_isLending 174 = .ok (.invokevirtual 176, 3) := by decide +kernel
theorem dL_isLending_177 : decode cL_isLending 177 = .ok (.iload 7, 2) := by decide +kernel
theorem dL_isLending_179 : decode cL_isLending 179 = .ok (.if_icmp .ne 26, 3) := by decide +kernel
theorem dL_isLending_182 : decode cL_isLending 182 = .ok (.iload 7, 2) := by decide +kernel
theorem dL_isLending_184 : decode cL_isLending 184 = .ok (.ifCond .lt 17, 3) := by decide +kernel
theorem dL_isLending_187 : decode cL_isLending 187 = .ok (.aload_n 0, 1) := by decide +kernel
theorem dL_isLending_188 : decode cL_isLending 188 = .ok (.iload_n 2, 1) := by decide +kernel
theorem dL_isLending_189 : decode cL_isLending 189 = .ok (.iload_n 1, 1) := by decide +kernel
theorem dL_isLending_190 : decode cL_isLending 190 = .ok (.iconst 1, 1) := by decide +kernel
theorem dL_isLending_191 : decode cL_isLending 191 = .ok (.iload_n 3, 1) := by decide +kernel
theorem dL_isLending_192 : decode cL_isLending 192 = .ok (.isub, 1) := by decide +kernel
theorem dL_isLending_193 : decode cL_isLending 193 = .ok (.invokevirtual 94, 3) := by decide +kernel
theorem dL_isLending_196 : decode cL_isLending 196 = .ok (.iload 7, 2) := by decide +kernel
theorem dL_isLending_198 : decode cL_isLending 198 = .ok (.if_icmp .ne 7, 3) := by decide +kernel
theorem dL_isLending_201 : decode cL_isLending 201 = .ok (.iconst 1, 1) := by decide +kernel
theorem dL_isLending_202 : decode cL_isLending 202 = .ok (.goto 4, 3) := by decide +kernel
theorem dL_isLending_205 : decode cL_isLending 205 = .ok (.iconst 0, 1) := by decide +kernel
theorem dL_isLending_206 : decode cL_isLending 206 = .ok (.ireturn, 1) := by decide +kernel
theorem dL_isPaying_0 : decode cL_isPaying 0 = .ok (.iload_n 1, 1) := by decide +kernel
theorem dL_isPaying_1 : decode cL_isPaying 1 = .ok (.iload_n 2, 1) := by decide +kernel
theorem dL_isPaying_2 : decode cL_isPaying 2 = .ok (.if_icmp .ne 23, 3) := by decide +kernel
theorem dL_isPaying_5 : decode cL_isPaying 5 = .ok (.aload_n 0, 1) := by decide +kernel
theorem dL_isPaying_6 : decode cL_isPaying 6 = .ok (.iload_n 1, 1) := by decide +kernel
theorem dL_isPaying_7 : decode cL_isPaying 7 = .ok (.iload_n 2, 1) := by decide +kernel
theorem dL_isPaying_8 : decode cL_isPaying 8 = .ok (.iload_n 3, 1) := by decide +kernel
theorem dL_isPaying_9 : decode cL_isPaying 9 = .ok (.iload 4, 2) := by decide +kernel
theorem dL_isPaying_11 : decode cL_isPaying 11 = .ok (.invokevirtual 182, 3) := by decide +kernel
theorem dL_isPaying_14 : decode cL_isPaying 14 = .ok (.bipush (-5), 2) := by decide +kernel
theorem dL_isPaying_16 : decode cL_isPaying 16 = .ok (.if_icmp .ne 7, 3) := by decide +kernel
theorem dL_isPaying_19 : decode cL_isPaying 19 = .ok (.iconst 1, 1) := by decide +kernel
theorem dL_isPaying_20 : decode cL_isPaying 20 = .ok (.goto 4, 3) := by decide +kernel
theorem dL_isPaying_23 : decode cL_isPaying 23 = .ok (.iconst 0, 1) := by decide +kernel
theorem dL_isPaying_24 : decode cL_isPaying 24 = .ok (.ireturn, 1) := by decide +kernel
theorem dL_isPaying_25 : decode cL_isPaying 25 = .ok (.aload_n 0, 1) := by decide +kernel
theorem dL_isPaying_26 : decode cL_isPaying 26 = .ok (.iload_n 1, 1) := by decide +kernel
theorem dL_isPaying_27 : decode cL_isPaying 27 = .ok (.iload_n 2, 1) := by decide +kernel
theorem dL_isPaying_28 : decode cL_isPaying 28 = .ok (.iload_n 3, 1) := by decide +kernel
theorem dL_isPaying_29 : decode cL_isPaying 29 = .ok (.invokevirtual 94, 3) := by decide +kernel
theorem dL_isPaying_32 : decode cL_isPaying 32 = .ok (.istore 5, 2) := by decide +kernel
theorem dL_isPaying_34 : decode cL_isPaying 34 = .ok (.iload 5, 2) := by decide +kernel
theorem dL_isPaying_36 : decode cL_isPaying 36 = .ok (.iload 4, 2) := by decide +kernel
theorem dL_isPaying_38 : decode cL_isPaying 38 = .ok (.if_icmp .ge 8, 3) := by decide +kernel
theorem dL_isPaying_41 : decode cL_isPaying 41 = .ok (.bipush (-6), 2) := by decide +kernel
theorem dL_isPaying_43 : decode cL_isPaying 43 = .ok (.goto 71, 3) := by decide +kernel
theorem dL_isPaying_46 : decode cL_isPaying 46 = .ok (.aload_n 0, 1) := by decide +kernel
theorem dL_isPaying_47 : decode cL_isPaying 47 = .ok (.iload_n 1, 1) := by decide +kernel
theorem dL_isPaying_48 : decode cL_isPaying 48 = .ok (.bipush 8, 2) := by decide +kernel
theorem dL_isPaying_50 : decode cL_isPaying 50 = .ok (.invokevirtual 59, 3) := by decide +kernel
theorem dL_isPaying_53 : decode cL_isPaying 53 = .ok (.aload_n 0, 1) := by decide +kernel
theorem dL_isPaying_54 : decode cL_isPaying 54 = .ok (.iload_n 2, 1) := by decide +kernel
theorem dL_isPaying_55 : decode cL_isPaying 55 = .ok (.bipush 8, 2) := by decide +kernel
theorem dL_isPaying_57 : decode cL_isPaying 57 = .ok (.invokevirtual 59, 3) := by decide +kernel
theorem dL_isPaying_60 : decode cL_isPaying 60 = .ok (.iadd, 1) := by decide +kernel
theorem dL_isPaying_61 : decode cL_isPaying 61 = .ok (.ifCond .le 7, 3) := by decide +kernel
theorem dL_isPaying_64 : decode cL_isPaying 64 = .ok (.iconst (-1), 1) := by decide +kernel
theorem dL_isPaying_65 : decode cL_isPaying 65 = .ok (.goto 49, 3) := by decide +kernel
theorem dL_isPaying_68 : decode cL_isPaying 68 = .ok (.aload_n 0, 1) := by decide +kernel
theorem dL_isPaying_69 : decode cL_isPaying 69 = .ok (.iload_n 1, 1) := by decide +kernel
theorem dL_isPaying_70 : decode cL_isPaying 70 = .ok (.bipush 9, 2) := by decide +kernel
theorem dL_isPaying_72 : decode cL_isPaying 72 = .ok (.iload_n 3, 1) := by decide +kernel
theorem dL_isPaying_73 : decode cL_isPaying 73 = .ok (.iadd, 1) := by decide +kernel
theorem dL_isPaying_74 : decode cL_isPaying 74 = .ok (.invokevirtual 59, 3) := by decide +kernel
theorem dL_isPaying_77 : decode cL_isPaying 77 = .ok (.iload 4, 2) := by decide +kernel
