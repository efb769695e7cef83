theorem dX8_init_0 : decode cX8_init 0 = .ok (.aload_n 0, 1) := by decide +kernel
theorem dX8_init_1 : decode cX8_init 1 = .ok (.invokespecial 1, 3) := by decide +kernel
theorem dX8_init_4 : decode cX8_init 4 = .ok (.aload_n 0, 1) := by decide +kernel
theorem dX8_init_5 : decode cX8_init 5 = .ok (.new 7, 3) := by decide +kernel
theorem dX8_init_8 : decode cX8_init 8 = .ok (.dup, 1) := by decide +kernel
theorem dX8_init_9 : decode cX8_init 9 = .ok (.invokespecial 9, 3) := by decide +kernel
theorem dX8_init_12 : decode cX8_init 12 = .ok (.putfield 10, 3) := by decide +kernel
theorem dX8_init_15 : decode cX8_init 15 = .ok (.aload_n 0, 1) := by decide +kernel
theorem dX8_init_16 : decode cX8_init 16 = .ok (.new 16, 3) := by decide +kernel
theorem dX8_init_19 : decode cX8_init 19 = .ok (.dup, 1) := by decide +kernel
theorem dX8_init_20 : decode cX8_init 20 = .ok (.invokespecial 18, 3) := by decide +kernel
theorem dX8_init_23 : decode cX8_init 23 = .ok (.putfield 19, 3) := by decide +kernel
theorem dX8_init_26 : decode cX8_init 26 = .ok (.aload_n 0, 1) := by decide +kernel
theorem dX8_init_27 : decode cX8_init 27 = .ok (.new 23, 3) := by decide +kernel
theorem dX8_init_30 : decode cX8_init 30 = .ok (.dup, 1) := by decide +kernel
theorem dX8_init_31 : decode cX8_init 31 = .ok (.invokespecial 25, 3) := by decide +kernel
theorem dX8_init_34 : decode cX8_init 34 = .ok (.putfield 26, 3) := by decide +kernel
theorem dX8_init_37 : decode cX8_init 37 = .ok (.aload_n 0, 1) := by decide +kernel
theorem dX8_init_38 : decode cX8_init 38 = .ok (.new 23, 3) := by decide +kernel
theorem dX8_init_41 : decode cX8_init 41 = .ok (.dup, 1) := by decide +kernel
theorem dX8_init_42 : decode cX8_init 42 = .ok (.invokespecial 25, 3) := by decide +kernel
theorem dX8_init_45 : decode cX8_init 45 = .ok (.putfield 30, 3) := by decide +kernel
theorem dX8_init_48 : decode cX8_init 48 = .ok (.aload_n 0, 1) := by decide +kernel
theorem dX8_init_49 : decode cX8_init 49 = .ok (.new 33, 3) := by decide +kernel
theorem dX8_init_52 : decode cX8_init 52 = .ok (.dup, 1) := by decide +kernel
theorem dX8_init_53 : decode cX8_init 53 = .ok (.invokespecial 35, 3) := by decide +kernel
theorem dX8_init_56 : decode cX8_init 56 = .ok (.putfield 36, 3) := by decide +kernel
theorem dX8_init_59 : decode cX8_init 59 = .ok (.aload_n 0, 1) := by decide +kernel
theorem dX8_init_60 : decode cX8_init 60 = .ok (.iconst 2, 1) := by decide +kernel
theorem dX8_init_61 : decode cX8_init 61 = .ok (.anewarray 23, 3) := by decide +kernel
theorem dX8_init_64 : decode cX8_init 64 = .ok (.putfield 40, 3) := by decide +kernel
theorem dX8_init_67 : decode cX8_init 67 = .ok (.aload_n 0, 1) := by decide +kernel
theorem dX8_init_68 : decode cX8_init 68 = .ok (.iconst 2, 1) := by decide +kernel
theorem dX8_init_69 : decode cX8_init 69 = .ok (.newarray .boolean, 2) := by decide +kernel
theorem dX8_init_71 : decode cX8_init 71 = .ok (.putfield 44, 3) := by decide +kernel
theorem dX8_init_74 : decode cX8_init 74 = .ok (.aload_n 0, 1) := by decide +kernel
theorem dX8_init_75 : decode cX8_init 75 = .ok (.bipush 11, 2) := by decide +kernel
theorem dX8_init_77 : decode cX8_init 77 = .ok (.newarray .int, 2) := by decide +kernel
theorem dX8_init_79 : decode cX8_init 79 = .ok (.putfield 48, 3) := by decide +kernel
theorem dX8_init_82 : decode cX8_init 82 = .ok (.aload_n 0, 1) := by decide +kernel
theorem dX8_init_83 : decode cX8_init 83 = .ok (.new 52, 3) := by decide +kernel
theorem dX8_init_86 : decode cX8_init 86 = .ok (.dup, 1) := by decide +kernel
theorem dX8_init_87 : decode cX8_init 87 = .ok (.sipush 256, 3) := by decide +kernel
theorem dX8_init_90 : decode cX8_init 90 = .ok (.invokespecial 54, 3) := by decide +kernel
theorem dX8_init_93 : decode cX8_init 93 = .ok (.putfield 57, 3) := by decide +kernel
theorem dX8_init_96 : decode cX8_init 96 = .ok (.iconst 0, 1) := by decide +kernel
theorem dX8_init_97 : decode cX8_init 97 = .ok (.istore_n 1, 1) := by decide +kernel
theorem dX8_init_98 : decode cX8_init 98 = .ok (.iload_n 1, 1) := by decide +kernel
theorem dX8_init_99 : decode cX8_init 99 = .ok (.iconst 2, 1) := by decide +kernel
theorem dX8_init_100 : decode cX8_init 100 = .ok (.if_icmp .ge 22, 3) := by decide +kernel
theorem dX8_init_103 : decode cX8_init 103 = .ok (.aload_n 0, 1) := by decide +kernel
theorem dX8_init_104 : decode cX8_init 104 = .ok (.getfield 40, 3) := by decide +kernel
theorem dX8_init_107 : decode cX8_init 107 = .ok (.iload_n 1, 1) := by decide +kernel
theorem dX8_init_108 : decode cX8_init 108 = .ok (.new 23, 3) := by decide +kernel
theorem dX8_init_111 : decode cX8_init 111 = .ok (.dup, 1) := by decide +kernel
theorem dX8_init_112 : decode cX8_init 112 = .ok (.invokespecial 25, 3) := by decide +kernel
theorem dX8_init_115 : decode cX8_init 115 = .ok (.aastore, 1) := by decide +kernel
theorem dX8_init_116 : decode cX8_init 116 = .ok (.iinc 1 1, 3) := by decide +kernel
theorem dX8_init_119 : decode cX8_init 119 = .ok (.goto (-21), 3) := by decide +kernel
theorem dX8_init_122 : decode cX8_init 122 = .ok (.aload_n 0, 1) := by decide +kernel
theorem dX8_init_123 : decode cX8_init 123 = .ok (.getfield 26, 3) := by decide +kernel
theorem dX8_init_126 : decode cX8_init 126 = .ok (.bipush 30, 2) := by decide +kernel
theorem dX8_init_128 : decode cX8_init 128 = .ok (.iconst 4, 1) := by decide +kernel
theorem dX8_init_129 : decode cX8_init 129 = .ok (.iconst 2, 1) := by decide +kernel
theorem dX8_init_130 : decode cX8_init 130 = .ok (.iconst 1, 1) := by decide +kernel
theorem dX8_init_131 : decode cX8_init 131 = .ok (.invokevirtual 61, 3) := by decide +kernel
theorem dX8_init_134 : decode cX8_init 134 = .ok (.aload_n 0, 1) := by decide +kernel
theorem dX8_init_135 : decode cX8_init 135 = .ok (.getfield 26, 3) := by decide +kernel
theorem dX8_init_138 : decode cX8_init 138 = .ok (.iconst 0, 1) := by decide +kernel
theorem dX8_init_139 : decode cX8_init 139 = .ok (.iconst 0, 1) := by decide +kernel
theorem dX8_init_140 : decode cX8_init 140 = .ok (.bipush 8, 2) := by decide +kernel
theorem dX8_init_142 : decode cX8_init 142 = .ok (.iconst 3, 1) := by decide +kernel
theorem dX8_init_143 : decode cX8_init 143 = .ok (.iconst 0, 1) := by decide +kernel
theorem dX8_init_144 : decode cX8_init 144 = .ok (.invokevirtual 65, 3) := by decide +kernel
theorem dX8_init_147 : decode cX8_init 147 = .ok (.aload_n 0, 1) := by decide +kernel
theorem dX8_init_148 : decode cX8_init 148 = .ok (.getfield 26, 3) := by decide +kernel
theorem dX8_init_151 : decode cX8_init 151 = .ok (.iconst 0, 1) := by decide +kernel
theorem dX8_init_152 : decode cX8_init 152 = .ok (.iconst 1, 1) := by decide +kernel
theorem dX8_init_153 : decode cX8_init 153 = .ok (.iconst 2, 1) := by decide +kernel
theorem dX8_init_154 : decode cX8_init 154 = .ok (.bipush 9, 2) := by decide +kernel
theorem dX8_init_156 : decode cX8_init 156 = .ok (.iconst 0, 1) := by decide +kernel
theorem dX8_init_157 : decode cX8_init 157 = .ok (.invokevirtual 65, 3) := by decide +kernel
theorem dX8_init_160 : decode cX8_init 160 = .ok (.aload_n 0, 1) := by decide +kernel
theorem dX8_init_161 : decode cX8_init 161 = .ok (.getfield 26, 3) := by decide +kernel
theorem dX8_init_164 : decode cX8_init 164 = .ok (.iconst 1, 1) := by decide +kernel
theorem dX8_init_165 : decode cX8_init 165 = .ok (.iconst 0, 1) := by decide +kernel
theorem dX8_init_166 : decode cX8_init 166 = .ok (.iconst 5, 1) := by decide +kernel
theorem dX8_init_167 : decode cX8_init 167 = .ok (.iconst 5, 1) := by decide +kernel
theorem dX8_init_168 : decode cX8_init 168 = .ok (.iconst 1, 1) := by decide +kernel
theorem dX8_init_169 : decode cX8_init 169 = .ok (.invokevirtual 65, 3) := by decide +kernel
theorem dX8_init_172 : decode cX8_init 172 = .ok (.aload_n 0, 1) := by decide +kernel
theorem dX8_init_173 : decode cX8_init 173 = .ok (.getfield 26, 3) := by decide +kernel
theorem dX8_init_176 : decode cX8_init 176 = .ok (.iconst 3, 1) := by decide +kernel
theorem dX8_init_177 : decode cX8_init 177 = .ok (.iconst 3, 1) := by decide +kernel
theorem dX8_init_178 : decode cX8_init 178 = .ok (.bipush 7, 2) := by decide +kernel
theorem dX8_init_180 : decode cX8_init 180 = .ok (.bipush 7, 2) := by decide +kernel
theorem dX8_init_182 : decode cX8_init 182 = .ok (.iconst 0, 1) := by decide +kernel
theorem dX8_init_183 : decode cX8_init 183 = .ok (.invokevirtual 65, 3) := by decide +kernel
theorem dX8_init_186 : decode cX8_init 186 = .ok (.aload_n 0, 1) := by decide +kernel
theorem dX8_init_187 : decode cX8_init 187 = .ok (.getfield 26, 3) := by decide +kernel
theorem dX8_init_190 : decode cX8_init 190 = .ok (.iconst 3, 1) := by decide +kernel
theorem dX8_init_191 : decode cX8_init 191 = .ok (.iconst 4, 1) := by decide +kernel
theorem dX8_init_192 : decode cX8_init 192 = .ok (.iconst 1, 1) := by decide +kernel
theorem dX8_init_193 : decode cX8_init 193 = .ok (.bipush 6, 2) := by decide +kernel
theorem dX8_init_195 : decode cX8_init 195 = .ok (.iconst 1, 1) := by decide +kernel
theorem dX8_init_196 : decode cX8_init 196 = .ok (.invokevirtual 65, 3) := by decide +kernel
theorem dX8_init_199 : decode cX8_init 199 = .ok (.return_, 1) := by decide +kernel
theorem dX8_appendText_0 : decode cX8_appendText 0 = .ok (.aload_n 0, 1) := by decide +kernel
theorem dX8_appendText_1 : decode cX8_appendText 1 = .ok (.getfield 10, 3) := by decide +kernel
theorem dX8_appendText_4 : decode cX8_appendText 4 = .ok (.getfield 69, 3) := by decide +kernel
theorem dX8_appendText_7 : decode cX8_appendText 7 = .ok (.astore_n 2, 1) := by decide +kernel
theorem dX8_appendText_8 : decode cX8_appendText 8 = .ok (.aload_n 2, 1) := by decide +kernel
theorem dX8_appendText_9 : decode cX8_appendText 9 = .ok (.getfield 72, 3) := by decide +kernel
theorem dX8_appendText_12 : decode cX8_appendText 12 = .ok (.sipush 496, 3) := by decide +kernel
theorem dX8_appendText_15 : decode cX8_appendText 15 = .ok (.if_icmp .le 13, 3) := by decide +kernel
theorem dX8_appendText_18 : decode cX8_appendText 18 = .ok (.new 76, 3) := by decide +kernel
theorem dX8_appendText_21 : decode cX8_appendText 21 = .ok (.dup, 1) := by decide +kernel
theorem dX8_appendText_22 : decode cX8_appendText 22 = .ok (.ldc 78, 2) := by decide +kernel
theorem dX8_appendText_24 : decode cX8_appendText 24 = .ok (.invokespecial 80, 3) := by decide +kernel
theorem dX8_appendText_27 : decode cX8_appendText 27 = .ok (.athrow, 1) := by decide +kernel
theorem dX8_appendText_28 : decode cX8_appendText 28 = .ok (.bipush 24, 2) := by decide +kernel
theorem dX8_appendText_30 : decode cX8_appendText 30 = .ok (.istore_n 3, 1) := by decide +kernel
theorem dX8_appendText_31 : decode cX8_appendText 31 = .ok (.iload_n 3, 1) := by decide +kernel
theorem dX8_appendText_32 : decode cX8_appendText 32 = .ok (.ifCond .lt 20, 3) := by decide +kernel
theorem dX8_appendText_35 : decode cX8_appendText 35 = .ok (.aload_n 2, 1) := by decide +kernel
theorem dX8_appendText_36 : decode cX8_appendText 36 = .ok (.iload_n 1, 1) := by decide +kernel
theorem dX8_appendText_37 : decode cX8_appendText 37 = .ok (.iload_n 3, 1) := by decide +kernel
theorem dX8_appendText_38 : decode cX8_appendText 38 = .ok (.iushr, 1) := by decide +kernel
theorem dX8_appendText_39 : decode cX8_appendText 39 = .ok (.sipush 255, 3) := by decide +kernel
theorem dX8_appendText_42 : decode cX8_appendText 42 = .ok (.iand, 1) := by decide +kernel
theorem dX8_appendText_43 : decode cX8_appendText 43 = .ok (.invokevirtual 83, 3) := by decide +kernel
theorem dX8_appendText_46 : decode cX8_appendText 46 = .ok (.iinc 3 (-8), 3) := by decide +kernel
theorem dX8_appendText_49 : decode cX8_appendText 49 = .ok (.goto (-18), 3) := by decide +kernel
theorem dX8_appendText_52 : decode cX8_appendText 52 = .ok (.aload_n 2, 1) := by decide +kernel
theorem dX8_appendText_53 : decode cX8_appendText 53 = .ok (.getfield 72, 3) := by decide +kernel
theorem dX8_appendText_56 : decode cX8_appendText 56 = .ok (.ireturn, 1) := by decide +kernel
theorem dX8_truncateText_0 : decode cX8_truncateText 0 = .ok (.iload_n 1, 1) := by decide +kernel
theorem dX8_truncateText_1 : decode cX8_truncateText 1 = .ok (.iconst 0, 1) := by decide +kernel
theorem dX8_truncateText_2 : decode cX8_truncateText 2 = .ok (.aload_n 0, 1) := by decide +kernel
theorem dX8_truncateText_3 : decode cX8_truncateText 3 = .ok (.getfield 10, 3) := by decide +kernel
theorem dX8_truncateText_6 : decode cX8_truncateText 6 = .ok (.getfield 69, 3) := by decide +kernel
theorem dX8_truncateText_9 : decode cX8_truncateText 9 = .ok (.getfield 72, 3) := by decide +kernel
theorem dX8_truncateText_12 : decode cX8_truncateText 12 = .ok (.invokestatic 86, 3) := by decide +kernel
theorem dX8_truncateText_15 : decode cX8_truncateText 15 = .ok (.aload_n 0, 1) := by decide +kernel
theorem dX8_truncateText_16 : decode cX8_truncateText 16 = .ok (.getfield 10, 3) := by decide +kernel
theorem dX8_truncateText_19 : decode cX8_truncateText 19 = .ok (.getfield 69, 3) := by decide +kernel
theorem dX8_truncateText_22 : decode cX8_truncateText 22 = .ok (.iload_n 1, 1) := by decide +kernel
theorem dX8_truncateText_23 : decode cX8_truncateText 23 = .ok (.invokevirtual 90, 3) := by decide +kernel
theorem dX8_truncateText_26 : decode cX8_truncateText 26 = .ok (.iload_n 1, 1) := by decide +kernel
theorem dX8_truncateText_27 : decode cX8_truncateText 27 = .ok (.ireturn, 1) := by decide +kernel
theorem dX8_load_0 : decode cX8_load 0 = .ok (.aload_n 0, 1) := by decide +kernel
theorem dX8_load_1 : decode cX8_load 1 = .ok (.getfield 30, 3) := by decide +kernel
theorem dX8_load_4 : decode cX8_load 4 = .ok (.aload_n 0, 1) := by decide +kernel
theorem dX8_load_5 : decode cX8_load 5 = .ok (.getfield 10, 3) := by decide +kernel
theorem dX8_load_8 : decode cX8_load 8 = .ok (.invokevirtual 93, 3) := by decide +kernel
theorem dX8_load_11 : decode cX8_load 11 = .ok (.aload_n 0, 1) := by decide +kernel
theorem dX8_load_12 : decode cX8_load 12 = .ok (.getfield 10, 3) := by decide +kernel
theorem dX8_load_15 : decode cX8_load 15 = .ok (.getfield 69, 3) := by decide +kernel
theorem dX8_load_18 : decode cX8_load 18 = .ok (.iconst 0, 1) := by decide +kernel
theorem dX8_load_19 : decode cX8_load 19 = .ok (.invokevirtual 90, 3) := by decide +kernel
theorem dX8_load_22 : decode cX8_load 22 = .ok (.aload_n 0, 1) := by decide +kernel
theorem dX8_load_23 : decode cX8_load 23 = .ok (.getfield 10, 3) := by decide +kernel
theorem dX8_load_26 : decode cX8_load 26 = .ok (.invokevirtual 97, 3) := by decide +kernel
theorem dX8_load_29 : decode cX8_load 29 = .ok (.ifCond .eq 5, 3) := by decide +kernel
theorem dX8_load_32 : decode cX8_load 32 = .ok (.iconst (-1), 1) := by decide +kernel
theorem dX8_load_33 : decode cX8_load 33 = .ok (.ireturn, 1) := by decide +kernel
theorem dX8_load_34 : decode cX8_load 34 = .ok (.aload_n 0, 1) := by decide +kernel
theorem dX8_load_35 : decode cX8_load 35 = .ok (.getfield 26, 3) := by decide +kernel
theorem dX8_load_38 : decode cX8_load 38 = .ok (.aload_n 0, 1) := by decide +kernel
theorem dX8_load_39 : decode cX8_load 39 = .ok (.getfield 30, 3) := by decide +kernel
theorem dX8_load_42 : decode cX8_load 42 = .ok (.invokevirtual 101, 3) := by decide +kernel
theorem dX8_load_45 : decode cX8_load 45 = .ok (.aload_n 0, 1) := by decide +kernel
theorem dX8_load_46 : decode cX8_load 46 = .ok (.getfield 36, 3) := by decide +kernel
theorem dX8_load_49 : decode cX8_load 49 = .ok (.invokevirtual 105, 3) := by decide +kernel
theorem dX8_load_52 : decode cX8_load 52 = .ok (.aload_n 0, 1) := by decide +kernel
theorem dX8_load_53 : decode cX8_load 53 = .ok (.getfield 26, 3) := by decide +kernel
theorem dX8_load_56 : decode cX8_load 56 = .ok (.getfield 108, 3) := by decide +kernel
theorem dX8_load_59 : decode cX8_load 59 = .ok (.ireturn, 1) := by decide +kernel
theorem dX8_count_0 : decode cX8_count 0 = .ok (.iload_n 1, 1) := by decide +kernel
theorem dX8_count_1 : decode cX8_count 1 = .ok (.tableswitch 181 0 12 #[67, 75, 83, 91, 99, 108, 117, 126, 135, 146, 157, 165, 173], 67) := by decide +kernel
theorem dX8_count_68 : decode cX8_count 68 = .ok (.aload_n 0, 1) := by decide +kernel
theorem dX8_count_69 : decode cX8_count 69 = .ok (.getfield 26, 3) := by decide +kernel
theorem dX8_count_72 : decode cX8_count 72 = .ok (.getfield 108, 3) := by decide +kernel
theorem dX8_count_75 : decode cX8_count 75 = .ok (.ireturn, 1) := by decide +kernel
theorem dX8_count_76 : decode cX8_count 76 = .ok (.aload_n 0, 1) := by decide +kernel
theorem dX8_count_77 : decode cX8_count 77 = .ok (.getfield 26, 3) := by decide +kernel
theorem dX8_count_80 : decode cX8_count 80 = .ok (.getfield 159, 3) := by decide +kernel
theorem dX8_count_83 : decode cX8_count 83 = .ok (.ireturn, 1) := by decide +kernel
theorem dX8_count_84 : decode cX8_count 84 = .ok (.aload_n 0, 1) := by decide +kernel
theorem dX8_count_85 : decode cX8_count 85 = .ok (.getfield 26, 3) := by decide +kernel
theorem dX8_count_88 : decode cX8_count 88 = .ok (.getfield 162, 3) := by decide +kernel
theorem dX8_count_91 : decode cX8_count 91 = .ok (.ireturn, 1) := by decide +kernel
theorem dX8_count_92 : decode cX8_count 92 = .ok (.aload_n 0, 1) := by decide +kernel
theorem dX8_count_93 : decode cX8_count 93 = .ok (.getfield 26, 3) := by decide +kernel
theorem dX8_count_96 : decode cX8_count 96 = .ok (.getfield 165, 3) := by decide +kernel
theorem dX8_count_99 : decode cX8_count 99 = .ok (.ireturn, 1) := by decide +kernel
theorem dX8_count_100 : decode cX8_count 100 = .ok (.aload_n 0, 1) := by decide +kernel
theorem dX8_count_101 : decode cX8_count 101 = .ok (.getfield 26, 3) := by decide +kernel
theorem dX8_count_104 : decode cX8_count 104 = .ok (.iconst 0, 1) := by decide +kernel
theorem dX8_count_105 : decode cX8_count 105 = .ok (.invokevirtual 168, 3) := by decide +kernel
theorem dX8_count_108 : decode cX8_count 108 = .ok (.ireturn, 1) := by decide +kernel
theorem dX8_count_109 : decode cX8_count 109 = .ok (.aload_n 0, 1) := by decide +kernel
theorem dX8_count_110 : decode cX8_count 110 = .ok (.getfield 26, 3) := by decide +kernel
theorem dX8_count_113 : decode cX8_count 113 = .ok (.iconst 1, 1) := by decide +kernel
theorem dX8_count_114 : decode cX8_count 114 = .ok (.invokevirtual 168, 3) := by decide +kernel
theorem dX8_count_117 : decode cX8_count 117 = .ok (.ireturn, 1) := by decide +kernel
theorem dX8_count_118 : decode cX8_count 118 = .ok (.aload_n 0, 1) := by decide +kernel
theorem dX8_count_119 : decode cX8_count 119 = .ok (.getfield 26, 3) := by decide +kernel
theorem dX8_count_122 : decode cX8_count 122 = .ok (.iconst 0, 1) := by decide +kernel
theorem dX8_count_123 : decode cX8_count 123 = .ok (.invokevirtual 171, 3) := by decide +kernel
theorem dX8_count_126 : decode cX8_count 126 = .ok (.ireturn, 1) := by decide +kernel
theorem dX8_count_127 : decode cX8_count 127 = .ok (.aload_n 0, 1) := by decide +kernel
theorem dX8_count_128 : decode cX8_count 128 = .ok (.getfield 26, 3) := by decide +kernel
theorem dX8_count_131 : decode cX8_count 131 = .ok (.iconst 1, 1) := by decide +kernel
theorem dX8_count_132 : decode cX8_count 132 = .ok (.invokevirtual 171, 3) := by decide +kernel
theorem dX8_count_135 : decode cX8_count 135 = .ok (.ireturn, 1) := by decide +kernel
theorem dX8_count_136 : decode cX8_count 136 = .ok (.aload_n 0, 1) := by decide +kernel
theorem dX8_count_137 : decode cX8_count 137 = .ok (.getfield 26, 3) := by decide +kernel
theorem dX8_count_140 : decode cX8_count 140 = .ok (.getfield 174, 3) := by decide +kernel
theorem dX8_count_143 : decode cX8_count 143 = .ok (.getfield 178, 3) := by decide +kernel
theorem dX8_count_146 : decode cX8_count 146 = .ok (.ireturn, 1) := by decide +kernel
theorem dX8_count_147 : decode cX8_count 147 = .ok (.aload_n 0, 1) := by decide +kernel
theorem dX8_count_148 : decode cX8_count 148 = .ok (.getfield 26, 3) := by decide +kernel
theorem dX8_count_151 : decode cX8_count 151 = .ok (.getfield 174, 3) := by decide +kernel
theorem dX8_count_154 : decode cX8_count 154 = .ok (.invokevirtual 181, 3) := by decide +kernel
theorem dX8_count_157 : decode cX8_count 157 = .ok (.ireturn, 1) := by decide +kernel
theorem dX8_count_158 : decode cX8_count 158 = .ok (.aload_n 0, 1) := by decide +kernel
theorem dX8_count_159 : decode cX8_count 159 = .ok (.getfield 26, 3) := by decide +kernel
theorem dX8_count_162 : decode cX8_count 162 = .ok (.invokevirtual 185, 3) := by decide +kernel
theorem dX8_count_165 : decode cX8_count 165 = .ok (.ireturn, 1) := by decide +kernel
theorem dX8_count_166 : decode cX8_count 166 = .ok (.aload_n 0, 1) := by decide +kernel
theorem dX8_count_167 : decode cX8_count 167 = .ok (.getfield 26, 3) := by decide +kernel
theorem dX8_count_170 : decode cX8_count 170 = .ok (.invokevirtual 188, 3) := by decide +kernel
theorem dX8_count_173 : decode cX8_count 173 = .ok (.ireturn, 1) := by decide +kernel
theorem dX8_count_174 : decode cX8_count 174 = .ok (.aload_n 0, 1) := by decide +kernel
theorem dX8_count_175 : decode cX8_count 175 = .ok (.getfield 36, 3) := by decide +kernel
theorem dX8_count_178 : decode cX8_count 178 = .ok (.getfield 191, 3) := by decide +kernel
theorem dX8_count_181 : decode cX8_count 181 = .ok (.ireturn, 1) := by decide +kernel
theorem dX8_count_182 : decode cX8_count 182 = .ok (.new 192, 3) := by decide +kernel
theorem dX8_count_185 : decode cX8_count 185 = .ok (.dup, 1) := by decide +kernel
theorem dX8_count_186 : decode cX8_count 186 = .ok (.ldc 194, 2) := by decide +kernel
theorem dX8_count_188 : decode cX8_count 188 = .ok (.invokespecial 196, 3) := by decide +kernel
theorem dX8_count_191 : decode cX8_count 191 = .ok (.athrow, 1) := by decide +kernel
theorem dX8_tally_0 : decode cX8_tally 0 = .ok (.iload_n 1, 1) := by decide +kernel
theorem dX8_tally_1 : decode cX8_tally 1 = .ok (.iconst 0, 1) := by decide +kernel
theorem dX8_tally_2 : decode cX8_tally 2 = .ok (.bipush 9, 2) := by decide +kernel
theorem dX8_tally_4 : decode cX8_tally 4 = .ok (.invokestatic 86, 3) := by decide +kernel
theorem dX8_tally_7 : decode cX8_tally 7 = .ok (.aload_n 0, 1) := by decide +kernel
theorem dX8_tally_8 : decode cX8_tally 8 = .ok (.getfield 26, 3) := by decide +kernel
theorem dX8_tally_11 : decode cX8_tally 11 = .ok (.getfield 197, 3) := by decide +kernel
theorem dX8_tally_14 : decode cX8_tally 14 = .ok (.iload_n 1, 1) := by decide +kernel
theorem dX8_tally_15 : decode cX8_tally 15 = .ok (.iaload, 1) := by decide +kernel
theorem dX8_tally_16 : decode cX8_tally 16 = .ok (.ireturn, 1) := by decide +kernel
theorem dX8_pupil_0 : decode cX8_pupil 0 = .ok (.aload_n 0, 1) := by decide +kernel
theorem dX8_pupil_1 : decode cX8_pupil 1 = .ok (.iload_n 1, 1) := by decide +kernel
theorem dX8_pupil_2 : decode cX8_pupil 2 = .ok (.invokevirtual 200, 3) := by decide +kernel
theorem dX8_pupil_5 : decode cX8_pupil 5 = .ok (.aload_n 0, 1) := by decide +kernel
theorem dX8_pupil_6 : decode cX8_pupil 6 = .ok (.getfield 26, 3) := by decide +kernel
theorem dX8_pupil_9 : decode cX8_pupil 9 = .ok (.getfield 203, 3) := by decide +kernel
theorem dX8_pupil_12 : decode cX8_pupil 12 = .ok (.iload_n 1, 1) := by decide +kernel
theorem dX8_pupil_13 : decode cX8_pupil 13 = .ok (.aaload, 1) := by decide +kernel
theorem dX8_pupil_14 : decode cX8_pupil 14 = .ok (.astore_n 3, 1) := by decide +kernel
theorem dX8_pupil_15 : decode cX8_pupil 15 = .ok (.iload_n 2, 1) := by decide +kernel
theorem dX8_pupil_16 : decode cX8_pupil 16 = .ok (.tableswitch 175 0 13 #[72, 77, 82, 88, 94, 107, 112, 117, 122, 127, 135, 143, 155, 167], 72) := by decide +kernel
theorem dX8_pupil_88 : decode cX8_pupil 88 = .ok (.aload_n 3, 1) := by decide +kernel
theorem dX8_pupil_89 : decode cX8_pupil 89 = .ok (.getfield 207, 3) := by decide +kernel
theorem dX8_pupil_92 : decode cX8_pupil 92 = .ok (.ireturn, 1) := by decide +kernel
theorem dX8_pupil_93 : decode cX8_pupil 93 = .ok (.aload_n 3, 1) := by decide +kernel
theorem dX8_pupil_94 : decode cX8_pupil 94 = .ok (.getfield 212, 3) := by decide +kernel
theorem dX8_pupil_97 : decode cX8_pupil 97 = .ok (.ireturn, 1) := by decide +kernel
theorem dX8_pupil_98 : decode cX8_pupil 98 = .ok (.aload_n 3, 1) := by decide +kernel
theorem dX8_pupil_99 : decode cX8_pupil 99 = .ok (.iconst 0, 1) := by decide +kernel
theorem dX8_pupil_100 : decode cX8_pupil 100 = .ok (.invokevirtual 215, 3) := by decide +kernel
theorem dX8_pupil_103 : decode cX8_pupil 103 = .ok (.ireturn, 1) := by decide +kernel
theorem dX8_pupil_104 : decode cX8_pupil 104 = .ok (.aload_n 3, 1) := by decide +kernel
theorem dX8_pupil_105 : decode cX8_pupil 105 = .ok (.iconst 1, 1) := by decide +kernel
theorem dX8_pupil_106 : decode cX8_pupil 106 = .ok (.invokevirtual 215, 3) := by decide +kernel
theorem dX8_pupil_109 : decode cX8_pupil 109 = .ok (.ireturn, 1) := by decide +kernel
theorem dX8_pupil_110 : decode cX8_pupil 110 = .ok (.aload_n 3, 1) := by decide +kernel
theorem dX8_pupil_111 : decode cX8_pupil 111 = .ok (.getfield 218, 3) := by decide +kernel
theorem dX8_pupil_114 : decode cX8_pupil 114 = .ok (.ifCond .eq 7, 3) := by decide +kernel
theorem dX8_pupil_117 : decode cX8_pupil 117 = .ok (.iconst 1, 1) := by decide +kernel
theorem dX8_pupil_118 : decode cX8_pupil 118 = .ok (.goto 4, 3) := by decide +kernel
theorem dX8_pupil_121 : decode cX8_pupil 121 = .ok (.iconst 0, 1) := by decide +kernel
theorem dX8_pupil_122 : decode cX8_pupil 122 = .ok (.ireturn, 1) := by decide +kernel
theorem dX8_pupil_123 : decode cX8_pupil 123 = .ok (.aload_n 3, 1) := by decide +kernel
theorem dX8_pupil_124 : decode cX8_pupil 124 = .ok (.getfield 222, 3) := by decide +kernel
theorem dX8_pupil_127 : decode cX8_pupil 127 = .ok (.ireturn, 1) := by decide +kernel
theorem dX8_pupil_128 : decode cX8_pupil 128 = .ok (.aload_n 3, 1) := by decide +kernel
theorem dX8_pupil_129 : decode cX8_pupil 129 = .ok (.getfield 225, 3) := by decide +kernel
theorem dX8_pupil_132 : decode cX8_pupil 132 = .ok (.ireturn, 1) := by decide +kernel
theorem dX8_pupil_133 : decode cX8_pupil 133 = .ok (.aload_n 3, 1) := by decide +kernel
theorem dX8_pupil_134 : decode cX8_pupil 134 = .ok (.getfield 228, 3) := by decide +kernel
theorem dX8_pupil_137 : decode cX8_pupil 137 = .ok (.ireturn, 1) := by decide +kernel
theorem dX8_pupil_138 : decode cX8_pupil 138 = .ok (.aload_n 3, 1) := by decide +kernel
theorem dX8_pupil_139 : decode cX8_pupil 139 = .ok (.getfield 231, 3) := by decide +kernel
theorem dX8_pupil_142 : decode cX8_pupil 142 = .ok (.ireturn, 1) := by decide +kernel
theorem dX8_pupil_143 : decode cX8_pupil 143 = .ok (.aload_n 3, 1) := by decide +kernel
theorem dX8_pupil_144 : decode cX8_pupil 144 = .ok (.getfield 234, 3) := by decide +kernel
theorem dX8_pupil_147 : decode cX8_pupil 147 = .ok (.getfield 238, 3) := by decide +kernel
theorem dX8_pupil_150 : decode cX8_pupil 150 = .ok (.ireturn, 1) := by decide +kernel
theorem dX8_pupil_151 : decode cX8_pupil 151 = .ok (.aload_n 3, 1) := by decide +kernel
theorem dX8_pupil_152 : decode cX8_pupil 152 = .ok (.getfield 241, 3) := by decide +kernel
theorem dX8_pupil_155 : decode cX8_pupil 155 = .ok (.getfield 238, 3) := by decide +kernel
theorem dX8_pupil_158 : decode cX8_pupil 158 = .ok (.ireturn, 1) := by decide +kernel
theorem dX8_pupil_159 : decode cX8_pupil 159 = .ok (.aload_n 0, 1) := by decide +kernel
theorem dX8_pupil_160 : decode cX8_pupil 160 = .ok (.getfield 26, 3) := by decide +kernel
theorem dX8_pupil_163 : decode cX8_pupil 163 = .ok (.getfield 174, 3) := by decide +kernel
theorem dX8_pupil_166 : decode cX8_pupil 166 = .ok (.iload_n 1, 1) := by decide +kernel
theorem dX8_pupil_167 : decode cX8_pupil 167 = .ok (.invokevirtual 244, 3) := by decide +kernel
theorem dX8_pupil_170 : decode cX8_pupil 170 = .ok (.ireturn, 1) := by decide +kernel
theorem dX8_pupil_171 : decode cX8_pupil 171 = .ok (.aload_n 0, 1) := by decide +kernel
theorem dX8_pupil_172 : decode cX8_pupil 172 = .ok (.getfield 26, 3) := by decide +kernel
theorem dX8_pupil_175 : decode cX8_pupil 175 = .ok (.getfield 174, 3) := by decide +kernel
theorem dX8_pupil_178 : decode cX8_pupil 178 = .ok (.iload_n 1, 1) := by decide +kernel
theorem dX8_pupil_179 : decode cX8_pupil 179 = .ok (.invokevirtual 247, 3) := by decide +kernel
theorem dX8_pupil_182 : decode cX8_pupil 182 = .ok (.ireturn, 1) := by decide +kernel
theorem dX8_pupil_183 : decode cX8_pupil 183 = .ok (.aload_n 3, 1) := by decide +kernel
theorem dX8_pupil_184 : decode cX8_pupil 184 = .ok (.getfield 250, 3) := by decide +kernel
theorem dX8_pupil_187 : decode cX8_pupil 187 = .ok (.invokestatic 253, 3) := by decide +kernel
theorem dX8_pupil_190 : decode cX8_pupil 190 = .ok (.ireturn, 1) := by decide +kernel
theorem dX8_pupil_191 : decode cX8_pupil 191 = .ok (.new 192, 3) := by decide +kernel
theorem dX8_pupil_194 : decode cX8_pupil 194 = .ok (.dup, 1) := by decide +kernel
theorem dX8_pupil_195 : decode cX8_pupil 195 = .ok (.ldc_w 258, 3) := by decide +kernel
theorem dX8_pupil_198 : decode cX8_pupil 198 = .ok (.invokespecial 196, 3) := by decide +kernel
theorem dX8_pupil_201 : decode cX8_pupil 201 = .ok (.athrow, 1) := by decide +kernel
theorem dX8_piece_0 : decode cX8_piece 0 = .ok (.aload_n 0, 1) := by decide +kernel
theorem dX8_piece_1 : decode cX8_piece 1 = .ok (.iload_n 1, 1) := by decide +kernel
theorem dX8_piece_2 : decode cX8_piece 2 = .ok (.invokevirtual 200, 3) := by decide +kernel
theorem dX8_piece_5 : decode cX8_piece 5 = .ok (.iload_n 2, 1) := by decide +kernel
theorem dX8_piece_6 : decode cX8_piece 6 = .ok (.invokestatic 260, 3) := by decide +kernel
theorem dX8_piece_9 : decode cX8_piece 9 = .ok (.aload_n 0, 1) := by decide +kernel
theorem dX8_piece_10 : decode cX8_piece 10 = .ok (.getfield 26, 3) := by decide +kernel
theorem dX8_piece_13 : decode cX8_piece 13 = .ok (.getfield 203, 3) := by decide +kernel
theorem dX8_piece_16 : decode cX8_piece 16 = .ok (.iload_n 1, 1) := by decide +kernel
theorem dX8_piece_17 : decode cX8_piece 17 = .ok (.aaload, 1) := by decide +kernel
theorem dX8_piece_18 : decode cX8_piece 18 = .ok (.iload_n 2, 1) := by decide +kernel
theorem dX8_piece_19 : decode cX8_piece 19 = .ok (.invokevirtual 263, 3) := by decide +kernel
theorem dX8_piece_22 : decode cX8_piece 22 = .ok (.iload_n 3, 1) := by decide +kernel
theorem dX8_piece_23 : decode cX8_piece 23 = .ok (.invokevirtual 267, 3) := by decide +kernel
theorem dX8_piece_26 : decode cX8_piece 26 = .ok (.ireturn, 1) := by decide +kernel
theorem dX8_madeBy_0 : decode cX8_madeBy 0 = .ok (.aload_n 0, 1) := by decide +kernel
theorem dX8_madeBy_1 : decode cX8_madeBy 1 = .ok (.iload_n 1, 1) := by decide +kernel
theorem dX8_madeBy_2 : decode cX8_madeBy 2 = .ok (.invokevirtual 200, 3) := by decide +kernel
theorem dX8_madeBy_5 : decode cX8_madeBy 5 = .ok (.aload_n 0, 1) := by decide +kernel
theorem dX8_madeBy_6 : decode cX8_madeBy 6 = .ok (.iload_n 3, 1) := by decide +kernel
theorem dX8_madeBy_7 : decode cX8_madeBy 7 = .ok (.invokevirtual 200, 3) := by decide +kernel
theorem dX8_madeBy_10 : decode cX8_madeBy 10 = .ok (.iload_n 2, 1) := by decide +kernel
theorem dX8_madeBy_11 : decode cX8_madeBy 11 = .ok (.invokestatic 260, 3) := by decide +kernel
theorem dX8_madeBy_14 : decode cX8_madeBy 14 = .ok (.aload_n 0, 1) := by decide +kernel
theorem dX8_madeBy_15 : decode cX8_madeBy 15 = .ok (.getfield 26, 3) := by decide +kernel
theorem dX8_madeBy_18 : decode cX8_madeBy 18 = .ok (.getfield 203, 3) := by decide +kernel
theorem dX8_madeBy_21 : decode cX8_madeBy 21 = .ok (.iload_n 1, 1) := by decide +kernel
theorem dX8_madeBy_22 : decode cX8_madeBy 22 = .ok (.aaload, 1) := by decide +kernel
theorem dX8_madeBy_23 : decode cX8_madeBy 23 = .ok (.iload_n 2, 1) := by decide +kernel
theorem dX8_madeBy_24 : decode cX8_madeBy 24 = .ok (.invokevirtual 263, 3) := by decide +kernel
theorem dX8_madeBy_27 : decode cX8_madeBy 27 = .ok (.iload_n 3, 1) := by decide +kernel
theorem dX8_madeBy_28 : decode cX8_madeBy 28 = .ok (.invokevirtual 270, 3) := by decide +kernel
theorem dX8_madeBy_31 : decode cX8_madeBy 31 = .ok (.ireturn, 1) := by decide +kernel
theorem dX8_debt_0 : decode cX8_debt 0 = .ok (.aload_n 0, 1) := by decide +kernel
theorem dX8_debt_1 : decode cX8_debt 1 = .ok (.iload_n 1, 1) := by decide +kernel
theorem dX8_debt_2 : decode cX8_debt 2 = .ok (.invokevirtual 273, 3) := by decide +kernel
theorem dX8_debt_5 : decode cX8_debt 5 = .ok (.iload_n 2, 1) := by decide +kernel
theorem dX8_debt_6 : decode cX8_debt 6 = .ok (.tableswitch 82 0 3 #[30, 43, 56, 69], 30) := by decide +kernel
theorem dX8_debt_36 : decode cX8_debt 36 = .ok (.aload_n 0, 1) := by decide +kernel
theorem dX8_debt_37 : decode cX8_debt 37 = .ok (.getfield 26, 3) := by decide +kernel
theorem dX8_debt_40 : decode cX8_debt 40 = .ok (.getfield 174, 3) := by decide +kernel
theorem dX8_debt_43 : decode cX8_debt 43 = .ok (.getfield 276, 3) := by decide +kernel
theorem dX8_debt_46 : decode cX8_debt 46 = .ok (.iload_n 1, 1) := by decide +kernel
theorem dX8_debt_47 : decode cX8_debt 47 = .ok (.iaload, 1) := by decide +kernel
theorem dX8_debt_48 : decode cX8_debt 48 = .ok (.ireturn, 1) := by decide +kernel
theorem dX8_debt_49 : decode cX8_debt 49 = .ok (.aload_n 0, 1) := by decide +kernel
theorem dX8_debt_50 : decode cX8_debt 50 = .ok (.getfield 26, 3) := by decide +kernel
theorem dX8_debt_53 : decode cX8_debt 53 = .ok (.getfield 174, 3) := by decide +kernel
theorem dX8_debt_56 : decode cX8_debt 56 = .ok (.getfield 279, 3) := by decide +kernel
theorem dX8_debt_59 : decode cX8_debt 59 = .ok (.iload_n 1, 1) := by decide +kernel
theorem dX8_debt_60 : decode cX8_debt 60 = .ok (.iaload, 1) := by decide +kernel
theorem dX8_debt_61 : decode cX8_debt 61 = .ok (.ireturn, 1) := by decide +kernel
theorem dX8_debt_62 : decode cX8_debt 62 = .ok (.aload_n 0, 1) := by decide +kernel
theorem dX8_debt_63 : decode cX8_debt 63 = .ok (.getfield 26, 3) := by decide +kernel
theorem dX8_debt_66 : decode cX8_debt 66 = .ok (.getfield 174, 3) := by decide +kernel
theorem dX8_debt_69 : decode cX8_debt 69 = .ok (.getfield 282, 3) := by decide +kernel
theorem dX8_debt_72 : decode cX8_debt 72 = .ok (.iload_n 1, 1) := by decide +kernel
theorem dX8_debt_73 : decode cX8_debt 73 = .ok (.iaload, 1) := by decide +kernel
theorem dX8_debt_74 : decode cX8_debt 74 = .ok (.ireturn, 1) := by decide +kernel
theorem dX8_debt_75 : decode cX8_debt 75 = .ok (.aload_n 0, 1) := by decide +kernel
theorem dX8_debt_76 : decode cX8_debt 76 = .ok (.getfield 26, 3) := by decide +kernel
theorem dX8_debt_79 : decode cX8_debt 79 = .ok (.getfield 174, 3) := by decide +kernel
theorem dX8_debt_82 : decode cX8_debt 82 = .ok (.getfield 285, 3) := by decide +kernel
theorem dX8_debt_85 : decode cX8_debt 85 = .ok (.iload_n 1, 1) := by decide +kernel
theorem dX8_debt_86 : decode cX8_debt 86 = .ok (.iaload, 1) := by decide +kernel
theorem dX8_debt_87 : decode cX8_debt 87 = .ok (.ireturn, 1) := by decide +kernel
theorem dX8_debt_88 : decode cX8_debt 88 = .ok (.new 192, 3) := by decide +kernel
theorem dX8_debt_91 : decode cX8_debt 91 = .ok (.dup, 1) := by decide +kernel
theorem dX8_debt_92 : decode cX8_debt 92 = .ok (.ldc_w 288, 3) := by decide +kernel
theorem dX8_debt_95 : decode cX8_debt 95 = .ok (.invokespecial 196, 3) := by decide +kernel
theorem dX8_debt_98 : decode cX8_debt 98 = .ok (.athrow, 1) := by decide +kernel
theorem dX8_owes_0 : decode cX8_owes 0 = .ok (.aload_n 0, 1) := by decide +kernel
theorem dX8_owes_1 : decode cX8_owes 1 = .ok (.iload_n 1, 1) := by decide +kernel
theorem dX8_owes_2 : decode cX8_owes 2 = .ok (.invokevirtual 200, 3) := by decide +kernel
theorem dX8_owes_5 : decode cX8_owes 5 = .ok (.aload_n 0, 1) := by decide +kernel
theorem dX8_owes_6 : decode cX8_owes 6 = .ok (.iload_n 2, 1) := by decide +kernel
theorem dX8_owes_7 : decode cX8_owes 7 = .ok (.invokevirtual 200, 3) := by decide +kernel
theorem dX8_owes_10 : decode cX8_owes 10 = .ok (.iload_n 3, 1) := by decide +kernel
theorem dX8_owes_11 : decode cX8_owes 11 = .ok (.invokestatic 260, 3) := by decide +kernel
theorem dX8_owes_14 : decode cX8_owes 14 = .ok (.aload_n 0, 1) := by decide +kernel
theorem dX8_owes_15 : decode cX8_owes 15 = .ok (.getfield 26, 3) := by decide +kernel
theorem dX8_owes_18 : decode cX8_owes 18 = .ok (.getfield 174, 3) := by decide +kernel
theorem dX8_owes_21 : decode cX8_owes 21 = .ok (.iload_n 1, 1) := by decide +kernel
theorem dX8_owes_22 : decode cX8_owes 22 = .ok (.iload_n 2, 1) := by decide +kernel
theorem dX8_owes_23 : decode cX8_owes 23 = .ok (.iload_n 3, 1) := by decide +kernel
theorem dX8_owes_24 : decode cX8_owes 24 = .ok (.invokevirtual 290, 3) := by decide +kernel
theorem dX8_owes_27 : decode cX8_owes 27 = .ok (.ireturn, 1) := by decide +kernel
theorem dX8_isNear_0 : decode cX8_isNear 0 = .ok (.aload_n 0, 1) := by decide +kernel
theorem dX8_isNear_1 : decode cX8_isNear 1 = .ok (.iload_n 1, 1) := by decide +kernel
theorem dX8_isNear_2 : decode cX8_isNear 2 = .ok (.invokevirtual 200, 3) := by decide +kernel
theorem dX8_isNear_5 : decode cX8_isNear 5 = .ok (.aload_n 0, 1) := by decide +kernel
theorem dX8_isNear_6 : decode cX8_isNear 6 = .ok (.iload_n 2, 1) := by decide +kernel
theorem dX8_isNear_7 : decode cX8_isNear 7 = .ok (.invokevirtual 200, 3) := by decide +kernel
theorem dX8_isNear_10 : decode cX8_isNear 10 = .ok (.aload_n 0, 1) := by decide +kernel
theorem dX8_isNear_11 : decode cX8_isNear 11 = .ok (.getfield 26, 3) := by decide +kernel
theorem dX8_isNear_14 : decode cX8_isNear 14 = .ok (.getfield 203, 3) := by decide +kernel
theorem dX8_isNear_17 : decode cX8_isNear 17 = .ok (.iload_n 1, 1) := by decide +kernel
theorem dX8_isNear_18 : decode cX8_isNear 18 = .ok (.aaload, 1) := by decide +kernel
theorem dX8_isNear_19 : decode cX8_isNear 19 = .ok (.aload_n 0, 1) := by decide +kernel
theorem dX8_isNear_20 : decode cX8_isNear 20 = .ok (.getfield 26, 3) := by decide +kernel
theorem dX8_isNear_23 : decode cX8_isNear 23 = .ok (.getfield 203, 3) := by decide +kernel
theorem dX8_isNear_26 : decode cX8_isNear 26 = .ok (.iload_n 2, 1) := by decide +kernel
theorem dX8_isNear_27 : decode cX8_isNear 27 = .ok (.aaload, 1) := by decide +kernel
theorem dX8_isNear_28 : decode cX8_isNear 28 = .ok (.getfield 207, 3) := by decide +kernel
theorem dX8_isNear_31 : decode cX8_isNear 31 = .ok (.aload_n 0, 1) := by decide +kernel
theorem dX8_isNear_32 : decode cX8_isNear 32 = .ok (.getfield 26, 3) := by decide +kernel
theorem dX8_isNear_35 : decode cX8_isNear 35 = .ok (.getfield 203, 3) := by decide +kernel
theorem dX8_isNear_38 : decode cX8_isNear 38 = .ok (.iload_n 2, 1) := by decide +kernel
theorem dX8_isNear_39 : decode cX8_isNear 39 = .ok (.aaload, 1) := by decide +kernel
theorem dX8_isNear_40 : decode cX8_isNear 40 = .ok (.getfield 212, 3) := by decide +kernel
theorem dX8_isNear_43 : decode cX8_isNear 43 = .ok (.invokevirtual 293, 3) := by decide +kernel
theorem dX8_isNear_46 : decode cX8_isNear 46 = .ok (.ireturn, 1) := by decide +kernel
theorem dX8_witness_0 : decode cX8_witness 0 = .ok (.aload_n 0, 1) := by decide +kernel
theorem dX8_witness_1 : decode cX8_witness 1 = .ok (.iload_n 1, 1) := by decide +kernel
theorem dX8_witness_2 : decode cX8_witness 2 = .ok (.invokevirtual 200, 3) := by decide +kernel
theorem dX8_witness_5 : decode cX8_witness 5 = .ok (.aload_n 0, 1) := by decide +kernel
theorem dX8_witness_6 : decode cX8_witness 6 = .ok (.getfield 26, 3) := by decide +kernel
theorem dX8_witness_9 : decode cX8_witness 9 = .ok (.getfield 203, 3) := by decide +kernel
theorem dX8_witness_12 : decode cX8_witness 12 = .ok (.iload_n 1, 1) := by decide +kernel
theorem dX8_witness_13 : decode cX8_witness 13 = .ok (.aaload, 1) := by decide +kernel
theorem dX8_witness_14 : decode cX8_witness 14 = .ok (.getfield 250, 3) := by decide +kernel
theorem dX8_witness_17 : decode cX8_witness 17 = .ok (.iload_n 2, 1) := by decide +kernel
theorem dX8_witness_18 : decode cX8_witness 18 = .ok (.invokestatic 297, 3) := by decide +kernel
theorem dX8_witness_21 : decode cX8_witness 21 = .ok (.ireturn, 1) := by decide +kernel
theorem dX8_bench_0 : decode cX8_bench 0 = .ok (.iload_n 1, 1) := by decide +kernel
theorem dX8_bench_1 : decode cX8_bench 1 = .ok (.iload_n 2, 1) := by decide +kernel
theorem dX8_bench_2 : decode cX8_bench 2 = .ok (.invokestatic 300, 3) := by decide +kernel
theorem dX8_bench_5 : decode cX8_bench 5 = .ok (.aload_n 0, 1) := by decide +kernel
theorem dX8_bench_6 : decode cX8_bench 6 = .ok (.getfield 26, 3) := by decide +kernel
theorem dX8_bench_9 : decode cX8_bench 9 = .ok (.iload_n 1, 1) := by decide +kernel
theorem dX8_bench_10 : decode cX8_bench 10 = .ok (.iload_n 2, 1) := by decide +kernel
theorem dX8_bench_11 : decode cX8_bench 11 = .ok (.invokevirtual 304, 3) := by decide +kernel
theorem dX8_bench_14 : decode cX8_bench 14 = .ok (.ireturn, 1) := by decide +kernel
theorem dX8_seers_0 : decode cX8_seers 0 = .ok (.aload_n 0, 1) := by decide +kernel
theorem dX8_seers_1 : decode cX8_seers 1 = .ok (.iload_n 1, 1) := by decide +kernel
theorem dX8_seers_2 : decode cX8_seers 2 = .ok (.invokevirtual 200, 3) := by decide +kernel
theorem dX8_seers_5 : decode cX8_seers 5 = .ok (.aload_n 0, 1) := by decide +kernel
theorem dX8_seers_6 : decode cX8_seers 6 = .ok (.iload_n 2, 1) := by decide +kernel
theorem dX8_seers_7 : decode cX8_seers 7 = .ok (.invokevirtual 200, 3) := by decide +kernel
theorem dX8_seers_10 : decode cX8_seers 10 = .ok (.iload_n 1, 1) := by decide +kernel
theorem dX8_seers_11 : decode cX8_seers 11 = .ok (.iload_n 2, 1) := by decide +kernel
theorem dX8_seers_12 : decode cX8_seers 12 = .ok (.if_icmp .ne 14, 3) := by decide +kernel
theorem dX8_seers_15 : decode cX8_seers 15 = .ok (.new 192, 3) := by decide +kernel
theorem dX8_seers_18 : decode cX8_seers 18 = .ok (.dup, 1) := by decide +kernel
theorem dX8_seers_19 : decode cX8_seers 19 = .ok (.ldc_w 307, 3) := by decide +kernel
theorem dX8_seers_22 : decode cX8_seers 22 = .ok (.invokespecial 196, 3) := by decide +kernel
theorem dX8_seers_25 : decode cX8_seers 25 = .ok (.athrow, 1) := by decide +kernel
theorem dX8_seers_26 : decode cX8_seers 26 = .ok (.aload_n 0, 1) := by decide +kernel
theorem dX8_seers_27 : decode cX8_seers 27 = .ok (.getfield 26, 3) := by decide +kernel
theorem dX8_seers_30 : decode cX8_seers 30 = .ok (.iload_n 1, 1) := by decide +kernel
theorem dX8_seers_31 : decode cX8_seers 31 = .ok (.iload_n 2, 1) := by decide +kernel
theorem dX8_seers_32 : decode cX8_seers 32 = .ok (.invokevirtual 309, 3) := by decide +kernel
theorem dX8_seers_35 : decode cX8_seers 35 = .ok (.invokestatic 253, 3) := by decide +kernel
theorem dX8_seers_38 : decode cX8_seers 38 = .ok (.ireturn, 1) := by decide +kernel
theorem dX8_why_0 : decode cX8_why 0 = .ok (.aload_n 0, 1) := by decide +kernel
theorem dX8_why_1 : decode cX8_why 1 = .ok (.iload_n 1, 1) := by decide +kernel
theorem dX8_why_2 : decode cX8_why 2 = .ok (.invokevirtual 200, 3) := by decide +kernel
theorem dX8_why_5 : decode cX8_why 5 = .ok (.iload_n 2, 1) := by decide +kernel
theorem dX8_why_6 : decode cX8_why 6 = .ok (.iconst 0, 1) := by decide +kernel
theorem dX8_why_7 : decode cX8_why 7 = .ok (.iconst 1, 1) := by decide +kernel
theorem dX8_why_8 : decode cX8_why 8 = .ok (.invokestatic 86, 3) := by decide +kernel
theorem dX8_why_11 : decode cX8_why 11 = .ok (.aload_n 0, 1) := by decide +kernel
theorem dX8_why_12 : decode cX8_why 12 = .ok (.getfield 26, 3) := by decide +kernel
theorem dX8_why_15 : decode cX8_why 15 = .ok (.getfield 203, 3) := by decide +kernel
theorem dX8_why_18 : decode cX8_why 18 = .ok (.iload_n 1, 1) := by decide +kernel
theorem dX8_why_19 : decode cX8_why 19 = .ok (.aaload, 1) := by decide +kernel
theorem dX8_why_20 : decode cX8_why 20 = .ok (.astore_n 3, 1) := by decide +kernel
theorem dX8_why_21 : decode cX8_why 21 = .ok (.aload_n 0, 1) := by decide +kernel
theorem dX8_why_22 : decode cX8_why 22 = .ok (.getfield 26, 3) := by decide +kernel
theorem dX8_why_25 : decode cX8_why 25 = .ok (.aload_n 3, 1) := by decide +kernel
theorem dX8_why_26 : decode cX8_why 26 = .ok (.invokevirtual 312, 3) := by decide +kernel
theorem dX8_why_29 : decode cX8_why 29 = .ok (.istore 4, 2) := by decide +kernel
theorem dX8_why_31 : decode cX8_why 31 = .ok (.iload_n 2, 1) := by decide +kernel
theorem dX8_why_32 : decode cX8_why 32 = .ok (.ifCond .ne 6, 3) := by decide +kernel
