theorem dL_pick_0 : decode cL_pick 0 = .ok (.iload_n 1, 1) := by decide +kernel
theorem dL_pick_1 : decode cL_pick 1 = .ok (.aload_n 0, 1) := by decide +kernel
theorem dL_pick_2 : decode cL_pick 2 = .ok (.arraylength, 1) := by decide +kernel
theorem dL_pick_3 : decode cL_pick 3 = .ok (.if_icmp .ge 9, 3) := by decide +kernel
theorem dL_pick_6 : decode cL_pick 6 = .ok (.aload_n 0, 1) := by decide +kernel
theorem dL_pick_7 : decode cL_pick 7 = .ok (.iload_n 1, 1) := by decide +kernel
theorem dL_pick_8 : decode cL_pick 8 = .ok (.iaload, 1) := by decide +kernel
theorem dL_pick_9 : decode cL_pick 9 = .ok (.goto 10, 3) := by decide +kernel
theorem dL_pick_12 : decode cL_pick 12 = .ok (.bipush 67, 2) := by decide +kernel
theorem dL_pick_14 : decode cL_pick 14 = .ok (.iload_n 1, 1) := by decide +kernel
theorem dL_pick_15 : decode cL_pick 15 = .ok (.imul, 1) := by decide +kernel
theorem dL_pick_16 : decode cL_pick 16 = .ok (.bipush 41, 2) := by decide +kernel
theorem dL_pick_18 : decode cL_pick 18 = .ok (.iadd, 1) := by decide +kernel
theorem dL_pick_19 : decode cL_pick 19 = .ok (.ldc 7, 2) := by decide +kernel
theorem dL_pick_21 : decode cL_pick 21 = .ok (.iand, 1) := by decide +kernel
theorem dL_pick_22 : decode cL_pick 22 = .ok (.ireturn, 1) := by decide +kernel
theorem dL_feed_0 : decode cL_feed 0 = .ok (.aload_n 0, 1) := by decide +kernel
theorem dL_feed_1 : decode cL_feed 1 = .ok (.iconst 0, 1) := by decide +kernel
theorem dL_feed_2 : decode cL_feed 2 = .ok (.invokevirtual 8, 3) := by decide +kernel
theorem dL_feed_5 : decode cL_feed 5 = .ok (.istore_n 2, 1) := by decide +kernel
theorem dL_feed_6 : decode cL_feed 6 = .ok (.iconst 0, 1) := by decide +kernel
theorem dL_feed_7 : decode cL_feed 7 = .ok (.istore_n 3, 1) := by decide +kernel
theorem dL_feed_8 : decode cL_feed 8 = .ok (.iload_n 3, 1) := by decide +kernel
theorem dL_feed_9 : decode cL_feed 9 = .ok (.aload_n 1, 1) := by decide +kernel
theorem dL_feed_10 : decode cL_feed 10 = .ok (.invokevirtual 14, 3) := by decide +kernel
theorem dL_feed_13 : decode cL_feed 13 = .ok (.if_icmp .ge 64, 3) := by decide +kernel
theorem dL_feed_16 : decode cL_feed 16 = .ok (.iconst 0, 1) := by decide +kernel
theorem dL_feed_17 : decode cL_feed 17 = .ok (.istore 4, 2) := by decide +kernel
theorem dL_feed_19 : decode cL_feed 19 = .ok (.iload_n 3, 1) := by decide +kernel
theorem dL_feed_20 : decode cL_feed 20 = .ok (.istore 5, 2) := by decide +kernel
theorem dL_feed_22 : decode cL_feed 22 = .ok (.iload 5, 2) := by decide +kernel
theorem dL_feed_24 : decode cL_feed 24 = .ok (.iload_n 3, 1) := by decide +kernel
theorem dL_feed_25 : decode cL_feed 25 = .ok (.iconst 4, 1) := by decide +kernel
theorem dL_feed_26 : decode cL_feed 26 = .ok (.iadd, 1) := by decide +kernel
theorem dL_feed_27 : decode cL_feed 27 = .ok (.if_icmp .ge 37, 3) := by decide +kernel
theorem dL_feed_30 : decode cL_feed 30 = .ok (.iload 4, 2) := by decide +kernel
theorem dL_feed_32 : decode cL_feed 32 = .ok (.bipush 8, 2) := by decide +kernel
theorem dL_feed_34 : decode cL_feed 34 = .ok (.ishl, 1) := by decide +kernel
theorem dL_feed_35 : decode cL_feed 35 = .ok (.iload 5, 2) := by decide +kernel
theorem dL_feed_37 : decode cL_feed 37 = .ok (.aload_n 1, 1) := by decide +kernel
theorem dL_feed_38 : decode cL_feed 38 = .ok (.invokevirtual 14, 3) := by decide +kernel
theorem dL_feed_41 : decode cL_feed 41 = .ok (.if_icmp .ge 12, 3) := by decide +kernel
theorem dL_feed_44 : decode cL_feed 44 = .ok (.aload_n 1, 1) := by decide +kernel
theorem dL_feed_45 : decode cL_feed 45 = .ok (.iload 5, 2) := by decide +kernel
theorem dL_feed_47 : decode cL_feed 47 = .ok (.invokevirtual 20, 3) := by decide +kernel
theorem dL_feed_50 : decode cL_feed 50 = .ok (.goto 5, 3) := by decide +kernel
theorem dL_feed_53 : decode cL_feed 53 = .ok (.bipush 32, 2) := by decide +kernel
theorem dL_feed_55 : decode cL_feed 55 = .ok (.ior, 1) := by decide +kernel
theorem dL_feed_56 : decode cL_feed 56 = .ok (.istore 4, 2) := by decide +kernel
theorem dL_feed_58 : decode cL_feed 58 = .ok (.iinc 5 1, 3) := by decide +kernel
theorem dL_feed_61 : decode cL_feed 61 = .ok (.goto (-39), 3) := by decide +kernel
theorem dL_feed_64 : decode cL_feed 64 = .ok (.aload_n 0, 1) := by decide +kernel
theorem dL_feed_65 : decode cL_feed 65 = .ok (.iload 4, 2) := by decide +kernel
theorem dL_feed_67 : decode cL_feed 67 = .ok (.invokevirtual 24, 3) := by decide +kernel
theorem dL_feed_70 : decode cL_feed 70 = .ok (.istore_n 2, 1) := by decide +kernel
theorem dL_feed_71 : decode cL_feed 71 = .ok (.iinc 3 4, 3) := by decide +kernel
theorem dL_feed_74 : decode cL_feed 74 = .ok (.goto (-66), 3) := by decide +kernel
theorem dL_feed_77 : decode cL_feed 77 = .ok (.aload_n 0, 1) := by decide +kernel
theorem dL_feed_78 : decode cL_feed 78 = .ok (.aload_n 1, 1) := by decide +kernel
theorem dL_feed_79 : decode cL_feed 79 = .ok (.invokevirtual 14, 3) := by decide +kernel
theorem dL_feed_82 : decode cL_feed 82 = .ok (.invokevirtual 8, 3) := by decide +kernel
theorem dL_feed_85 : decode cL_feed 85 = .ok (.istore_n 2, 1) := by decide +kernel
theorem dL_feed_86 : decode cL_feed 86 = .ok (.return_, 1) := by decide +kernel
theorem dL_setup_0 : decode cL_setup 0 = .ok (.new 27, 3) := by decide +kernel
theorem dL_setup_3 : decode cL_setup 3 = .ok (.dup, 1) := by decide +kernel
theorem dL_setup_4 : decode cL_setup 4 = .ok (.ldc 29, 2) := by decide +kernel
theorem dL_setup_6 : decode cL_setup 6 = .ok (.invokespecial 31, 3) := by decide +kernel
theorem dL_setup_9 : decode cL_setup 9 = .ok (.bipush 10, 2) := by decide +kernel
theorem dL_setup_11 : decode cL_setup 11 = .ok (.aload_n 0, 1) := by decide +kernel
theorem dL_setup_12 : decode cL_setup 12 = .ok (.bipush 51, 2) := by decide +kernel
theorem dL_setup_14 : decode cL_setup 14 = .ok (.invokevirtual 34, 3) := by decide +kernel
theorem dL_setup_17 : decode cL_setup 17 = .ok (.iadd, 1) := by decide +kernel
theorem dL_setup_18 : decode cL_setup 18 = .ok (.invokevirtual 39, 3) := by decide +kernel
theorem dL_setup_21 : decode cL_setup 21 = .ok (.bipush 32, 2) := by decide +kernel
theorem dL_setup_23 : decode cL_setup 23 = .ok (.invokevirtual 43, 3) := by decide +kernel
theorem dL_setup_26 : decode cL_setup 26 = .ok (.iconst 1, 1) := by decide +kernel
theorem dL_setup_27 : decode cL_setup 27 = .ok (.aload_n 0, 1) := by decide +kernel
theorem dL_setup_28 : decode cL_setup 28 = .ok (.bipush 8, 2) := by decide +kernel
theorem dL_setup_30 : decode cL_setup 30 = .ok (.invokevirtual 34, 3) := by decide +kernel
theorem dL_setup_33 : decode cL_setup 33 = .ok (.iadd, 1) := by decide +kernel
theorem dL_setup_34 : decode cL_setup 34 = .ok (.invokevirtual 39, 3) := by decide +kernel
theorem dL_setup_37 : decode cL_setup 37 = .ok (.bipush 32, 2) := by decide +kernel
theorem dL_setup_39 : decode cL_setup 39 = .ok (.invokevirtual 43, 3) := by decide +kernel
theorem dL_setup_42 : decode cL_setup 42 = .ok (.aload_n 0, 1) := by decide +kernel
theorem dL_setup_43 : decode cL_setup 43 = .ok (.iconst 5, 1) := by decide +kernel
theorem dL_setup_44 : decode cL_setup 44 = .ok (.invokevirtual 34, 3) := by decide +kernel
theorem dL_setup_47 : decode cL_setup 47 = .ok (.invokevirtual 39, 3) := by decide +kernel
theorem dL_setup_50 : decode cL_setup 50 = .ok (.bipush 32, 2) := by decide +kernel
theorem dL_setup_52 : decode cL_setup 52 = .ok (.invokevirtual 43, 3) := by decide +kernel
theorem dL_setup_55 : decode cL_setup 55 = .ok (.aload_n 0, 1) := by decide +kernel
theorem dL_setup_56 : decode cL_setup 56 = .ok (.iconst 4, 1) := by decide +kernel
theorem dL_setup_57 : decode cL_setup 57 = .ok (.invokevirtual 34, 3) := by decide +kernel
theorem dL_setup_60 : decode cL_setup 60 = .ok (.invokevirtual 39, 3) := by decide +kernel
theorem dL_setup_63 : decode cL_setup 63 = .ok (.bipush 59, 2) := by decide +kernel
theorem dL_setup_65 : decode cL_setup 65 = .ok (.invokevirtual 43, 3) := by decide +kernel
theorem dL_setup_68 : decode cL_setup 68 = .ok (.astore_n 1, 1) := by decide +kernel
theorem dL_setup_69 : decode cL_setup 69 = .ok (.bipush 36, 2) := by decide +kernel
theorem dL_setup_71 : decode cL_setup 71 = .ok (.newarray .boolean, 2) := by decide +kernel
theorem dL_setup_73 : decode cL_setup 73 = .ok (.astore_n 2, 1) := by decide +kernel
theorem dL_setup_74 : decode cL_setup 74 = .ok (.iconst 2, 1) := by decide +kernel
theorem dL_setup_75 : decode cL_setup 75 = .ok (.aload_n 0, 1) := by decide +kernel
theorem dL_setup_76 : decode cL_setup 76 = .ok (.bipush 8, 2) := by decide +kernel
theorem dL_setup_78 : decode cL_setup 78 = .ok (.invokevirtual 34, 3) := by decide +kernel
theorem dL_setup_81 : decode cL_setup 81 = .ok (.iadd, 1) := by decide +kernel
theorem dL_setup_82 : decode cL_setup 82 = .ok (.istore_n 3, 1) := by decide +kernel
theorem dL_setup_83 : decode cL_setup 83 = .ok (.iconst 0, 1) := by decide +kernel
theorem dL_setup_84 : decode cL_setup 84 = .ok (.istore 4, 2) := by decide +kernel
theorem dL_setup_86 : decode cL_setup 86 = .ok (.iload 4, 2) := by decide +kernel
theorem dL_setup_88 : decode cL_setup 88 = .ok (.iload_n 3, 1) := by decide +kernel
theorem dL_setup_89 : decode cL_setup 89 = .ok (.if_icmp .ge 120, 3) := by decide +kernel
theorem dL_setup_92 : decode cL_setup 92 = .ok (.aload_n 0, 1) := by decide +kernel
theorem dL_setup_93 : decode cL_setup 93 = .ok (.bipush 36, 2) := by decide +kernel
theorem dL_setup_95 : decode cL_setup 95 = .ok (.invokevirtual 34, 3) := by decide +kernel
theorem dL_setup_98 : decode cL_setup 98 = .ok (.istore 5, 2) := by decide +kernel
theorem dL_setup_100 : decode cL_setup 100 = .ok (.aload_n 2, 1) := by decide +kernel
theorem dL_setup_101 : decode cL_setup 101 = .ok (.iload 5, 2) := by decide +kernel
theorem dL_setup_103 : decode cL_setup 103 = .ok (.baload, 1) := by decide +kernel
theorem dL_setup_104 : decode cL_setup 104 = .ok (.ifCond .eq 16, 3) := by decide +kernel
theorem dL_setup_107 : decode cL_setup 107 = .ok (.iload 5, 2) := by decide +kernel
theorem dL_setup_109 : decode cL_setup 109 = .ok (.bipush 7, 2) := by decide +kernel
theorem dL_setup_111 : decode cL_setup 111 = .ok (.iadd, 1) := by decide +kernel
theorem dL_setup_112 : decode cL_setup 112 = .ok (.bipush 36, 2) := by decide +kernel
theorem dL_setup_114 : decode cL_setup 114 = .ok (.irem, 1) := by decide +kernel
theorem dL_setup_115 : decode cL_setup 115 = .ok (.istore 5, 2) := by decide +kernel
theorem dL_setup_117 : decode cL_setup 117 = .ok (.goto (-17), 3) := by decide +kernel
theorem dL_setup_120 : decode cL_setup 120 = .ok (.aload_n 2, 1) := by decide +kernel
theorem dL_setup_121 : decode cL_setup 121 = .ok (.iload 5, 2) := by decide +kernel
theorem dL_setup_123 : decode cL_setup 123 = .ok (.iconst 1, 1) := by decide +kernel
theorem dL_setup_124 : decode cL_setup 124 = .ok (.bastore, 1) := by decide +kernel
theorem dL_setup_125 : decode cL_setup 125 = .ok (.aload_n 1, 1) := by decide +kernel
theorem dL_setup_126 : decode cL_setup 126 = .ok (.ldc 46, 2) := by decide +kernel
theorem dL_setup_128 : decode cL_setup 128 = .ok (.invokevirtual 48, 3) := by decide +kernel
theorem dL_setup_131 : decode cL_setup 131 = .ok (.iload 5, 2) := by decide +kernel
theorem dL_setup_133 : decode cL_setup 133 = .ok (.bipush 6, 2) := by decide +kernel
theorem dL_setup_135 : decode cL_setup 135 = .ok (.idiv, 1) := by decide +kernel
theorem dL_setup_136 : decode cL_setup 136 = .ok (.invokevirtual 39, 3) := by decide +kernel
theorem dL_setup_139 : decode cL_setup 139 = .ok (.bipush 32, 2) := by decide +kernel
theorem dL_setup_141 : decode cL_setup 141 = .ok (.invokevirtual 43, 3) := by decide +kernel
theorem dL_setup_144 : decode cL_setup 144 = .ok (.iload 5, 2) := by decide +kernel
theorem dL_setup_146 : decode cL_setup 146 = .ok (.bipush 6, 2) := by decide +kernel
theorem dL_setup_148 : decode cL_setup 148 = .ok (.irem, 1) := by decide +kernel
theorem dL_setup_149 : decode cL_setup 149 = .ok (.invokevirtual 39, 3) := by decide +kernel
theorem dL_setup_152 : decode cL_setup 152 = .ok (.bipush 32, 2) := by decide +kernel
theorem dL_setup_154 : decode cL_setup 154 = .ok (.invokevirtual 43, 3) := by decide +kernel
theorem dL_setup_157 : decode cL_setup 157 = .ok (.iconst 1, 1) := by decide +kernel
theorem dL_setup_158 : decode cL_setup 158 = .ok (.aload_n 0, 1) := by decide +kernel
theorem dL_setup_159 : decode cL_setup 159 = .ok (.bipush 9, 2) := by decide +kernel
theorem dL_setup_161 : decode cL_setup 161 = .ok (.invokevirtual 34, 3) := by decide +kernel
theorem dL_setup_164 : decode cL_setup 164 = .ok (.iadd, 1) := by decide +kernel
theorem dL_setup_165 : decode cL_setup 165 = .ok (.invokevirtual 39, 3) := by decide +kernel
theorem dL_setup_168 : decode cL_setup 168 = .ok (.bipush 32, 2) := by decide +kernel
theorem dL_setup_170 : decode cL_setup 170 = .ok (.invokevirtual 43, 3) := by decide +kernel
theorem dL_setup_173 : decode cL_setup 173 = .ok (.iconst 1, 1) := by decide +kernel
theorem dL_setup_174 : decode cL_setup 174 = .ok (.aload_n 0, 1) := by decide +kernel
theorem dL_setup_175 : decode cL_setup 175 = .ok (.bipush 9, 2) := by decide +kernel
theorem dL_setup_177 : decode cL_setup 177 = .ok (.invokevirtual 34, 3) := by decide +kernel
theorem dL_setup_180 : decode cL_setup 180 = .ok (.iadd, 1) := by decide +kernel
theorem dL_setup_181 : decode cL_setup 181 = .ok (.invokevirtual 39, 3) := by decide +kernel
theorem dL_setup_184 : decode cL_setup 184 = .ok (.aload_n 0, 1) := by decide +kernel
theorem dL_setup_185 : decode cL_setup 185 = .ok (.iconst 3, 1) := by decide +kernel
theorem dL_setup_186 : decode cL_setup 186 = .ok (.invokevirtual 34, 3) := by decide +kernel
theorem dL_setup_189 : decode cL_setup 189 = .ok (.ifCond .ne 8, 3) := by decide +kernel
theorem dL_setup_192 : decode cL_setup 192 = .ok (.ldc 51, 2) := by decide +kernel
theorem dL_setup_194 : decode cL_setup 194 = .ok (.goto 5, 3) := by decide +kernel
theorem dL_setup_197 : decode cL_setup 197 = .ok (.ldc 53, 2) := by decide +kernel
theorem dL_setup_199 : decode cL_setup 199 = .ok (.invokevirtual 48, 3) := by decide +kernel
theorem dL_setup_202 : decode cL_setup 202 = .ok (.pop, 1) := by decide +kernel
theorem dL_setup_203 : decode cL_setup 203 = .ok (.iinc 4 1, 3) := by decide +kernel
theorem dL_setup_206 : decode cL_setup 206 = .ok (.goto (-120), 3) := by decide +kernel
theorem dL_setup_209 : decode cL_setup 209 = .ok (.aload_n 1, 1) := by decide +kernel
theorem dL_setup_210 : decode cL_setup 210 = .ok (.invokevirtual 55, 3) := by decide +kernel
theorem dL_setup_213 : decode cL_setup 213 = .ok (.areturn, 1) := by decide +kernel
theorem dL_areNear_0 : decode cL_areNear 0 = .ok (.aload_n 0, 1) := by decide +kernel
theorem dL_areNear_1 : decode cL_areNear 1 = .ok (.iload_n 1, 1) := by decide +kernel
theorem dL_areNear_2 : decode cL_areNear 2 = .ok (.iconst 0, 1) := by decide +kernel
theorem dL_areNear_3 : decode cL_areNear 3 = .ok (.invokevirtual 59, 3) := by decide +kernel
theorem dL_areNear_6 : decode cL_areNear 6 = .ok (.aload_n 0, 1) := by decide +kernel
theorem dL_areNear_7 : decode cL_areNear 7 = .ok (.iload_n 2, 1) := by decide +kernel
theorem dL_areNear_8 : decode cL_areNear 8 = .ok (.iconst 0, 1) := by decide +kernel
theorem dL_areNear_9 : decode cL_areNear 9 = .ok (.invokevirtual 59, 3) := by decide +kernel
theorem dL_areNear_12 : decode cL_areNear 12 = .ok (.isub, 1) := by decide +kernel
theorem dL_areNear_13 : decode cL_areNear 13 = .ok (.invokestatic 63, 3) := by decide +kernel
theorem dL_areNear_16 : decode cL_areNear 16 = .ok (.iconst 1, 1) := by decide +kernel
theorem dL_areNear_17 : decode cL_areNear 17 = .ok (.if_icmp .gt 27, 3) := by decide +kernel
theorem dL_areNear_20 : decode cL_areNear 20 = .ok (.aload_n 0, 1) := by decide +kernel
theorem dL_areNear_21 : decode cL_areNear 21 = .ok (.iload_n 1, 1) := by decide +kernel
theorem dL_areNear_22 : decode cL_areNear 22 = .ok (.iconst 1, 1) := by decide +kernel
theorem dL_areNear_23 : decode cL_areNear 23 = .ok (.invokevirtual 59, 3) := by decide +kernel
theorem dL_areNear_26 : decode cL_areNear 26 = .ok (.aload_n 0, 1) := by decide +kernel
theorem dL_areNear_27 : decode cL_areNear 27 = .ok (.iload_n 2, 1) := by decide +kernel
theorem dL_areNear_28 : decode cL_areNear 28 = .ok (.iconst 1, 1) := by decide +kernel
theorem dL_areNear_29 : decode cL_areNear 29 = .ok (.invokevirtual 59, 3) := by decide +kernel
theorem dL_areNear_32 : decode cL_areNear 32 = .ok (.isub, 1) := by decide +kernel
theorem dL_areNear_33 : decode cL_areNear 33 = .ok (.invokestatic 63, 3) := by decide +kernel
theorem dL_areNear_36 : decode cL_areNear 36 = .ok (.iconst 1, 1) := by decide +kernel
theorem dL_areNear_37 : decode cL_areNear 37 = .ok (.if_icmp .gt 7, 3) := by decide +kernel
theorem dL_areNear_40 : decode cL_areNear 40 = .ok (.iconst 1, 1) := by decide +kernel
theorem dL_areNear_41 : decode cL_areNear 41 = .ok (.goto 4, 3) := by decide +kernel
theorem dL_areNear_44 : decode cL_areNear 44 = .ok (.iconst 0, 1) := by decide +kernel
theorem dL_areNear_45 : decode cL_areNear 45 = .ok (.ireturn, 1) := by decide +kernel
theorem dL_seers_0 : decode cL_seers 0 = .ok (.iconst 0, 1) := by decide +kernel
theorem dL_seers_1 : decode cL_seers 1 = .ok (.istore_n 3, 1) := by decide +kernel
theorem dL_seers_2 : decode cL_seers 2 = .ok (.iconst 0, 1) := by decide +kernel
theorem dL_seers_3 : decode cL_seers 3 = .ok (.istore 4, 2) := by decide +kernel
theorem dL_seers_5 : decode cL_seers 5 = .ok (.iload 4, 2) := by decide +kernel
theorem dL_seers_7 : decode cL_seers 7 = .ok (.aload_n 0, 1) := by decide +kernel
theorem dL_seers_8 : decode cL_seers 8 = .ok (.iconst 0, 1) := by decide +kernel
theorem dL_seers_9 : decode cL_seers 9 = .ok (.invokevirtual 68, 3) := by decide +kernel
theorem dL_seers_12 : decode cL_seers 12 = .ok (.if_icmp .ge 71, 3) := by decide +kernel
theorem dL_seers_15 : decode cL_seers 15 = .ok (.iload_n 3, 1) := by decide +kernel
theorem dL_seers_16 : decode cL_seers 16 = .ok (.iload 4, 2) := by decide +kernel
theorem dL_seers_18 : decode cL_seers 18 = .ok (.iload_n 1, 1) := by decide +kernel
theorem dL_seers_19 : decode cL_seers 19 = .ok (.if_icmp .eq 55, 3) := by decide +kernel
theorem dL_seers_22 : decode cL_seers 22 = .ok (.iload 4, 2) := by decide +kernel
theorem dL_seers_24 : decode cL_seers 24 = .ok (.iload_n 2, 1) := by decide +kernel
theorem dL_seers_25 : decode cL_seers 25 = .ok (.if_icmp .eq 49, 3) := by decide +kernel
theorem dL_seers_28 : decode cL_seers 28 = .ok (.aload_n 0, 1) := by decide +kernel
theorem dL_seers_29 : decode cL_seers 29 = .ok (.iload 4, 2) := by decide +kernel
theorem dL_seers_31 : decode cL_seers 31 = .ok (.iconst 4, 1) := by decide +kernel
theorem dL_seers_32 : decode cL_seers 32 = .ok (.invokevirtual 59, 3) := by decide +kernel
theorem dL_seers_35 : decode cL_seers 35 = .ok (.iconst 1, 1) := by decide +kernel
theorem dL_seers_36 : decode cL_seers 36 = .ok (.if_icmp .ne 38, 3) := by decide +kernel
theorem dL_seers_39 : decode cL_seers 39 = .ok (.aload_n 0, 1) := by decide +kernel
theorem dL_seers_40 : decode cL_seers 40 = .ok (.iload 4, 2) := by decide +kernel
theorem dL_seers_42 : decode cL_seers 42 = .ok (.bipush 8, 2) := by decide +kernel
theorem dL_seers_44 : decode cL_seers 44 = .ok (.invokevirtual 59, 3) := by decide +kernel
theorem dL_seers_47 : decode cL_seers 47 = .ok (.ifCond .ne 27, 3) := by decide +kernel
theorem dL_seers_50 : decode cL_seers 50 = .ok (.aload_n 0, 1) := by decide +kernel
theorem dL_seers_51 : decode cL_seers 51 = .ok (.iload 4, 2) := by decide +kernel
theorem dL_seers_53 : decode cL_seers 53 = .ok (.iload_n 1, 1) := by decide +kernel
theorem dL_seers_54 : decode cL_seers 54 = .ok (.invokestatic 71, 3) := by decide +kernel
theorem dL_seers_57 : decode cL_seers 57 = .ok (.ifCond .ne 13, 3) := by decide +kernel
theorem dL_seers_60 : decode cL_seers 60 = .ok (.aload_n 0, 1) := by decide +kernel
theorem dL_seers_61 : decode cL_seers 61 = .ok (.iload 4, 2) := by decide +kernel
theorem dL_seers_63 : decode cL_seers 63 = .ok (.iload_n 2, 1) := by decide +kernel
theorem dL_seers_64 : decode cL_seers 64 = .ok (.invokestatic 71, 3) := by decide +kernel
theorem dL_seers_67 : decode cL_seers 67 = .ok (.ifCond .eq 7, 3) := by decide +kernel
theorem dL_seers_70 : decode cL_seers 70 = .ok (.iconst 1, 1) := by decide +kernel
theorem dL_seers_71 : decode cL_seers 71 = .ok (.goto 4, 3) := by decide +kernel
theorem dL_seers_74 : decode cL_seers 74 = .ok (.iconst 0, 1) := by decide +kernel
theorem dL_seers_75 : decode cL_seers 75 = .ok (.iadd, 1) := by decide +kernel
theorem dL_seers_76 : decode cL_seers 76 = .ok (.istore_n 3, 1) := by decide +kernel
theorem dL_seers_77 : decode cL_seers 77 = .ok (.iinc 4 1, 3) := by decide +kernel
theorem dL_seers_80 : decode cL_seers 80 = .ok (.goto (-75), 3) := by decide +kernel
theorem dL_seers_83 : decode cL_seers 83 = .ok (.iload_n 3, 1) := by decide +kernel
theorem dL_seers_84 : decode cL_seers 84 = .ok (.ireturn, 1) := by decide +kernel
theorem dL_growth_0 : decode cL_growth 0 = .ok (.aload_n 0, 1) := by decide +kernel
theorem dL_growth_1 : decode cL_growth 1 = .ok (.iload_n 1, 1) := by decide +kernel
theorem dL_growth_2 : decode cL_growth 2 = .ok (.bipush 9, 2) := by decide +kernel
theorem dL_growth_4 : decode cL_growth 4 = .ok (.invokevirtual 59, 3) := by decide +kernel
theorem dL_growth_7 : decode cL_growth 7 = .ok (.aload_n 0, 1) := by decide +kernel
theorem dL_growth_8 : decode cL_growth 8 = .ok (.iconst 4, 1) := by decide +kernel
theorem dL_growth_9 : decode cL_growth 9 = .ok (.invokevirtual 68, 3) := by decide +kernel
theorem dL_growth_12 : decode cL_growth 12 = .ok (.invokestatic 77, 3) := by decide +kernel
theorem dL_growth_15 : decode cL_growth 15 = .ok (.istore_n 2, 1) := by decide +kernel
theorem dL_growth_16 : decode cL_growth 16 = .ok (.aload_n 0, 1) := by decide +kernel
theorem dL_growth_17 : decode cL_growth 17 = .ok (.iload_n 1, 1) := by decide +kernel
theorem dL_growth_18 : decode cL_growth 18 = .ok (.bipush 10, 2) := by decide +kernel
theorem dL_growth_20 : decode cL_growth 20 = .ok (.invokevirtual 59, 3) := by decide +kernel
theorem dL_growth_23 : decode cL_growth 23 = .ok (.aload_n 0, 1) := by decide +kernel
theorem dL_growth_24 : decode cL_growth 24 = .ok (.iconst 5, 1) := by decide +kernel
theorem dL_growth_25 : decode cL_growth 25 = .ok (.invokevirtual 68, 3) := by decide +kernel
theorem dL_growth_28 : decode cL_growth 28 = .ok (.invokestatic 77, 3) := by decide +kernel
theorem dL_growth_31 : decode cL_growth 31 = .ok (.istore_n 3, 1) := by decide +kernel
theorem dL_growth_32 : decode cL_growth 32 = .ok (.iconst 0, 1) := by decide +kernel
theorem dL_growth_33 : decode cL_growth 33 = .ok (.istore 4, 2) := by decide +kernel
theorem dL_growth_35 : decode cL_growth 35 = .ok (.bipush 12, 2) := by decide +kernel
theorem dL_growth_37 : decode cL_growth 37 = .ok (.newarray .int, 2) := by decide +kernel
theorem dL_growth_39 : decode cL_growth 39 = .ok (.astore 5, 2) := by decide +kernel
theorem dL_growth_41 : decode cL_growth 41 = .ok (.iconst 0, 1) := by decide +kernel
theorem dL_growth_42 : decode cL_growth 42 = .ok (.istore 6, 2) := by decide +kernel
theorem dL_growth_44 : decode cL_growth 44 = .ok (.iload 6, 2) := by decide +kernel
theorem dL_growth_46 : decode cL_growth 46 = .ok (.iload_n 2, 1) := by decide +kernel
theorem dL_growth_47 : decode cL_growth 47 = .ok (.if_icmp .ge 31, 3) := by decide +kernel
theorem dL_growth_50 : decode cL_growth 50 = .ok (.iload 4, 2) := by decide +kernel
theorem dL_growth_52 : decode cL_growth 52 = .ok (.aload_n 0, 1) := by decide +kernel
theorem dL_growth_53 : decode cL_growth 53 = .ok (.iload_n 1, 1) := by decide +kernel
theorem dL_growth_54 : decode cL_growth 54 = .ok (.iconst 0, 1) := by decide +kernel
theorem dL_growth_55 : decode cL_growth 55 = .ok (.iload 6, 2) := by decide +kernel
theorem dL_growth_57 : decode cL_growth 57 = .ok (.invokevirtual 80, 3) := by decide +kernel
theorem dL_growth_60 : decode cL_growth 60 = .ok (.iload_n 1, 1) := by decide +kernel
theorem dL_growth_61 : decode cL_growth 61 = .ok (.if_icmp .ne 7, 3) := by decide +kernel
theorem dL_growth_64 : decode cL_growth 64 = .ok (.iconst 0, 1) := by decide +kernel
theorem dL_growth_65 : decode cL_growth 65 = .ok (.goto 4, 3) := by decide +kernel
theorem dL_growth_68 : decode cL_growth 68 = .ok (.iconst 1, 1) := by decide +kernel
theorem dL_growth_69 : decode cL_growth 69 = .ok (.iadd, 1) := by decide +kernel
theorem dL_growth_70 : decode cL_growth 70 = .ok (.istore 4, 2) := by decide +kernel
theorem dL_growth_72 : decode cL_growth 72 = .ok (.iinc 6 1, 3) := by decide +kernel
theorem dL_growth_75 : decode cL_growth 75 = .ok (.goto (-31), 3) := by decide +kernel
theorem dL_growth_78 : decode cL_growth 78 = .ok (.iconst 0, 1) := by decide +kernel
theorem dL_growth_79 : decode cL_growth 79 = .ok (.istore 6, 2) := by decide +kernel
theorem dL_growth_81 : decode cL_growth 81 = .ok (.iload 6, 2) := by decide +kernel
theorem dL_growth_83 : decode cL_growth 83 = .ok (.iload_n 3, 1) := by decide +kernel
theorem dL_growth_84 : decode cL_growth 84 = .ok (.if_icmp .ge 24, 3) := by decide +kernel
theorem dL_growth_87 : decode cL_growth 87 = .ok (.aload 5, 2) := by decide +kernel
theorem dL_growth_89 : decode cL_growth 89 = .ok (.aload_n 0, 1) := by decide +kernel
theorem dL_growth_90 : decode cL_growth 90 = .ok (.iload_n 1, 1) := by decide +kernel
theorem dL_growth_91 : decode cL_growth 91 = .ok (.iconst 1, 1) := by decide +kernel
theorem dL_growth_92 : decode cL_growth 92 = .ok (.iload 6, 2) := by decide +kernel
theorem dL_growth_94 : decode cL_growth 94 = .ok (.invokevirtual 80, 3) := by decide +kernel
theorem dL_growth_97 : decode cL_growth 97 = .ok (.dup2, 1) := by decide +kernel
theorem dL_growth_98 : decode cL_growth 98 = .ok (.iaload, 1) := by decide +kernel
theorem dL_growth_99 : decode cL_growth 99 = .ok (.iconst 1, 1) := by decide +kernel
theorem dL_growth_100 : decode cL_growth 100 = .ok (.iadd, 1) := by decide +kernel
theorem dL_growth_101 : decode cL_growth 101 = .ok (.iastore, 1) := by decide +kernel
theorem dL_growth_102 : decode cL_growth 102 = .ok (.iinc 6 1, 3) := by decide +kernel
theorem dL_growth_105 : decode cL_growth 105 = .ok (.goto (-24), 3) := by decide +kernel
theorem dL_growth_108 : decode cL_growth 108 = .ok (.iload 4, 2) := by decide +kernel
theorem dL_growth_110 : decode cL_growth 110 = .ok (.iconst 3, 1) := by decide +kernel
theorem dL_growth_111 : decode cL_growth 111 = .ok (.idiv, 1) := by decide +kernel
theorem dL_growth_112 : decode cL_growth 112 = .ok (.istore 6, 2) := by decide +kernel
theorem dL_growth_114 : decode cL_growth 114 = .ok (.iconst 0, 1) := by decide +kernel
theorem dL_growth_115 : decode cL_growth 115 = .ok (.istore 7, 2) := by decide +kernel
theorem dL_growth_117 : decode cL_growth 117 = .ok (.iload 7, 2) := by decide +kernel
theorem dL_growth_119 : decode cL_growth 119 = .ok (.bipush 12, 2) := by decide +kernel
theorem dL_growth_121 : decode cL_growth 121 = .ok (.if_icmp .ge 40, 3) := by decide +kernel
theorem dL_growth_124 : decode cL_growth 124 = .ok (.iload 6, 2) := by decide +kernel
theorem dL_growth_126 : decode cL_growth 126 = .ok (.iload 7, 2) := by decide +kernel
theorem dL_growth_128 : decode cL_growth 128 = .ok (.iload_n 1, 1) := by decide +kernel
theorem dL_growth_129 : decode cL_growth 129 = .ok (.if_icmp .eq 22, 3) := by decide +kernel
theorem dL_growth_132 : decode cL_growth 132 = .ok (.aload 5, 2) := by decide +kernel
theorem dL_growth_134 : decode cL_growth 134 = .ok (.iload 7, 2) := by decide +kernel
theorem dL_growth_136 : decode cL_growth 136 = .ok (.iaload, 1) := by decide +kernel
theorem dL_growth_137 : decode cL_growth 137 = .ok (.iconst 1, 1) := by decide +kernel
theorem dL_growth_138 : decode cL_growth 138 = .ok (.if_icmp .le 13, 3) := by decide +kernel
theorem dL_growth_141 : decode cL_growth 141 = .ok (.aload 5, 2) := by decide +kernel
theorem dL_growth_143 : decode cL_growth 143 = .ok (.iload 7, 2) := by decide +kernel
theorem dL_growth_145 : decode cL_growth 145 = .ok (.iaload, 1) := by decide +kernel
theorem dL_growth_146 : decode cL_growth 146 = .ok (.iconst 1, 1) := by decide +kernel
theorem dL_growth_147 : decode cL_growth 147 = .ok (.isub, 1) := by decide +kernel
theorem dL_growth_148 : decode cL_growth 148 = .ok (.goto 4, 3) := by decide +kernel
theorem dL_growth_151 : decode cL_growth 151 = .ok (.iconst 0, 1) := by decide +kernel
theorem dL_growth_152 : decode cL_growth 152 = .ok (.iadd, 1) := by decide +kernel
theorem dL_growth_153 : decode cL_growth 153 = .ok (.istore 6, 2) := by decide +kernel
theorem dL_growth_155 : decode cL_growth 155 = .ok (.iinc 7 1, 3) := by decide +kernel
theorem dL_growth_158 : decode cL_growth 158 = .ok (.goto (-41), 3) := by decide +kernel
theorem dL_growth_161 : decode cL_growth 161 = .ok (.iload 6, 2) := by decide +kernel
theorem dL_growth_163 : decode cL_growth 163 = .ok (.ireturn, 1) := by decide +kernel
theorem dL_marks_0 : decode cL_marks 0 = .ok (.iconst 0, 1) := by decide +kernel
theorem dL_marks_1 : decode cL_marks 1 = .ok (.aload_n 0, 1) := by decide +kernel
theorem dL_marks_2 : decode cL_marks 2 = .ok (.iconst 4, 1) := by decide +kernel
theorem dL_marks_3 : decode cL_marks 3 = .ok (.invokevirtual 68, 3) := by decide +kernel
theorem dL_marks_6 : decode cL_marks 6 = .ok (.aload_n 0, 1) := by decide +kernel
theorem dL_marks_7 : decode cL_marks 7 = .ok (.iload_n 1, 1) := by decide +kernel
theorem dL_marks_8 : decode cL_marks 8 = .ok (.bipush 9, 2) := by decide +kernel
theorem dL_marks_10 : decode cL_marks 10 = .ok (.invokevirtual 59, 3) := by decide +kernel
theorem dL_marks_13 : decode cL_marks 13 = .ok (.isub, 1) := by decide +kernel
theorem dL_marks_14 : decode cL_marks 14 = .ok (.invokestatic 84, 3) := by decide +kernel
theorem dL_marks_17 : decode cL_marks 17 = .ok (.iconst 0, 1) := by decide +kernel
theorem dL_marks_18 : decode cL_marks 18 = .ok (.aload_n 0, 1) := by decide +kernel
theorem dL_marks_19 : decode cL_marks 19 = .ok (.iconst 5, 1) := by decide +kernel
theorem dL_marks_20 : decode cL_marks 20 = .ok (.invokevirtual 68, 3) := by decide +kernel
theorem dL_marks_23 : decode cL_marks 23 = .ok (.aload_n 0, 1) := by decide +kernel
theorem dL_marks_24 : decode cL_marks 24 = .ok (.iload_n 1, 1) := by decide +kernel
theorem dL_marks_25 : decode cL_marks 25 = .ok (.bipush 10, 2) := by decide +kernel
theorem dL_marks_27 : decode cL_marks 27 = .ok (.invokevirtual 59, 3) := by decide +kernel
theorem dL_marks_30 : decode cL_marks 30 = .ok (.isub, 1) := by decide +kernel
theorem dL_marks_31 : decode cL_marks 31 = .ok (.invokestatic 84, 3) := by decide +kernel
theorem dL_marks_34 : decode cL_marks 34 = .ok (.iadd, 1) := by decide +kernel
theorem dL_marks_35 : decode cL_marks 35 = .ok (.ireturn, 1) := by decide +kernel
theorem dL_detention_0 : decode cL_detention 0 = .ok (.aload_n 0, 1) := by decide +kernel
theorem dL_detention_1 : decode cL_detention 1 = .ok (.iload_n 1, 1) := by decide +kernel
theorem dL_detention_2 : decode cL_detention 2 = .ok (.bipush 6, 2) := by decide +kernel
theorem dL_detention_4 : decode cL_detention 4 = .ok (.invokevirtual 59, 3) := by decide +kernel
theorem dL_detention_7 : decode cL_detention 7 = .ok (.aload_n 0, 1) := by decide +kernel
theorem dL_detention_8 : decode cL_detention 8 = .ok (.iload_n 1, 1) := by decide +kernel
theorem dL_detention_9 : decode cL_detention 9 = .ok (.invokestatic 87, 3) := by decide +kernel
theorem dL_detention_12 : decode cL_detention 12 = .ok (.iadd, 1) := by decide +kernel
theorem dL_detention_13 : decode cL_detention 13 = .ok (.istore_n 2, 1) := by decide +kernel
theorem dL_detention_14 : decode cL_detention 14 = .ok (.iload_n 2, 1) := by decide +kernel
theorem dL_detention_15 : decode cL_detention 15 = .ok (.aload_n 0, 1) := by decide +kernel
theorem dL_detention_16 : decode cL_detention 16 = .ok (.iconst 3, 1) := by decide +kernel
theorem dL_detention_17 : decode cL_detention 17 = .ok (.invokevirtual 68, 3) := by decide +kernel
theorem dL_detention_20 : decode cL_detention 20 = .ok (.if_icmp .lt 22, 3) := by decide +kernel
theorem dL_detention_23 : decode cL_detention 23 = .ok (.bipush 9, 2) := by decide +kernel
theorem dL_detention_25 : decode cL_detention 25 = .ok (.iconst 1, 1) := by decide +kernel
theorem dL_detention_26 : decode cL_detention 26 = .ok (.iload_n 2, 1) := by decide +kernel
theorem dL_detention_27 : decode cL_detention 27 = .ok (.aload_n 0, 1) := by decide +kernel
theorem dL_detention_28 : decode cL_detention 28 = .ok (.iconst 3, 1) := by decide +kernel
theorem dL_detention_29 : decode cL_detention 29 = .ok (.invokevirtual 68, 3) := by decide +kernel
theorem dL_detention_32 : decode cL_detention 32 = .ok (.isub, 1) := by decide +kernel
theorem dL_detention_33 : decode cL_detention 33 = .ok (.iconst 3, 1) := by decide +kernel
theorem dL_detention_34 : decode cL_detention 34 = .ok (.idiv, 1) := by decide +kernel
theorem dL_detention_35 : decode cL_detention 35 = .ok (.iadd, 1) := by decide +kernel
theorem dL_detention_36 : decode cL_detention 36 = .ok (.invokestatic 77, 3) := by decide +kernel
theorem dL_detention_39 : decode cL_detention 39 = .ok (.goto 16, 3) := by decide +kernel
theorem dL_detention_42 : decode cL_detention 42 = .ok (.iconst 0, 1) := by decide +kernel
theorem dL_detention_43 : decode cL_detention 43 = .ok (.aload_n 0, 1) := by decide +kernel
theorem dL_detention_44 : decode cL_detention 44 = .ok (.iload_n 1, 1) := by decide +kernel
theorem dL_detention_45 : decode cL_detention 45 = .ok (.bipush 8, 2) := by decide +kernel
theorem dL_detention_47 : decode cL_detention 47 = .ok (.invokevirtual 59, 3) := by decide +kernel
theorem dL_detention_50 : decode cL_detention 50 = .ok (.iconst 1, 1) := by decide +kernel
theorem dL_detention_51 : decode cL_detention 51 = .ok (.isub, 1) := by decide +kernel
theorem dL_detention_52 : decode cL_detention 52 = .ok (.invokestatic 84, 3) := by decide +kernel
theorem dL_detention_55 : decode cL_detention 55 = .ok (.ireturn, 1) := by decide +kernel
theorem dL_isPupil_0 : decode cL_isPupil 0 = .ok (.iconst 0, 1) := by decide +kernel
theorem dL_isPupil_1 : decode cL_isPupil 1 = .ok (.istore_n 2, 1) := by decide +kernel
theorem dL_isPupil_2 : decode cL_isPupil 2 = .ok (.iconst 0, 1) := by decide +kernel
theorem dL_isPupil_3 : decode cL_isPupil 3 = .ok (.istore_n 3, 1) := by decide +kernel
theorem dL_isPupil_4 : decode cL_isPupil 4 = .ok (.iconst (-1), 1) := by decide +kernel
theorem dL_isPupil_5 : decode cL_isPupil 5 = .ok (.istore 4, 2) := by decide +kernel
theorem dL_isPupil_7 : decode cL_isPupil 7 = .ok (.iconst 0, 1) := by decide +kernel
theorem dL_isPupil_8 : decode cL_isPupil 8 = .ok (.istore 5, 2) := by decide +kernel
theorem dL_isPupil_10 : decode cL_isPupil 10 = .ok (.iload 5, 2) := by decide +kernel
theorem dL_isPupil_12 : decode cL_isPupil 12 = .ok (.aload_n 0, 1) := by decide +kernel
theorem dL_isPupil_13 : decode cL_isPupil 13 = .ok (.bipush 8, 2) := by decide +kernel
theorem dL_isPupil_15 : decode cL_isPupil 15 = .ok (.invokevirtual 68, 3) := by decide +kernel
theorem dL_isPupil_18 : decode cL_isPupil 18 = .ok (.if_icmp .ge 170, 3) := by decide +kernel
theorem dL_isPupil_21 : decode cL_isPupil 21 = .ok (.iload_n 2, 1) := by decide +kernel
theorem dL_isPupil_22 : decode cL_isPupil 22 = .ok (.aload_n 0, 1) := by decide +kernel
theorem dL_isPupil_23 : decode cL_isPupil 23 = .ok (.iload 5, 2) := by decide +kernel
theorem dL_isPupil_25 : decode cL_isPupil 25 = .ok (.iconst 0, 1) := by decide +kernel
theorem dL_isPupil_26 : decode cL_isPupil 26 = .ok (.invokevirtual 91, 3) := by decide +kernel
theorem dL_isPupil_29 : decode cL_isPupil 29 = .ok (.iload_n 1, 1) := by decide +kernel
theorem dL_isPupil_30 : decode cL_isPupil 30 = .ok (.if_icmp .ne 13, 3) := by decide +kernel
theorem dL_isPupil_33 : decode cL_isPupil 33 = .ok (.aload_n 0, 1) := by decide +kernel
theorem dL_isPupil_34 : decode cL_isPupil 34 = .ok (.iload 5, 2) := by decide +kernel
theorem dL_isPupil_36 : decode cL_isPupil 36 = .ok (.iconst 3, 1) := by decide +kernel
theorem dL_isPupil_37 : decode cL_isPupil 37 = .ok (.invokevirtual 91, 3) := by decide +kernel
theorem dL_isPupil_40 : decode cL_isPupil 40 = .ok (.goto 4, 3) := by decide +kernel
theorem dL_isPupil_43 : decode cL_isPupil 43 = .ok (.iconst 0, 1) := by decide +kernel
theorem dL_isPupil_44 : decode cL_isPupil 44 = .ok (.iadd, 1) := by decide +kernel
theorem dL_isPupil_45 : decode cL_isPupil 45 = .ok (.istore_n 2, 1) := by decide +kernel
theorem dL_isPupil_46 : decode cL_isPupil 46 = .ok (.iload_n 3, 1) := by decide +kernel
theorem dL_isPupil_47 : decode cL_isPupil 47 = .ok (.aload_n 0, 1) := by decide +kernel
theorem dL_isPupil_48 : decode cL_isPupil 48 = .ok (.iload 5, 2) := by decide +kernel
theorem dL_isPupil_50 : decode cL_isPupil 50 = .ok (.iconst 1, 1) := by decide +kernel
theorem dL_isPupil_51 : decode cL_isPupil 51 = .ok (.invokevirtual 91, 3) := by decide +kernel
theorem dL_isPupil_54 : decode cL_isPupil 54 = .ok (.iload_n 1, 1) := by decide +kernel
theorem dL_isPupil_55 : decode cL_isPupil 55 = .ok (.if_icmp .ne 13, 3) := by decide +kernel
theorem dL_isPupil_58 : decode cL_isPupil 58 = .ok (.aload_n 0, 1) := by decide +kernel
theorem dL_isPupil_59 : decode cL_isPupil 59 = .ok (.iload 5, 2) := by decide +kernel
theorem dL_isPupil_61 : decode cL_isPupil 61 = .ok (.iconst 3, 1) := by decide +kernel
theorem dL_isPupil_62 : decode cL_isPupil 62 = .ok (.invokevirtual 91, 3) := by decide +kernel
theorem dL_isPupil_65 : decode cL_isPupil 65 = .ok (.goto 4, 3) := by decide +kernel
theorem dL_isPupil_68 : decode cL_isPupil 68 = .ok (.iconst 0, 1) := by decide +kernel
theorem dL_isPupil_69 : decode cL_isPupil 69 = .ok (.iadd, 1) := by decide +kernel
theorem dL_isPupil_70 : decode cL_isPupil 70 = .ok (.istore_n 3, 1) := by decide +kernel
theorem dL_isPupil_71 : decode cL_isPupil 71 = .ok (.aload_n 0, 1) := by decide +kernel
theorem dL_isPupil_72 : decode cL_isPupil 72 = .ok (.aload_n 0, 1) := by decide +kernel
theorem dL_isPupil_73 : decode cL_isPupil 73 = .ok (.iload 5, 2) := by decide +kernel
theorem dL_isPupil_75 : decode cL_isPupil 75 = .ok (.iconst 0, 1) := by decide +kernel
theorem dL_isPupil_76 : decode cL_isPupil 76 = .ok (.invokevirtual 91, 3) := by decide +kernel
theorem dL_isPupil_79 : decode cL_isPupil 79 = .ok (.aload_n 0, 1) := by decide +kernel
theorem dL_isPupil_80 : decode cL_isPupil 80 = .ok (.iload 5, 2) := by decide +kernel
theorem dL_isPupil_82 : decode cL_isPupil 82 = .ok (.iconst 1, 1) := by decide +kernel
theorem dL_isPupil_83 : decode cL_isPupil 83 = .ok (.invokevirtual 91, 3) := by decide +kernel
theorem dL_isPupil_86 : decode cL_isPupil 86 = .ok (.aload_n 0, 1) := by decide +kernel
theorem dL_isPupil_87 : decode cL_isPupil 87 = .ok (.iload 5, 2) := by decide +kernel
theorem dL_isPupil_89 : decode cL_isPupil 89 = .ok (.iconst 2, 1) := by decide +kernel
theorem dL_isPupil_90 : decode cL_isPupil 90 = .ok (.invokevirtual 91, 3) := by decide +kernel
theorem dL_isPupil_93 : decode cL_isPupil 93 = .ok (.invokevirtual 94, 3) := by decide +kernel
theorem dL_isPupil_96 : decode cL_isPupil 96 = .ok (.aload_n 0, 1) := by decide +kernel
theorem dL_isPupil_97 : decode cL_isPupil 97 = .ok (.iload 5, 2) := by decide +kernel
theorem dL_isPupil_99 : decode cL_isPupil 99 = .ok (.iconst 3, 1) := by decide +kernel
theorem dL_isPupil_100 : decode cL_isPupil 100 = .ok (.invokevirtual 91, 3) := by decide +kernel
theorem dL_isPupil_103 : decode cL_isPupil 103 = .ok (.if_icmp .ne 31, 3) := by decide +kernel
theorem dL_isPupil_106 : decode cL_isPupil 106 = .ok (.aload_n 0, 1) := by decide +kernel
theorem dL_isPupil_107 : decode cL_isPupil 107 = .ok (.iload 5, 2) := by decide +kernel
theorem dL_isPupil_109 : decode cL_isPupil 109 = .ok (.iconst 0, 1) := by decide +kernel
theorem dL_isPupil_110 : decode cL_isPupil 110 = .ok (.invokevirtual 91, 3) := by decide +kernel
theorem dL_isPupil_113 : decode cL_isPupil 113 = .ok (.aload_n 0, 1) := by decide +kernel
theorem dL_isPupil_114 : decode cL_isPupil 114 = .ok (.iload 5, 2) := by decide +kernel
theorem dL_isPupil_116 : decode cL_isPupil 116 = .ok (.iconst 1, 1) := by decide +kernel
theorem dL_isPupil_117 : decode cL_isPupil 117 = .ok (.invokevirtual 91, 3) := by decide +kernel
theorem dL_isPupil_120 : decode cL_isPupil 120 = .ok (.if_icmp .eq 14, 3) := by decide +kernel
theorem dL_isPupil_123 : decode cL_isPupil 123 = .ok (.aload_n 0, 1) := by decide +kernel
theorem dL_isPupil_124 : decode cL_isPupil 124 = .ok (.iload 5, 2) := by decide +kernel
theorem dL_isPupil_126 : decode cL_isPupil 126 = .ok (.iconst 3, 1) := by decide +kernel
theorem dL_isPupil_127 : decode cL_isPupil 127 = .ok (.invokevirtual 91, 3) := by decide +kernel
theorem dL_isPupil_130 : decode cL_isPupil 130 = .ok (.iconst 1, 1) := by decide +kernel
theorem dL_isPupil_131 : decode cL_isPupil 131 = .ok (.if_icmp .ge 5, 3) := by decide +kernel
theorem dL_isPupil_134 : decode cL_isPupil 134 = .ok (.iconst 0, 1) := by decide +kernel
theorem dL_isPupil_135 : decode cL_isPupil 135 = .ok (.ireturn, 1) := by decide +kernel
theorem dL_isPupil_136 : decode cL_isPupil 136 = .ok (.iload 4, 2) := by decide +kernel
theorem dL_isPupil_138 : decode cL_isPupil 138 = .ok (.iconst (-1), 1) := by decide +kernel
theorem dL_isPupil_139 : decode cL_isPupil 139 = .ok (.if_icmp .ne 43, 3) := by decide +kernel
theorem dL_isPupil_142 : decode cL_isPupil 142 = .ok (.aload_n 0, 1) := by decide +kernel
theorem dL_isPupil_143 : decode cL_isPupil 143 = .ok (.iload 5, 2) := by decide +kernel
theorem dL_isPupil_145 : decode cL_isPupil 145 = .ok (.iconst 0, 1) := by decide +kernel
theorem dL_isPupil_146 : decode cL_isPupil 146 = .ok (.invokevirtual 91, 3) := by decide +kernel
theorem dL_isPupil_149 : decode cL_isPupil 149 = .ok (.iload_n 1, 1) := by decide +kernel
theorem dL_isPupil_150 : decode cL_isPupil 150 = .ok (.if_icmp .ne 32, 3) := by decide +kernel
theorem dL_isPupil_153 : decode cL_isPupil 153 = .ok (.aload_n 0, 1) := by decide +kernel
theorem dL_isPupil_154 : decode cL_isPupil 154 = .ok (.iload 5, 2) := by decide +kernel
theorem dL_isPupil_156 : decode cL_isPupil 156 = .ok (.iconst 3, 1) := by decide +kernel
theorem dL_isPupil_157 : decode cL_isPupil 157 = .ok (.invokevirtual 91, 3) := by decide +kernel
theorem dL_isPupil_160 : decode cL_isPupil 160 = .ok (.aload_n 0, 1) := by decide +kernel
theorem dL_isPupil_161 : decode cL_isPupil 161 = .ok (.iload_n 1, 1) := by decide +kernel
theorem dL_isPupil_162 : decode cL_isPupil 162 = .ok (.bipush 9, 2) := by decide +kernel
theorem dL_isPupil_164 : decode cL_isPupil 164 = .ok (.aload_n 0, 1) := by decide +kernel
theorem dL_isPupil_165 : decode cL_isPupil 165 = .ok (.iload 5, 2) := by decide +kernel
theorem dL_isPupil_167 : decode cL_isPupil 167 = .ok (.iconst 2, 1) := by decide +kernel
theorem dL_isPupil_168 : decode cL_isPupil 168 = .ok (.invokevirtual 91, 3) := by decide +kernel
theorem dL_isPupil_171 : decode cL_isPupil 171 = .ok (.iadd, 1) := by decide +kernel
theorem dL_isPupil_172 : decode cL_isPupil 172 = .ok (.invokevirtual 59, 3) := by decide +kernel
theorem dL_isPupil_175 : decode cL_isPupil 175 = .ok (.if_icmp .le 7, 3) := by decide +kernel
theorem dL_isPupil_178 : decode cL_isPupil 178 = .ok (.iload 5, 2) := by decide +kernel
theorem dL_isPupil_180 : decode cL_isPupil 180 = .ok (.istore 4, 2) := by decide +kernel
theorem dL_isPupil_182 : decode cL_isPupil 182 = .ok (.iinc 5 1, 3) := by decide +kernel
