theorem dX9_load_68 : decode cX9_load 68 = .ok (.iconst 4, 1) := by decide +kernel
theorem dX9_load_69 : decode cX9_load 69 = .ok (.aload_n 0, 1) := by decide +kernel
theorem dX9_load_70 : decode cX9_load 70 = .ok (.iconst 0, 1) := by decide +kernel
theorem dX9_load_71 : decode cX9_load 71 = .ok (.bipush 9, 2) := by decide +kernel
theorem dX9_load_73 : decode cX9_load 73 = .ok (.invokevirtual 211, 3) := by decide +kernel
theorem dX9_load_76 : decode cX9_load 76 = .ok (.invokevirtual 33, 3) := by decide +kernel
theorem dX9_load_79 : decode cX9_load 79 = .ok (.aload_n 0, 1) := by decide +kernel
theorem dX9_load_80 : decode cX9_load 80 = .ok (.iconst 5, 1) := by decide +kernel
theorem dX9_load_81 : decode cX9_load 81 = .ok (.aload_n 0, 1) := by decide +kernel
theorem dX9_load_82 : decode cX9_load 82 = .ok (.iconst 0, 1) := by decide +kernel
theorem dX9_load_83 : decode cX9_load 83 = .ok (.bipush 9, 2) := by decide +kernel
theorem dX9_load_85 : decode cX9_load 85 = .ok (.invokevirtual 211, 3) := by decide +kernel
theorem dX9_load_88 : decode cX9_load 88 = .ok (.invokevirtual 33, 3) := by decide +kernel
theorem dX9_load_91 : decode cX9_load 91 = .ok (.aload_n 0, 1) := by decide +kernel
theorem dX9_load_92 : decode cX9_load 92 = .ok (.invokevirtual 219, 3) := by decide +kernel
theorem dX9_load_95 : decode cX9_load 95 = .ok (.aload_n 0, 1) := by decide +kernel
theorem dX9_load_96 : decode cX9_load 96 = .ok (.getfield 181, 3) := by decide +kernel
theorem dX9_load_99 : decode cX9_load 99 = .ok (.ifCond .ne 26, 3) := by decide +kernel
theorem dX9_load_102 : decode cX9_load 102 = .ok (.aload_n 0, 1) := by decide +kernel
theorem dX9_load_103 : decode cX9_load 103 = .ok (.iconst 0, 1) := by decide +kernel
theorem dX9_load_104 : decode cX9_load 104 = .ok (.invokevirtual 50, 3) := by decide +kernel
theorem dX9_load_107 : decode cX9_load 107 = .ok (.iconst 2, 1) := by decide +kernel
theorem dX9_load_108 : decode cX9_load 108 = .ok (.if_icmp .lt 10, 3) := by decide +kernel
theorem dX9_load_111 : decode cX9_load 111 = .ok (.aload_n 0, 1) := by decide +kernel
theorem dX9_load_112 : decode cX9_load 112 = .ok (.getfield 174, 3) := by decide +kernel
theorem dX9_load_115 : decode cX9_load 115 = .ok (.ifCond .eq 10, 3) := by decide +kernel
theorem dX9_load_118 : decode cX9_load 118 = .ok (.aload_n 0, 1) := by decide +kernel
theorem dX9_load_119 : decode cX9_load 119 = .ok (.invokevirtual 231, 3) := by decide +kernel
theorem dX9_load_122 : decode cX9_load 122 = .ok (.goto (-27), 3) := by decide +kernel
theorem dX9_load_125 : decode cX9_load 125 = .ok (.aload_n 0, 1) := by decide +kernel
theorem dX9_load_126 : decode cX9_load 126 = .ok (.iconst 0, 1) := by decide +kernel
theorem dX9_load_127 : decode cX9_load 127 = .ok (.putfield 44, 3) := by decide +kernel
theorem dX9_load_130 : decode cX9_load 130 = .ok (.aload_n 0, 1) := by decide +kernel
theorem dX9_load_131 : decode cX9_load 131 = .ok (.iconst 0, 1) := by decide +kernel
theorem dX9_load_132 : decode cX9_load 132 = .ok (.putfield 155, 3) := by decide +kernel
theorem dX9_load_135 : decode cX9_load 135 = .ok (.aload_n 0, 1) := by decide +kernel
theorem dX9_load_136 : decode cX9_load 136 = .ok (.getfield 181, 3) := by decide +kernel
theorem dX9_load_139 : decode cX9_load 139 = .ok (.ifCond .eq 5, 3) := by decide +kernel
theorem dX9_load_142 : decode cX9_load 142 = .ok (.iconst (-1), 1) := by decide +kernel
theorem dX9_load_143 : decode cX9_load 143 = .ok (.ireturn, 1) := by decide +kernel
theorem dX9_load_144 : decode cX9_load 144 = .ok (.aload_n 0, 1) := by decide +kernel
theorem dX9_load_145 : decode cX9_load 145 = .ok (.bipush 10, 2) := by decide +kernel
theorem dX9_load_147 : decode cX9_load 147 = .ok (.iconst 0, 1) := by decide +kernel
theorem dX9_load_148 : decode cX9_load 148 = .ok (.invokevirtual 152, 3) := by decide +kernel
theorem dX9_load_151 : decode cX9_load 151 = .ok (.aload_n 0, 1) := by decide +kernel
theorem dX9_load_152 : decode cX9_load 152 = .ok (.iconst 0, 1) := by decide +kernel
theorem dX9_load_153 : decode cX9_load 153 = .ok (.putfield 234, 3) := by decide +kernel
theorem dX9_load_156 : decode cX9_load 156 = .ok (.aload_n 0, 1) := by decide +kernel
theorem dX9_load_157 : decode cX9_load 157 = .ok (.iconst 0, 1) := by decide +kernel
theorem dX9_load_158 : decode cX9_load 158 = .ok (.invokevirtual 50, 3) := by decide +kernel
theorem dX9_load_161 : decode cX9_load 161 = .ok (.ireturn, 1) := by decide +kernel
theorem dX9_commandHere_0 : decode cX9_commandHere 0 = .ok (.aload_n 0, 1) := by decide +kernel
theorem dX9_commandHere_1 : decode cX9_commandHere 1 = .ok (.ldc 237, 2) := by decide +kernel
theorem dX9_commandHere_3 : decode cX9_commandHere 3 = .ok (.invokevirtual 196, 3) := by decide +kernel
theorem dX9_commandHere_6 : decode cX9_commandHere 6 = .ok (.ifCond .eq 5, 3) := by decide +kernel
theorem dX9_commandHere_9 : decode cX9_commandHere 9 = .ok (.iconst 0, 1) := by decide +kernel
theorem dX9_commandHere_10 : decode cX9_commandHere 10 = .ok (.ireturn, 1) := by decide +kernel
theorem dX9_commandHere_11 : decode cX9_commandHere 11 = .ok (.aload_n 0, 1) := by decide +kernel
theorem dX9_commandHere_12 : decode cX9_commandHere 12 = .ok (.ldc 239, 2) := by decide +kernel
theorem dX9_commandHere_14 : decode cX9_commandHere 14 = .ok (.invokevirtual 196, 3) := by decide +kernel
theorem dX9_commandHere_17 : decode cX9_commandHere 17 = .ok (.ifCond .eq 5, 3) := by decide +kernel
theorem dX9_commandHere_20 : decode cX9_commandHere 20 = .ok (.iconst 1, 1) := by decide +kernel
theorem dX9_commandHere_21 : decode cX9_commandHere 21 = .ok (.ireturn, 1) := by decide +kernel
theorem dX9_commandHere_22 : decode cX9_commandHere 22 = .ok (.aload_n 0, 1) := by decide +kernel
theorem dX9_commandHere_23 : decode cX9_commandHere 23 = .ok (.ldc 241, 2) := by decide +kernel
theorem dX9_commandHere_25 : decode cX9_commandHere 25 = .ok (.invokevirtual 196, 3) := by decide +kernel
theorem dX9_commandHere_28 : decode cX9_commandHere 28 = .ok (.ifCond .eq 5, 3) := by decide +kernel
theorem dX9_commandHere_31 : decode cX9_commandHere 31 = .ok (.iconst 2, 1) := by decide +kernel
theorem dX9_commandHere_32 : decode cX9_commandHere 32 = .ok (.ireturn, 1) := by decide +kernel
theorem dX9_commandHere_33 : decode cX9_commandHere 33 = .ok (.aload_n 0, 1) := by decide +kernel
theorem dX9_commandHere_34 : decode cX9_commandHere 34 = .ok (.ldc 243, 2) := by decide +kernel
theorem dX9_commandHere_36 : decode cX9_commandHere 36 = .ok (.invokevirtual 196, 3) := by decide +kernel
theorem dX9_commandHere_39 : decode cX9_commandHere 39 = .ok (.ifCond .eq 5, 3) := by decide +kernel
theorem dX9_commandHere_42 : decode cX9_commandHere 42 = .ok (.iconst 3, 1) := by decide +kernel
theorem dX9_commandHere_43 : decode cX9_commandHere 43 = .ok (.ireturn, 1) := by decide +kernel
theorem dX9_commandHere_44 : decode cX9_commandHere 44 = .ok (.aload_n 0, 1) := by decide +kernel
theorem dX9_commandHere_45 : decode cX9_commandHere 45 = .ok (.ldc 245, 2) := by decide +kernel
theorem dX9_commandHere_47 : decode cX9_commandHere 47 = .ok (.invokevirtual 196, 3) := by decide +kernel
theorem dX9_commandHere_50 : decode cX9_commandHere 50 = .ok (.ifCond .eq 5, 3) := by decide +kernel
theorem dX9_commandHere_53 : decode cX9_commandHere 53 = .ok (.iconst 4, 1) := by decide +kernel
theorem dX9_commandHere_54 : decode cX9_commandHere 54 = .ok (.ireturn, 1) := by decide +kernel
theorem dX9_commandHere_55 : decode cX9_commandHere 55 = .ok (.aload_n 0, 1) := by decide +kernel
theorem dX9_commandHere_56 : decode cX9_commandHere 56 = .ok (.ldc 247, 2) := by decide +kernel
theorem dX9_commandHere_58 : decode cX9_commandHere 58 = .ok (.invokevirtual 196, 3) := by decide +kernel
theorem dX9_commandHere_61 : decode cX9_commandHere 61 = .ok (.ifCond .eq 5, 3) := by decide +kernel
theorem dX9_commandHere_64 : decode cX9_commandHere 64 = .ok (.iconst 5, 1) := by decide +kernel
theorem dX9_commandHere_65 : decode cX9_commandHere 65 = .ok (.ireturn, 1) := by decide +kernel
theorem dX9_commandHere_66 : decode cX9_commandHere 66 = .ok (.aload_n 0, 1) := by decide +kernel
theorem dX9_commandHere_67 : decode cX9_commandHere 67 = .ok (.ldc 249, 2) := by decide +kernel
theorem dX9_commandHere_69 : decode cX9_commandHere 69 = .ok (.invokevirtual 196, 3) := by decide +kernel
theorem dX9_commandHere_72 : decode cX9_commandHere 72 = .ok (.ifCond .eq 8, 3) := by decide +kernel
theorem dX9_commandHere_75 : decode cX9_commandHere 75 = .ok (.bipush 6, 2) := by decide +kernel
theorem dX9_commandHere_77 : decode cX9_commandHere 77 = .ok (.goto 4, 3) := by decide +kernel
theorem dX9_commandHere_80 : decode cX9_commandHere 80 = .ok (.iconst (-1), 1) := by decide +kernel
theorem dX9_commandHere_81 : decode cX9_commandHere 81 = .ok (.ireturn, 1) := by decide +kernel
theorem dX9_readsKind_0 : decode cX9_readsKind 0 = .ok (.aload_n 0, 1) := by decide +kernel
theorem dX9_readsKind_1 : decode cX9_readsKind 1 = .ok (.ldc 251, 2) := by decide +kernel
theorem dX9_readsKind_3 : decode cX9_readsKind 3 = .ok (.invokevirtual 196, 3) := by decide +kernel
theorem dX9_readsKind_6 : decode cX9_readsKind 6 = .ok (.invokestatic 110, 3) := by decide +kernel
theorem dX9_readsKind_9 : decode cX9_readsKind 9 = .ok (.istore_n 1, 1) := by decide +kernel
theorem dX9_readsKind_10 : decode cX9_readsKind 10 = .ok (.aload_n 0, 1) := by decide +kernel
theorem dX9_readsKind_11 : decode cX9_readsKind 11 = .ok (.aload_n 0, 1) := by decide +kernel
theorem dX9_readsKind_12 : decode cX9_readsKind 12 = .ok (.ldc 253, 2) := by decide +kernel
theorem dX9_readsKind_14 : decode cX9_readsKind 14 = .ok (.invokevirtual 196, 3) := by decide +kernel
theorem dX9_readsKind_17 : decode cX9_readsKind 17 = .ok (.ifCond .ne 12, 3) := by decide +kernel
theorem dX9_readsKind_20 : decode cX9_readsKind 20 = .ok (.aload_n 0, 1) := by decide +kernel
theorem dX9_readsKind_21 : decode cX9_readsKind 21 = .ok (.ldc 251, 2) := by decide +kernel
theorem dX9_readsKind_23 : decode cX9_readsKind 23 = .ok (.invokevirtual 196, 3) := by decide +kernel
theorem dX9_readsKind_26 : decode cX9_readsKind 26 = .ok (.ifCond .eq 7, 3) := by decide +kernel
theorem dX9_readsKind_29 : decode cX9_readsKind 29 = .ok (.iconst 1, 1) := by decide +kernel
theorem dX9_readsKind_30 : decode cX9_readsKind 30 = .ok (.goto 4, 3) := by decide +kernel
theorem dX9_readsKind_33 : decode cX9_readsKind 33 = .ok (.iconst 0, 1) := by decide +kernel
theorem dX9_readsKind_34 : decode cX9_readsKind 34 = .ok (.iconst 1, 1) := by decide +kernel
theorem dX9_readsKind_35 : decode cX9_readsKind 35 = .ok (.invokevirtual 200, 3) := by decide +kernel
theorem dX9_readsKind_38 : decode cX9_readsKind 38 = .ok (.pop, 1) := by decide +kernel
theorem dX9_readsKind_39 : decode cX9_readsKind 39 = .ok (.aload_n 0, 1) := by decide +kernel
theorem dX9_readsKind_40 : decode cX9_readsKind 40 = .ok (.invokevirtual 203, 3) := by decide +kernel
theorem dX9_readsKind_43 : decode cX9_readsKind 43 = .ok (.iload_n 1, 1) := by decide +kernel
theorem dX9_readsKind_44 : decode cX9_readsKind 44 = .ok (.ireturn, 1) := by decide +kernel
theorem dX9_readsNumbers_0 : decode cX9_readsNumbers 0 = .ok (.aload_n 0, 1) := by decide +kernel
theorem dX9_readsNumbers_1 : decode cX9_readsNumbers 1 = .ok (.getfield 27, 3) := by decide +kernel
theorem dX9_readsNumbers_4 : decode cX9_readsNumbers 4 = .ok (.iload_n 1, 1) := by decide +kernel
theorem dX9_readsNumbers_5 : decode cX9_readsNumbers 5 = .ok (.iconst 1, 1) := by decide +kernel
theorem dX9_readsNumbers_6 : decode cX9_readsNumbers 6 = .ok (.iadd, 1) := by decide +kernel
theorem dX9_readsNumbers_7 : decode cX9_readsNumbers 7 = .ok (.iload_n 2, 1) := by decide +kernel
theorem dX9_readsNumbers_8 : decode cX9_readsNumbers 8 = .ok (.bipush 6, 2) := by decide +kernel
theorem dX9_readsNumbers_10 : decode cX9_readsNumbers 10 = .ok (.if_icmp .ne 13, 3) := by decide +kernel
theorem dX9_readsNumbers_13 : decode cX9_readsNumbers 13 = .ok (.aload_n 0, 1) := by decide +kernel
theorem dX9_readsNumbers_14 : decode cX9_readsNumbers 14 = .ok (.iconst 1, 1) := by decide +kernel
theorem dX9_readsNumbers_15 : decode cX9_readsNumbers 15 = .ok (.bipush 10, 2) := by decide +kernel
theorem dX9_readsNumbers_17 : decode cX9_readsNumbers 17 = .ok (.invokevirtual 211, 3) := by decide +kernel
theorem dX9_readsNumbers_20 : decode cX9_readsNumbers 20 = .ok (.goto 10, 3) := by decide +kernel
theorem dX9_readsNumbers_23 : decode cX9_readsNumbers 23 = .ok (.aload_n 0, 1) := by decide +kernel
theorem dX9_readsNumbers_24 : decode cX9_readsNumbers 24 = .ok (.iconst 0, 1) := by decide +kernel
theorem dX9_readsNumbers_25 : decode cX9_readsNumbers 25 = .ok (.bipush 11, 2) := by decide +kernel
theorem dX9_readsNumbers_27 : decode cX9_readsNumbers 27 = .ok (.invokevirtual 211, 3) := by decide +kernel
theorem dX9_readsNumbers_30 : decode cX9_readsNumbers 30 = .ok (.iastore, 1) := by decide +kernel
theorem dX9_readsNumbers_31 : decode cX9_readsNumbers 31 = .ok (.iload_n 2, 1) := by decide +kernel
theorem dX9_readsNumbers_32 : decode cX9_readsNumbers 32 = .ok (.tableswitch 182 0 4 #[36, 64, 110, 110, 153], 36) := by decide +kernel
theorem dX9_readsNumbers_68 : decode cX9_readsNumbers 68 = .ok (.aload_n 0, 1) := by decide +kernel
theorem dX9_readsNumbers_69 : decode cX9_readsNumbers 69 = .ok (.getfield 27, 3) := by decide +kernel
theorem dX9_readsNumbers_72 : decode cX9_readsNumbers 72 = .ok (.iload_n 1, 1) := by decide +kernel
theorem dX9_readsNumbers_73 : decode cX9_readsNumbers 73 = .ok (.iconst 2, 1) := by decide +kernel
theorem dX9_readsNumbers_74 : decode cX9_readsNumbers 74 = .ok (.iadd, 1) := by decide +kernel
theorem dX9_readsNumbers_75 : decode cX9_readsNumbers 75 = .ok (.aload_n 0, 1) := by decide +kernel
theorem dX9_readsNumbers_76 : decode cX9_readsNumbers 76 = .ok (.invokevirtual 255, 3) := by decide +kernel
theorem dX9_readsNumbers_79 : decode cX9_readsNumbers 79 = .ok (.iastore, 1) := by decide +kernel
theorem dX9_readsNumbers_80 : decode cX9_readsNumbers 80 = .ok (.aload_n 0, 1) := by decide +kernel
theorem dX9_readsNumbers_81 : decode cX9_readsNumbers 81 = .ok (.getfield 27, 3) := by decide +kernel
theorem dX9_readsNumbers_84 : decode cX9_readsNumbers 84 = .ok (.iload_n 1, 1) := by decide +kernel
theorem dX9_readsNumbers_85 : decode cX9_readsNumbers 85 = .ok (.iconst 3, 1) := by decide +kernel
theorem dX9_readsNumbers_86 : decode cX9_readsNumbers 86 = .ok (.iadd, 1) := by decide +kernel
theorem dX9_readsNumbers_87 : decode cX9_readsNumbers 87 = .ok (.aload_n 0, 1) := by decide +kernel
theorem dX9_readsNumbers_88 : decode cX9_readsNumbers 88 = .ok (.iconst 1, 1) := by decide +kernel
theorem dX9_readsNumbers_89 : decode cX9_readsNumbers 89 = .ok (.bipush 20, 2) := by decide +kernel
theorem dX9_readsNumbers_91 : decode cX9_readsNumbers 91 = .ok (.invokevirtual 211, 3) := by decide +kernel
theorem dX9_readsNumbers_94 : decode cX9_readsNumbers 94 = .ok (.iastore, 1) := by decide +kernel
theorem dX9_readsNumbers_95 : decode cX9_readsNumbers 95 = .ok (.return_, 1) := by decide +kernel
theorem dX9_readsNumbers_96 : decode cX9_readsNumbers 96 = .ok (.aload_n 0, 1) := by decide +kernel
theorem dX9_readsNumbers_97 : decode cX9_readsNumbers 97 = .ok (.getfield 27, 3) := by decide +kernel
theorem dX9_readsNumbers_100 : decode cX9_readsNumbers 100 = .ok (.iload_n 1, 1) := by decide +kernel
theorem dX9_readsNumbers_101 : decode cX9_readsNumbers 101 = .ok (.iconst 2, 1) := by decide +kernel
theorem dX9_readsNumbers_102 : decode cX9_readsNumbers 102 = .ok (.iadd, 1) := by decide +kernel
theorem dX9_readsNumbers_103 : decode cX9_readsNumbers 103 = .ok (.aload_n 0, 1) := by decide +kernel
theorem dX9_readsNumbers_104 : decode cX9_readsNumbers 104 = .ok (.iconst 0, 1) := by decide +kernel
theorem dX9_readsNumbers_105 : decode cX9_readsNumbers 105 = .ok (.bipush 11, 2) := by decide +kernel
theorem dX9_readsNumbers_107 : decode cX9_readsNumbers 107 = .ok (.invokevirtual 211, 3) := by decide +kernel
theorem dX9_readsNumbers_110 : decode cX9_readsNumbers 110 = .ok (.iastore, 1) := by decide +kernel
theorem dX9_readsNumbers_111 : decode cX9_readsNumbers 111 = .ok (.aload_n 0, 1) := by decide +kernel
theorem dX9_readsNumbers_112 : decode cX9_readsNumbers 112 = .ok (.getfield 27, 3) := by decide +kernel
theorem dX9_readsNumbers_115 : decode cX9_readsNumbers 115 = .ok (.iload_n 1, 1) := by decide +kernel
theorem dX9_readsNumbers_116 : decode cX9_readsNumbers 116 = .ok (.iconst 3, 1) := by decide +kernel
theorem dX9_readsNumbers_117 : decode cX9_readsNumbers 117 = .ok (.iadd, 1) := by decide +kernel
theorem dX9_readsNumbers_118 : decode cX9_readsNumbers 118 = .ok (.aload_n 0, 1) := by decide +kernel
theorem dX9_readsNumbers_119 : decode cX9_readsNumbers 119 = .ok (.iconst 0, 1) := by decide +kernel
theorem dX9_readsNumbers_120 : decode cX9_readsNumbers 120 = .ok (.bipush 20, 2) := by decide +kernel
theorem dX9_readsNumbers_122 : decode cX9_readsNumbers 122 = .ok (.invokevirtual 211, 3) := by decide +kernel
theorem dX9_readsNumbers_125 : decode cX9_readsNumbers 125 = .ok (.iastore, 1) := by decide +kernel
theorem dX9_readsNumbers_126 : decode cX9_readsNumbers 126 = .ok (.aload_n 0, 1) := by decide +kernel
theorem dX9_readsNumbers_127 : decode cX9_readsNumbers 127 = .ok (.getfield 27, 3) := by decide +kernel
theorem dX9_readsNumbers_130 : decode cX9_readsNumbers 130 = .ok (.iload_n 1, 1) := by decide +kernel
theorem dX9_readsNumbers_131 : decode cX9_readsNumbers 131 = .ok (.iconst 4, 1) := by decide +kernel
theorem dX9_readsNumbers_132 : decode cX9_readsNumbers 132 = .ok (.iadd, 1) := by decide +kernel
theorem dX9_readsNumbers_133 : decode cX9_readsNumbers 133 = .ok (.aload_n 0, 1) := by decide +kernel
theorem dX9_readsNumbers_134 : decode cX9_readsNumbers 134 = .ok (.iconst 0, 1) := by decide +kernel
theorem dX9_readsNumbers_135 : decode cX9_readsNumbers 135 = .ok (.bipush 20, 2) := by decide +kernel
theorem dX9_readsNumbers_137 : decode cX9_readsNumbers 137 = .ok (.invokevirtual 211, 3) := by decide +kernel
theorem dX9_readsNumbers_140 : decode cX9_readsNumbers 140 = .ok (.iastore, 1) := by decide +kernel
theorem dX9_readsNumbers_141 : decode cX9_readsNumbers 141 = .ok (.return_, 1) := by decide +kernel
theorem dX9_readsNumbers_142 : decode cX9_readsNumbers 142 = .ok (.aload_n 0, 1) := by decide +kernel
theorem dX9_readsNumbers_143 : decode cX9_readsNumbers 143 = .ok (.getfield 27, 3) := by decide +kernel
theorem dX9_readsNumbers_146 : decode cX9_readsNumbers 146 = .ok (.iload_n 1, 1) := by decide +kernel
theorem dX9_readsNumbers_147 : decode cX9_readsNumbers 147 = .ok (.iconst 2, 1) := by decide +kernel
theorem dX9_readsNumbers_148 : decode cX9_readsNumbers 148 = .ok (.iadd, 1) := by decide +kernel
theorem dX9_readsNumbers_149 : decode cX9_readsNumbers 149 = .ok (.aload_n 0, 1) := by decide +kernel
theorem dX9_readsNumbers_150 : decode cX9_readsNumbers 150 = .ok (.iconst 0, 1) := by decide +kernel
theorem dX9_readsNumbers_151 : decode cX9_readsNumbers 151 = .ok (.bipush 11, 2) := by decide +kernel
theorem dX9_readsNumbers_153 : decode cX9_readsNumbers 153 = .ok (.invokevirtual 211, 3) := by decide +kernel
theorem dX9_readsNumbers_156 : decode cX9_readsNumbers 156 = .ok (.iastore, 1) := by decide +kernel
theorem dX9_readsNumbers_157 : decode cX9_readsNumbers 157 = .ok (.aload_n 0, 1) := by decide +kernel
theorem dX9_readsNumbers_158 : decode cX9_readsNumbers 158 = .ok (.getfield 27, 3) := by decide +kernel
theorem dX9_readsNumbers_161 : decode cX9_readsNumbers 161 = .ok (.iload_n 1, 1) := by decide +kernel
theorem dX9_readsNumbers_162 : decode cX9_readsNumbers 162 = .ok (.iconst 3, 1) := by decide +kernel
theorem dX9_readsNumbers_163 : decode cX9_readsNumbers 163 = .ok (.iadd, 1) := by decide +kernel
theorem dX9_readsNumbers_164 : decode cX9_readsNumbers 164 = .ok (.aload_n 0, 1) := by decide +kernel
theorem dX9_readsNumbers_165 : decode cX9_readsNumbers 165 = .ok (.invokevirtual 255, 3) := by decide +kernel
theorem dX9_readsNumbers_168 : decode cX9_readsNumbers 168 = .ok (.iastore, 1) := by decide +kernel
theorem dX9_readsNumbers_169 : decode cX9_readsNumbers 169 = .ok (.aload_n 0, 1) := by decide +kernel
theorem dX9_readsNumbers_170 : decode cX9_readsNumbers 170 = .ok (.getfield 27, 3) := by decide +kernel
theorem dX9_readsNumbers_173 : decode cX9_readsNumbers 173 = .ok (.iload_n 1, 1) := by decide +kernel
theorem dX9_readsNumbers_174 : decode cX9_readsNumbers 174 = .ok (.iconst 4, 1) := by decide +kernel
theorem dX9_readsNumbers_175 : decode cX9_readsNumbers 175 = .ok (.iadd, 1) := by decide +kernel
theorem dX9_readsNumbers_176 : decode cX9_readsNumbers 176 = .ok (.aload_n 0, 1) := by decide +kernel
theorem dX9_readsNumbers_177 : decode cX9_readsNumbers 177 = .ok (.iconst 1, 1) := by decide +kernel
theorem dX9_readsNumbers_178 : decode cX9_readsNumbers 178 = .ok (.bipush 20, 2) := by decide +kernel
theorem dX9_readsNumbers_180 : decode cX9_readsNumbers 180 = .ok (.invokevirtual 211, 3) := by decide +kernel
theorem dX9_readsNumbers_183 : decode cX9_readsNumbers 183 = .ok (.iastore, 1) := by decide +kernel
theorem dX9_readsNumbers_184 : decode cX9_readsNumbers 184 = .ok (.return_, 1) := by decide +kernel
theorem dX9_readsNumbers_185 : decode cX9_readsNumbers 185 = .ok (.aload_n 0, 1) := by decide +kernel
theorem dX9_readsNumbers_186 : decode cX9_readsNumbers 186 = .ok (.getfield 27, 3) := by decide +kernel
theorem dX9_readsNumbers_189 : decode cX9_readsNumbers 189 = .ok (.iload_n 1, 1) := by decide +kernel
theorem dX9_readsNumbers_190 : decode cX9_readsNumbers 190 = .ok (.iconst 2, 1) := by decide +kernel
theorem dX9_readsNumbers_191 : decode cX9_readsNumbers 191 = .ok (.iadd, 1) := by decide +kernel
theorem dX9_readsNumbers_192 : decode cX9_readsNumbers 192 = .ok (.aload_n 0, 1) := by decide +kernel
theorem dX9_readsNumbers_193 : decode cX9_readsNumbers 193 = .ok (.iconst 0, 1) := by decide +kernel
theorem dX9_readsNumbers_194 : decode cX9_readsNumbers 194 = .ok (.iconst 5, 1) := by decide +kernel
theorem dX9_readsNumbers_195 : decode cX9_readsNumbers 195 = .ok (.invokevirtual 211, 3) := by decide +kernel
theorem dX9_readsNumbers_198 : decode cX9_readsNumbers 198 = .ok (.iastore, 1) := by decide +kernel
theorem dX9_readsNumbers_199 : decode cX9_readsNumbers 199 = .ok (.aload_n 0, 1) := by decide +kernel
theorem dX9_readsNumbers_200 : decode cX9_readsNumbers 200 = .ok (.getfield 27, 3) := by decide +kernel
theorem dX9_readsNumbers_203 : decode cX9_readsNumbers 203 = .ok (.iload_n 1, 1) := by decide +kernel
theorem dX9_readsNumbers_204 : decode cX9_readsNumbers 204 = .ok (.iconst 3, 1) := by decide +kernel
theorem dX9_readsNumbers_205 : decode cX9_readsNumbers 205 = .ok (.iadd, 1) := by decide +kernel
theorem dX9_readsNumbers_206 : decode cX9_readsNumbers 206 = .ok (.aload_n 0, 1) := by decide +kernel
theorem dX9_readsNumbers_207 : decode cX9_readsNumbers 207 = .ok (.iconst 0, 1) := by decide +kernel
theorem dX9_readsNumbers_208 : decode cX9_readsNumbers 208 = .ok (.iconst 5, 1) := by decide +kernel
theorem dX9_readsNumbers_209 : decode cX9_readsNumbers 209 = .ok (.invokevirtual 211, 3) := by decide +kernel
theorem dX9_readsNumbers_212 : decode cX9_readsNumbers 212 = .ok (.iastore, 1) := by decide +kernel
theorem dX9_readsNumbers_213 : decode cX9_readsNumbers 213 = .ok (.return_, 1) := by decide +kernel
theorem dX9_readsNumbers_214 : decode cX9_readsNumbers 214 = .ok (.return_, 1) := by decide +kernel
theorem dX9_readsCommand_0 : decode cX9_readsCommand 0 = .ok (.aload_n 0, 1) := by decide +kernel
theorem dX9_readsCommand_1 : decode cX9_readsCommand 1 = .ok (.invokevirtual 258, 3) := by decide +kernel
theorem dX9_readsCommand_4 : decode cX9_readsCommand 4 = .ok (.istore_n 1, 1) := by decide +kernel
theorem dX9_readsCommand_5 : decode cX9_readsCommand 5 = .ok (.aload_n 0, 1) := by decide +kernel
theorem dX9_readsCommand_6 : decode cX9_readsCommand 6 = .ok (.iload_n 1, 1) := by decide +kernel
theorem dX9_readsCommand_7 : decode cX9_readsCommand 7 = .ok (.iconst (-1), 1) := by decide +kernel
theorem dX9_readsCommand_8 : decode cX9_readsCommand 8 = .ok (.if_icmp .eq 7, 3) := by decide +kernel
theorem dX9_readsCommand_11 : decode cX9_readsCommand 11 = .ok (.iconst 1, 1) := by decide +kernel
theorem dX9_readsCommand_12 : decode cX9_readsCommand 12 = .ok (.goto 4, 3) := by decide +kernel
theorem dX9_readsCommand_15 : decode cX9_readsCommand 15 = .ok (.iconst 0, 1) := by decide +kernel
theorem dX9_readsCommand_16 : decode cX9_readsCommand 16 = .ok (.iconst 1, 1) := by decide +kernel
theorem dX9_readsCommand_17 : decode cX9_readsCommand 17 = .ok (.invokevirtual 200, 3) := by decide +kernel
theorem dX9_readsCommand_20 : decode cX9_readsCommand 20 = .ok (.ifCond .eq 25, 3) := by decide +kernel
theorem dX9_readsCommand_23 : decode cX9_readsCommand 23 = .ok (.aload_n 0, 1) := by decide +kernel
theorem dX9_readsCommand_24 : decode cX9_readsCommand 24 = .ok (.aload_n 0, 1) := by decide +kernel
theorem dX9_readsCommand_25 : decode cX9_readsCommand 25 = .ok (.getfield 261, 3) := by decide +kernel
theorem dX9_readsCommand_28 : decode cX9_readsCommand 28 = .ok (.bipush 25, 2) := by decide +kernel
theorem dX9_readsCommand_30 : decode cX9_readsCommand 30 = .ok (.if_icmp .ge 7, 3) := by decide +kernel
theorem dX9_readsCommand_33 : decode cX9_readsCommand 33 = .ok (.iconst 1, 1) := by decide +kernel
theorem dX9_readsCommand_34 : decode cX9_readsCommand 34 = .ok (.goto 4, 3) := by decide +kernel
theorem dX9_readsCommand_37 : decode cX9_readsCommand 37 = .ok (.iconst 0, 1) := by decide +kernel
theorem dX9_readsCommand_38 : decode cX9_readsCommand 38 = .ok (.iconst 4, 1) := by decide +kernel
theorem dX9_readsCommand_39 : decode cX9_readsCommand 39 = .ok (.invokevirtual 200, 3) := by decide +kernel
theorem dX9_readsCommand_42 : decode cX9_readsCommand 42 = .ok (.ifCond .ne 4, 3) := by decide +kernel
theorem dX9_readsCommand_45 : decode cX9_readsCommand 45 = .ok (.return_, 1) := by decide +kernel
theorem dX9_readsCommand_46 : decode cX9_readsCommand 46 = .ok (.aload_n 0, 1) := by decide +kernel
theorem dX9_readsCommand_47 : decode cX9_readsCommand 47 = .ok (.invokevirtual 203, 3) := by decide +kernel
theorem dX9_readsCommand_50 : decode cX9_readsCommand 50 = .ok (.aload_n 0, 1) := by decide +kernel
theorem dX9_readsCommand_51 : decode cX9_readsCommand 51 = .ok (.getfield 27, 3) := by decide +kernel
theorem dX9_readsCommand_54 : decode cX9_readsCommand 54 = .ok (.iconst 5, 1) := by decide +kernel
theorem dX9_readsCommand_55 : decode cX9_readsCommand 55 = .ok (.aload_n 0, 1) := by decide +kernel
theorem dX9_readsCommand_56 : decode cX9_readsCommand 56 = .ok (.getfield 261, 3) := by decide +kernel
theorem dX9_readsCommand_59 : decode cX9_readsCommand 59 = .ok (.imul, 1) := by decide +kernel
theorem dX9_readsCommand_60 : decode cX9_readsCommand 60 = .ok (.iload_n 1, 1) := by decide +kernel
theorem dX9_readsCommand_61 : decode cX9_readsCommand 61 = .ok (.iastore, 1) := by decide +kernel
theorem dX9_readsCommand_62 : decode cX9_readsCommand 62 = .ok (.aload_n 0, 1) := by decide +kernel
theorem dX9_readsCommand_63 : decode cX9_readsCommand 63 = .ok (.iconst 5, 1) := by decide +kernel
theorem dX9_readsCommand_64 : decode cX9_readsCommand 64 = .ok (.aload_n 0, 1) := by decide +kernel
theorem dX9_readsCommand_65 : decode cX9_readsCommand 65 = .ok (.getfield 261, 3) := by decide +kernel
theorem dX9_readsCommand_68 : decode cX9_readsCommand 68 = .ok (.imul, 1) := by decide +kernel
theorem dX9_readsCommand_69 : decode cX9_readsCommand 69 = .ok (.iload_n 1, 1) := by decide +kernel
theorem dX9_readsCommand_70 : decode cX9_readsCommand 70 = .ok (.invokevirtual 264, 3) := by decide +kernel
theorem dX9_readsCommand_73 : decode cX9_readsCommand 73 = .ok (.aload_n 0, 1) := by decide +kernel
theorem dX9_readsCommand_74 : decode cX9_readsCommand 74 = .ok (.invokevirtual 219, 3) := by decide +kernel
theorem dX9_readsCommand_77 : decode cX9_readsCommand 77 = .ok (.aload_n 0, 1) := by decide +kernel
theorem dX9_readsCommand_78 : decode cX9_readsCommand 78 = .ok (.dup, 1) := by decide +kernel
theorem dX9_readsCommand_79 : decode cX9_readsCommand 79 = .ok (.getfield 261, 3) := by decide +kernel
theorem dX9_readsCommand_82 : decode cX9_readsCommand 82 = .ok (.iconst 1, 1) := by decide +kernel
theorem dX9_readsCommand_83 : decode cX9_readsCommand 83 = .ok (.iadd, 1) := by decide +kernel
theorem dX9_readsCommand_84 : decode cX9_readsCommand 84 = .ok (.putfield 261, 3) := by decide +kernel
theorem dX9_readsCommand_87 : decode cX9_readsCommand 87 = .ok (.return_, 1) := by decide +kernel
theorem dX9_acts_0 : decode cX9_acts 0 = .ok (.aload_n 0, 1) := by decide +kernel
theorem dX9_acts_1 : decode cX9_acts 1 = .ok (.getfield 27, 3) := by decide +kernel
theorem dX9_acts_4 : decode cX9_acts 4 = .ok (.iload_n 1, 1) := by decide +kernel
theorem dX9_acts_5 : decode cX9_acts 5 = .ok (.iconst 1, 1) := by decide +kernel
theorem dX9_acts_6 : decode cX9_acts 6 = .ok (.iadd, 1) := by decide +kernel
theorem dX9_acts_7 : decode cX9_acts 7 = .ok (.iaload, 1) := by decide +kernel
theorem dX9_acts_8 : decode cX9_acts 8 = .ok (.istore_n 2, 1) := by decide +kernel
theorem dX9_acts_9 : decode cX9_acts 9 = .ok (.aload_n 0, 1) := by decide +kernel
theorem dX9_acts_10 : decode cX9_acts 10 = .ok (.getfield 27, 3) := by decide +kernel
theorem dX9_acts_13 : decode cX9_acts 13 = .ok (.iload_n 1, 1) := by decide +kernel
theorem dX9_acts_14 : decode cX9_acts 14 = .ok (.iconst 2, 1) := by decide +kernel
theorem dX9_acts_15 : decode cX9_acts 15 = .ok (.iadd, 1) := by decide +kernel
theorem dX9_acts_16 : decode cX9_acts 16 = .ok (.iaload, 1) := by decide +kernel
theorem dX9_acts_17 : decode cX9_acts 17 = .ok (.istore_n 3, 1) := by decide +kernel
theorem dX9_acts_18 : decode cX9_acts 18 = .ok (.aload_n 0, 1) := by decide +kernel
theorem dX9_acts_19 : decode cX9_acts 19 = .ok (.getfield 27, 3) := by decide +kernel
theorem dX9_acts_22 : decode cX9_acts 22 = .ok (.iload_n 1, 1) := by decide +kernel
theorem dX9_acts_23 : decode cX9_acts 23 = .ok (.iconst 3, 1) := by decide +kernel
theorem dX9_acts_24 : decode cX9_acts 24 = .ok (.iadd, 1) := by decide +kernel
theorem dX9_acts_25 : decode cX9_acts 25 = .ok (.iaload, 1) := by decide +kernel
theorem dX9_acts_26 : decode cX9_acts 26 = .ok (.istore 4, 2) := by decide +kernel
theorem dX9_acts_28 : decode cX9_acts 28 = .ok (.aload_n 0, 1) := by decide +kernel
theorem dX9_acts_29 : decode cX9_acts 29 = .ok (.getfield 27, 3) := by decide +kernel
theorem dX9_acts_32 : decode cX9_acts 32 = .ok (.iload_n 1, 1) := by decide +kernel
theorem dX9_acts_33 : decode cX9_acts 33 = .ok (.iaload, 1) := by decide +kernel
theorem dX9_acts_34 : decode cX9_acts 34 = .ok (.tableswitch 113 0 5 #[38, 47, 64, 81, 98, 107], 38) := by decide +kernel
theorem dX9_acts_72 : decode cX9_acts 72 = .ok (.aload_n 0, 1) := by decide +kernel
theorem dX9_acts_73 : decode cX9_acts 73 = .ok (.iload_n 2, 1) := by decide +kernel
theorem dX9_acts_74 : decode cX9_acts 74 = .ok (.iload_n 3, 1) := by decide +kernel
theorem dX9_acts_75 : decode cX9_acts 75 = .ok (.iload 4, 2) := by decide +kernel
theorem dX9_acts_77 : decode cX9_acts 77 = .ok (.invokevirtual 267, 3) := by decide +kernel
theorem dX9_acts_80 : decode cX9_acts 80 = .ok (.ireturn, 1) := by decide +kernel
theorem dX9_acts_81 : decode cX9_acts 81 = .ok (.aload_n 0, 1) := by decide +kernel
theorem dX9_acts_82 : decode cX9_acts 82 = .ok (.iload_n 2, 1) := by decide +kernel
theorem dX9_acts_83 : decode cX9_acts 83 = .ok (.iload_n 3, 1) := by decide +kernel
theorem dX9_acts_84 : decode cX9_acts 84 = .ok (.iload 4, 2) := by decide +kernel
theorem dX9_acts_86 : decode cX9_acts 86 = .ok (.aload_n 0, 1) := by decide +kernel
theorem dX9_acts_87 : decode cX9_acts 87 = .ok (.getfield 27, 3) := by decide +kernel
theorem dX9_acts_90 : decode cX9_acts 90 = .ok (.iload_n 1, 1) := by decide +kernel
theorem dX9_acts_91 : decode cX9_acts 91 = .ok (.iconst 4, 1) := by decide +kernel
theorem dX9_acts_92 : decode cX9_acts 92 = .ok (.iadd, 1) := by decide +kernel
theorem dX9_acts_93 : decode cX9_acts 93 = .ok (.iaload, 1) := by decide +kernel
theorem dX9_acts_94 : decode cX9_acts 94 = .ok (.invokevirtual 269, 3) := by decide +kernel
theorem dX9_acts_97 : decode cX9_acts 97 = .ok (.ireturn, 1) := by decide +kernel
theorem dX9_acts_98 : decode cX9_acts 98 = .ok (.aload_n 0, 1) := by decide +kernel
theorem dX9_acts_99 : decode cX9_acts 99 = .ok (.iload_n 2, 1) := by decide +kernel
theorem dX9_acts_100 : decode cX9_acts 100 = .ok (.iload_n 3, 1) := by decide +kernel
theorem dX9_acts_101 : decode cX9_acts 101 = .ok (.iload 4, 2) := by decide +kernel
theorem dX9_acts_103 : decode cX9_acts 103 = .ok (.aload_n 0, 1) := by decide +kernel
theorem dX9_acts_104 : decode cX9_acts 104 = .ok (.getfield 27, 3) := by decide +kernel
theorem dX9_acts_107 : decode cX9_acts 107 = .ok (.iload_n 1, 1) := by decide +kernel
theorem dX9_acts_108 : decode cX9_acts 108 = .ok (.iconst 4, 1) := by decide +kernel
theorem dX9_acts_109 : decode cX9_acts 109 = .ok (.iadd, 1) := by decide +kernel
theorem dX9_acts_110 : decode cX9_acts 110 = .ok (.iaload, 1) := by decide +kernel
theorem dX9_acts_111 : decode cX9_acts 111 = .ok (.invokevirtual 271, 3) := by decide +kernel
theorem dX9_acts_114 : decode cX9_acts 114 = .ok (.ireturn, 1) := by decide +kernel
theorem dX9_acts_115 : decode cX9_acts 115 = .ok (.aload_n 0, 1) := by decide +kernel
theorem dX9_acts_116 : decode cX9_acts 116 = .ok (.iload_n 2, 1) := by decide +kernel
theorem dX9_acts_117 : decode cX9_acts 117 = .ok (.iload_n 3, 1) := by decide +kernel
theorem dX9_acts_118 : decode cX9_acts 118 = .ok (.iload 4, 2) := by decide +kernel
theorem dX9_acts_120 : decode cX9_acts 120 = .ok (.aload_n 0, 1) := by decide +kernel
theorem dX9_acts_121 : decode cX9_acts 121 = .ok (.getfield 27, 3) := by decide +kernel
theorem dX9_acts_124 : decode cX9_acts 124 = .ok (.iload_n 1, 1) := by decide +kernel
theorem dX9_acts_125 : decode cX9_acts 125 = .ok (.iconst 4, 1) := by decide +kernel
theorem dX9_acts_126 : decode cX9_acts 126 = .ok (.iadd, 1) := by decide +kernel
theorem dX9_acts_127 : decode cX9_acts 127 = .ok (.iaload, 1) := by decide +kernel
theorem dX9_acts_128 : decode cX9_acts 128 = .ok (.invokevirtual 273, 3) := by decide +kernel
theorem dX9_acts_131 : decode cX9_acts 131 = .ok (.ireturn, 1) := by decide +kernel
theorem dX9_acts_132 : decode cX9_acts 132 = .ok (.aload_n 0, 1) := by decide +kernel
theorem dX9_acts_133 : decode cX9_acts 133 = .ok (.iload_n 2, 1) := by decide +kernel
theorem dX9_acts_134 : decode cX9_acts 134 = .ok (.iload_n 3, 1) := by decide +kernel
theorem dX9_acts_135 : decode cX9_acts 135 = .ok (.iload 4, 2) := by decide +kernel
theorem dX9_acts_137 : decode cX9_acts 137 = .ok (.invokevirtual 276, 3) := by decide +kernel
theorem dX9_acts_140 : decode cX9_acts 140 = .ok (.ireturn, 1) := by decide +kernel
theorem dX9_acts_141 : decode cX9_acts 141 = .ok (.aload_n 0, 1) := by decide +kernel
theorem dX9_acts_142 : decode cX9_acts 142 = .ok (.iload_n 2, 1) := by decide +kernel
theorem dX9_acts_143 : decode cX9_acts 143 = .ok (.invokevirtual 278, 3) := by decide +kernel
theorem dX9_acts_146 : decode cX9_acts 146 = .ok (.ireturn, 1) := by decide +kernel
theorem dX9_acts_147 : decode cX9_acts 147 = .ok (.aload_n 0, 1) := by decide +kernel
theorem dX9_acts_148 : decode cX9_acts 148 = .ok (.iload_n 2, 1) := by decide +kernel
theorem dX9_acts_149 : decode cX9_acts 149 = .ok (.invokevirtual 280, 3) := by decide +kernel
theorem dX9_acts_152 : decode cX9_acts 152 = .ok (.ireturn, 1) := by decide +kernel
theorem dX9_play_0 : decode cX9_play 0 = .ok (.aload_n 0, 1) := by decide +kernel
theorem dX9_play_1 : decode cX9_play 1 = .ok (.iconst 0, 1) := by decide +kernel
theorem dX9_play_2 : decode cX9_play 2 = .ok (.putfield 41, 3) := by decide +kernel
theorem dX9_play_5 : decode cX9_play 5 = .ok (.aload_n 0, 1) := by decide +kernel
theorem dX9_play_6 : decode cX9_play 6 = .ok (.invokevirtual 222, 3) := by decide +kernel
theorem dX9_play_9 : decode cX9_play 9 = .ok (.aload_n 0, 1) := by decide +kernel
theorem dX9_play_10 : decode cX9_play 10 = .ok (.iconst 0, 1) := by decide +kernel
theorem dX9_play_11 : decode cX9_play 11 = .ok (.putfield 261, 3) := by decide +kernel
theorem dX9_play_14 : decode cX9_play 14 = .ok (.aload_n 0, 1) := by decide +kernel
theorem dX9_play_15 : decode cX9_play 15 = .ok (.getfield 181, 3) := by decide +kernel
theorem dX9_play_18 : decode cX9_play 18 = .ok (.ifCond .ne 17, 3) := by decide +kernel
theorem dX9_play_21 : decode cX9_play 21 = .ok (.aload_n 0, 1) := by decide +kernel
theorem dX9_play_22 : decode cX9_play 22 = .ok (.getfield 174, 3) := by decide +kernel
theorem dX9_play_25 : decode cX9_play 25 = .ok (.ifCond .eq 10, 3) := by decide +kernel
theorem dX9_play_28 : decode cX9_play 28 = .ok (.aload_n 0, 1) := by decide +kernel
theorem dX9_play_29 : decode cX9_play 29 = .ok (.invokevirtual 282, 3) := by decide +kernel
theorem dX9_play_32 : decode cX9_play 32 = .ok (.goto (-18), 3) := by decide +kernel
theorem dX9_play_35 : decode cX9_play 35 = .ok (.aload_n 0, 1) := by decide +kernel
theorem dX9_play_36 : decode cX9_play 36 = .ok (.iconst 0, 1) := by decide +kernel
theorem dX9_play_37 : decode cX9_play 37 = .ok (.putfield 155, 3) := by decide +kernel
theorem dX9_play_40 : decode cX9_play 40 = .ok (.aload_n 0, 1) := by decide +kernel
theorem dX9_play_41 : decode cX9_play 41 = .ok (.getfield 181, 3) := by decide +kernel
theorem dX9_play_44 : decode cX9_play 44 = .ok (.ifCond .eq 5, 3) := by decide +kernel
theorem dX9_play_47 : decode cX9_play 47 = .ok (.iconst (-1), 1) := by decide +kernel
theorem dX9_play_48 : decode cX9_play 48 = .ok (.ireturn, 1) := by decide +kernel
theorem dX9_play_49 : decode cX9_play 49 = .ok (.iconst 0, 1) := by decide +kernel
theorem dX9_play_50 : decode cX9_play 50 = .ok (.istore_n 1, 1) := by decide +kernel
theorem dX9_play_51 : decode cX9_play 51 = .ok (.iconst 1, 1) := by decide +kernel
theorem dX9_play_52 : decode cX9_play 52 = .ok (.istore_n 2, 1) := by decide +kernel
theorem dX9_play_53 : decode cX9_play 53 = .ok (.iconst 0, 1) := by decide +kernel
theorem dX9_play_54 : decode cX9_play 54 = .ok (.istore_n 3, 1) := by decide +kernel
theorem dX9_play_55 : decode cX9_play 55 = .ok (.iload_n 3, 1) := by decide +kernel
theorem dX9_play_56 : decode cX9_play 56 = .ok (.aload_n 0, 1) := by decide +kernel
theorem dX9_play_57 : decode cX9_play 57 = .ok (.getfield 261, 3) := by decide +kernel
theorem dX9_play_60 : decode cX9_play 60 = .ok (.if_icmp .ge 43, 3) := by decide +kernel
theorem dX9_play_63 : decode cX9_play 63 = .ok (.iload_n 2, 1) := by decide +kernel
theorem dX9_play_64 : decode cX9_play 64 = .ok (.ifCond .eq 39, 3) := by decide +kernel
theorem dX9_play_67 : decode cX9_play 67 = .ok (.aload_n 0, 1) := by decide +kernel
theorem dX9_play_68 : decode cX9_play 68 = .ok (.iconst 5, 1) := by decide +kernel
theorem dX9_play_69 : decode cX9_play 69 = .ok (.iload_n 3, 1) := by decide +kernel
theorem dX9_play_70 : decode cX9_play 70 = .ok (.imul, 1) := by decide +kernel
theorem dX9_play_71 : decode cX9_play 71 = .ok (.invokevirtual 285, 3) := by decide +kernel
theorem dX9_play_74 : decode cX9_play 74 = .ok (.ifCond .lt 14, 3) := by decide +kernel
theorem dX9_play_77 : decode cX9_play 77 = .ok (.aload_n 0, 1) := by decide +kernel
theorem dX9_play_78 : decode cX9_play 78 = .ok (.getfield 41, 3) := by decide +kernel
theorem dX9_play_81 : decode cX9_play 81 = .ok (.ifCond .ne 7, 3) := by decide +kernel
theorem dX9_play_84 : decode cX9_play 84 = .ok (.iconst 1, 1) := by decide +kernel
theorem dX9_play_85 : decode cX9_play 85 = .ok (.goto 4, 3) := by decide +kernel
theorem dX9_play_88 : decode cX9_play 88 = .ok (.iconst 0, 1) := by decide +kernel
theorem dX9_play_89 : decode cX9_play 89 = .ok (.istore_n 2, 1) := by decide +kernel
theorem dX9_play_90 : decode cX9_play 90 = .ok (.iload_n 1, 1) := by decide +kernel
theorem dX9_play_91 : decode cX9_play 91 = .ok (.iload_n 2, 1) := by decide +kernel
theorem dX9_play_92 : decode cX9_play 92 = .ok (.invokestatic 110, 3) := by decide +kernel
theorem dX9_play_95 : decode cX9_play 95 = .ok (.iadd, 1) := by decide +kernel
theorem dX9_play_96 : decode cX9_play 96 = .ok (.istore_n 1, 1) := by decide +kernel
theorem dX9_play_97 : decode cX9_play 97 = .ok (.iinc 3 1, 3) := by decide +kernel
theorem dX9_play_100 : decode cX9_play 100 = .ok (.goto (-45), 3) := by decide +kernel
theorem dX9_play_103 : decode cX9_play 103 = .ok (.aload_n 0, 1) := by decide +kernel
theorem dX9_play_104 : decode cX9_play 104 = .ok (.iconst 0, 1) := by decide +kernel
theorem dX9_play_105 : decode cX9_play 105 = .ok (.putfield 41, 3) := by decide +kernel
theorem dX9_play_108 : decode cX9_play 108 = .ok (.iload_n 1, 1) := by decide +kernel
theorem dX9_play_109 : decode cX9_play 109 = .ok (.ireturn, 1) := by decide +kernel
theorem dX9_errorCode_0 : decode cX9_errorCode 0 = .ok (.aload_n 0, 1) := by decide +kernel
theorem dX9_errorCode_1 : decode cX9_errorCode 1 = .ok (.iconst 0, 1) := by decide +kernel
theorem dX9_errorCode_2 : decode cX9_errorCode 2 = .ok (.putfield 41, 3) := by decide +kernel
theorem dX9_errorCode_5 : decode cX9_errorCode 5 = .ok (.aload_n 0, 1) := by decide +kernel
theorem dX9_errorCode_6 : decode cX9_errorCode 6 = .ok (.getfield 181, 3) := by decide +kernel
theorem dX9_errorCode_9 : decode cX9_errorCode 9 = .ok (.ireturn, 1) := by decide +kernel
theorem dX9_errorPosition_0 : decode cX9_errorPosition 0 = .ok (.aload_n 0, 1) := by decide +kernel
theorem dX9_errorPosition_1 : decode cX9_errorPosition 1 = .ok (.iconst 0, 1) := by decide +kernel
theorem dX9_errorPosition_2 : decode cX9_errorPosition 2 = .ok (.putfield 41, 3) := by decide +kernel
theorem dX9_errorPosition_5 : decode cX9_errorPosition 5 = .ok (.aload_n 0, 1) := by decide +kernel
theorem dX9_errorPosition_6 : decode cX9_errorPosition 6 = .ok (.getfield 23, 3) := by decide +kernel
theorem dX9_errorPosition_9 : decode cX9_errorPosition 9 = .ok (.ireturn, 1) := by decide +kernel
theorem dX9_isPupil_0 : decode cX9_isPupil 0 = .ok (.iload_n 1, 1) := by decide +kernel
theorem dX9_isPupil_1 : decode cX9_isPupil 1 = .ok (.iconst 0, 1) := by decide +kernel
theorem dX9_isPupil_2 : decode cX9_isPupil 2 = .ok (.aload_n 0, 1) := by decide +kernel
theorem dX9_isPupil_3 : decode cX9_isPupil 3 = .ok (.iconst 0, 1) := by decide +kernel
theorem dX9_isPupil_4 : decode cX9_isPupil 4 = .ok (.invokevirtual 50, 3) := by decide +kernel
theorem dX9_isPupil_7 : decode cX9_isPupil 7 = .ok (.iconst 1, 1) := by decide +kernel
theorem dX9_isPupil_8 : decode cX9_isPupil 8 = .ok (.isub, 1) := by decide +kernel
theorem dX9_isPupil_9 : decode cX9_isPupil 9 = .ok (.invokestatic 162, 3) := by decide +kernel
theorem dX9_isPupil_12 : decode cX9_isPupil 12 = .ok (.ireturn, 1) := by decide +kernel
theorem dX9_allDetained_0 : decode cX9_allDetained 0 = .ok (.iconst 0, 1) := by decide +kernel
theorem dX9_allDetained_1 : decode cX9_allDetained 1 = .ok (.istore_n 1, 1) := by decide +kernel
theorem dX9_allDetained_2 : decode cX9_allDetained 2 = .ok (.iconst 0, 1) := by decide +kernel
theorem dX9_allDetained_3 : decode cX9_allDetained 3 = .ok (.istore_n 2, 1) := by decide +kernel
theorem dX9_allDetained_4 : decode cX9_allDetained 4 = .ok (.iload_n 2, 1) := by decide +kernel
theorem dX9_allDetained_5 : decode cX9_allDetained 5 = .ok (.aload_n 0, 1) := by decide +kernel
theorem dX9_allDetained_6 : decode cX9_allDetained 6 = .ok (.iconst 0, 1) := by decide +kernel
theorem dX9_allDetained_7 : decode cX9_allDetained 7 = .ok (.invokevirtual 50, 3) := by decide +kernel
theorem dX9_allDetained_10 : decode cX9_allDetained 10 = .ok (.if_icmp .ge 20, 3) := by decide +kernel
theorem dX9_allDetained_13 : decode cX9_allDetained 13 = .ok (.iload_n 1, 1) := by decide +kernel
theorem dX9_allDetained_14 : decode cX9_allDetained 14 = .ok (.aload_n 0, 1) := by decide +kernel
theorem dX9_allDetained_15 : decode cX9_allDetained 15 = .ok (.iload_n 2, 1) := by decide +kernel
theorem dX9_allDetained_16 : decode cX9_allDetained 16 = .ok (.invokevirtual 99, 3) := by decide +kernel
theorem dX9_allDetained_19 : decode cX9_allDetained 19 = .ok (.invokestatic 110, 3) := by decide +kernel
theorem dX9_allDetained_22 : decode cX9_allDetained 22 = .ok (.iadd, 1) := by decide +kernel
theorem dX9_allDetained_23 : decode cX9_allDetained 23 = .ok (.istore_n 1, 1) := by decide +kernel
theorem dX9_allDetained_24 : decode cX9_allDetained 24 = .ok (.iinc 2 1, 3) := by decide +kernel
theorem dX9_allDetained_27 : decode cX9_allDetained 27 = .ok (.goto (-23), 3) := by decide +kernel
theorem dX9_allDetained_30 : decode cX9_allDetained 30 = .ok (.iload_n 1, 1) := by decide +kernel
theorem dX9_allDetained_31 : decode cX9_allDetained 31 = .ok (.ireturn, 1) := by decide +kernel
theorem dX9_count_0 : decode cX9_count 0 = .ok (.aload_n 0, 1) := by decide +kernel
theorem dX9_count_1 : decode cX9_count 1 = .ok (.iconst 0, 1) := by decide +kernel
theorem dX9_count_2 : decode cX9_count 2 = .ok (.putfield 41, 3) := by decide +kernel
theorem dX9_count_5 : decode cX9_count 5 = .ok (.aload_n 0, 1) := by decide +kernel
theorem dX9_count_6 : decode cX9_count 6 = .ok (.iload_n 1, 1) := by decide +kernel
theorem dX9_count_7 : decode cX9_count 7 = .ok (.iconst 0, 1) := by decide +kernel
theorem dX9_count_8 : decode cX9_count 8 = .ok (.bipush 12, 2) := by decide +kernel
theorem dX9_count_10 : decode cX9_count 10 = .ok (.invokestatic 162, 3) := by decide +kernel
theorem dX9_count_13 : decode cX9_count 13 = .ok (.iconst 1, 1) := by decide +kernel
theorem dX9_count_14 : decode cX9_count 14 = .ok (.invokevirtual 158, 3) := by decide +kernel
theorem dX9_count_17 : decode cX9_count 17 = .ok (.ifCond .ne 5, 3) := by decide +kernel
theorem dX9_count_20 : decode cX9_count 20 = .ok (.iconst 0, 1) := by decide +kernel
theorem dX9_count_21 : decode cX9_count 21 = .ok (.ireturn, 1) := by decide +kernel
theorem dX9_count_22 : decode cX9_count 22 = .ok (.iload_n 1, 1) := by decide +kernel
theorem dX9_count_23 : decode cX9_count 23 = .ok (.tableswitch 78 6 12 #[41, 41, 50, 57, 62, 67, 73], 41) := by decide +kernel
theorem dX9_count_64 : decode cX9_count 64 = .ok (.aload_n 0, 1) := by decide +kernel
theorem dX9_count_65 : decode cX9_count 65 = .ok (.iload_n 1, 1) := by decide +kernel
theorem dX9_count_66 : decode cX9_count 66 = .ok (.bipush 6, 2) := by decide +kernel
theorem dX9_count_68 : decode cX9_count 68 = .ok (.isub, 1) := by decide +kernel
theorem dX9_count_69 : decode cX9_count 69 = .ok (.invokevirtual 288, 3) := by decide +kernel
theorem dX9_count_72 : decode cX9_count 72 = .ok (.ireturn, 1) := by decide +kernel
theorem dX9_count_73 : decode cX9_count 73 = .ok (.aload_n 0, 1) := by decide +kernel
theorem dX9_count_74 : decode cX9_count 74 = .ok (.bipush 6, 2) := by decide +kernel
theorem dX9_count_76 : decode cX9_count 76 = .ok (.invokevirtual 50, 3) := by decide +kernel
theorem dX9_count_79 : decode cX9_count 79 = .ok (.ireturn, 1) := by decide +kernel
theorem dX9_count_80 : decode cX9_count 80 = .ok (.aload_n 0, 1) := by decide +kernel
theorem dX9_count_81 : decode cX9_count 81 = .ok (.invokevirtual 291, 3) := by decide +kernel
theorem dX9_count_84 : decode cX9_count 84 = .ok (.ireturn, 1) := by decide +kernel
theorem dX9_count_85 : decode cX9_count 85 = .ok (.aload_n 0, 1) := by decide +kernel
theorem dX9_count_86 : decode cX9_count 86 = .ok (.invokevirtual 294, 3) := by decide +kernel
theorem dX9_count_89 : decode cX9_count 89 = .ok (.ireturn, 1) := by decide +kernel
theorem dX9_count_90 : decode cX9_count 90 = .ok (.aload_n 0, 1) := by decide +kernel
theorem dX9_count_91 : decode cX9_count 91 = .ok (.iconst 4, 1) := by decide +kernel
theorem dX9_count_92 : decode cX9_count 92 = .ok (.invokevirtual 81, 3) := by decide +kernel
theorem dX9_count_95 : decode cX9_count 95 = .ok (.ireturn, 1) := by decide +kernel
theorem dX9_count_96 : decode cX9_count 96 = .ok (.aload_n 0, 1) := by decide +kernel
theorem dX9_count_97 : decode cX9_count 97 = .ok (.getfield 234, 3) := by decide +kernel
theorem dX9_count_100 : decode cX9_count 100 = .ok (.ireturn, 1) := by decide +kernel
theorem dX9_count_101 : decode cX9_count 101 = .ok (.aload_n 0, 1) := by decide +kernel
theorem dX9_count_102 : decode cX9_count 102 = .ok (.iload_n 1, 1) := by decide +kernel
theorem dX9_count_103 : decode cX9_count 103 = .ok (.invokevirtual 50, 3) := by decide +kernel
theorem dX9_count_106 : decode cX9_count 106 = .ok (.ireturn, 1) := by decide +kernel
theorem dX9_tally_0 : decode cX9_tally 0 = .ok (.aload_n 0, 1) := by decide +kernel
theorem dX9_tally_1 : decode cX9_tally 1 = .ok (.iconst 0, 1) := by decide +kernel
theorem dX9_tally_2 : decode cX9_tally 2 = .ok (.putfield 41, 3) := by decide +kernel
theorem dX9_tally_5 : decode cX9_tally 5 = .ok (.aload_n 0, 1) := by decide +kernel
theorem dX9_tally_6 : decode cX9_tally 6 = .ok (.iload_n 1, 1) := by decide +kernel
theorem dX9_tally_7 : decode cX9_tally 7 = .ok (.iconst 0, 1) := by decide +kernel
theorem dX9_tally_8 : decode cX9_tally 8 = .ok (.bipush 9, 2) := by decide +kernel
theorem dX9_tally_10 : decode cX9_tally 10 = .ok (.invokestatic 162, 3) := by decide +kernel
theorem dX9_tally_13 : decode cX9_tally 13 = .ok (.iconst 1, 1) := by decide +kernel
theorem dX9_tally_14 : decode cX9_tally 14 = .ok (.invokevirtual 158, 3) := by decide +kernel
theorem dX9_tally_17 : decode cX9_tally 17 = .ok (.ifCond .eq 14, 3) := by decide +kernel
theorem dX9_tally_20 : decode cX9_tally 20 = .ok (.aload_n 0, 1) := by decide +kernel
theorem dX9_tally_21 : decode cX9_tally 21 = .ok (.bipush 7, 2) := by decide +kernel
theorem dX9_tally_23 : decode cX9_tally 23 = .ok (.iload_n 1, 1) := by decide +kernel
theorem dX9_tally_24 : decode cX9_tally 24 = .ok (.iadd, 1) := by decide +kernel
theorem dX9_tally_25 : decode cX9_tally 25 = .ok (.invokevirtual 50, 3) := by decide +kernel
theorem dX9_tally_28 : decode cX9_tally 28 = .ok (.goto 4, 3) := by decide +kernel
theorem dX9_tally_31 : decode cX9_tally 31 = .ok (.iconst 0, 1) := by decide +kernel
theorem dX9_tally_32 : decode cX9_tally 32 = .ok (.ireturn, 1) := by decide +kernel
theorem dX9_bits_0 : decode cX9_bits 0 = .ok (.iconst 0, 1) := by decide +kernel
theorem dX9_bits_1 : decode cX9_bits 1 = .ok (.istore_n 1, 1) := by decide +kernel
theorem dX9_bits_2 : decode cX9_bits 2 = .ok (.iconst 0, 1) := by decide +kernel
theorem dX9_bits_3 : decode cX9_bits 3 = .ok (.istore_n 2, 1) := by decide +kernel
theorem dX9_bits_4 : decode cX9_bits 4 = .ok (.iload_n 2, 1) := by decide +kernel
theorem dX9_bits_5 : decode cX9_bits 5 = .ok (.bipush 12, 2) := by decide +kernel
theorem dX9_bits_7 : decode cX9_bits 7 = .ok (.if_icmp .ge 17, 3) := by decide +kernel
theorem dX9_bits_10 : decode cX9_bits 10 = .ok (.iload_n 1, 1) := by decide +kernel
theorem dX9_bits_11 : decode cX9_bits 11 = .ok (.iload_n 0, 1) := by decide +kernel
theorem dX9_bits_12 : decode cX9_bits 12 = .ok (.iload_n 2, 1) := by decide +kernel
theorem dX9_bits_13 : decode cX9_bits 13 = .ok (.ishr, 1) := by decide +kernel
theorem dX9_bits_14 : decode cX9_bits 14 = .ok (.iconst 1, 1) := by decide +kernel
theorem dX9_bits_15 : decode cX9_bits 15 = .ok (.iand, 1) := by decide +kernel
theorem dX9_bits_16 : decode cX9_bits 16 = .ok (.iadd, 1) := by decide +kernel
theorem dX9_bits_17 : decode cX9_bits 17 = .ok (.istore_n 1, 1) := by decide +kernel
theorem dX9_bits_18 : decode cX9_bits 18 = .ok (.iinc 2 1, 3) := by decide +kernel
theorem dX9_bits_21 : decode cX9_bits 21 = .ok (.goto (-17), 3) := by decide +kernel
theorem dX9_bits_24 : decode cX9_bits 24 = .ok (.iload_n 1, 1) := by decide +kernel
theorem dX9_bits_25 : decode cX9_bits 25 = .ok (.ireturn, 1) := by decide +kernel
theorem dX9_pupil_0 : decode cX9_pupil 0 = .ok (.aload_n 0, 1) := by decide +kernel
theorem dX9_pupil_1 : decode cX9_pupil 1 = .ok (.iconst 0, 1) := by decide +kernel
theorem dX9_pupil_2 : decode cX9_pupil 2 = .ok (.putfield 41, 3) := by decide +kernel
theorem dX9_pupil_5 : decode cX9_pupil 5 = .ok (.aload_n 0, 1) := by decide +kernel
theorem dX9_pupil_6 : decode cX9_pupil 6 = .ok (.aload_n 0, 1) := by decide +kernel
theorem dX9_pupil_7 : decode cX9_pupil 7 = .ok (.iload_n 1, 1) := by decide +kernel
theorem dX9_pupil_8 : decode cX9_pupil 8 = .ok (.invokevirtual 297, 3) := by decide +kernel
theorem dX9_pupil_11 : decode cX9_pupil 11 = .ok (.iconst 1, 1) := by decide +kernel
theorem dX9_pupil_12 : decode cX9_pupil 12 = .ok (.invokevirtual 158, 3) := by decide +kernel
theorem dX9_pupil_15 : decode cX9_pupil 15 = .ok (.ifCond .eq 18, 3) := by decide +kernel
theorem dX9_pupil_18 : decode cX9_pupil 18 = .ok (.aload_n 0, 1) := by decide +kernel
theorem dX9_pupil_19 : decode cX9_pupil 19 = .ok (.iload_n 2, 1) := by decide +kernel
theorem dX9_pupil_20 : decode cX9_pupil 20 = .ok (.iconst 0, 1) := by decide +kernel
theorem dX9_pupil_21 : decode cX9_pupil 21 = .ok (.bipush 13, 2) := by decide +kernel
theorem dX9_pupil_23 : decode cX9_pupil 23 = .ok (.invokestatic 162, 3) := by decide +kernel
theorem dX9_pupil_26 : decode cX9_pupil 26 = .ok (.iconst 2, 1) := by decide +kernel
theorem dX9_pupil_27 : decode cX9_pupil 27 = .ok (.invokevirtual 158, 3) := by decide +kernel
theorem dX9_pupil_30 : decode cX9_pupil 30 = .ok (.ifCond .ne 5, 3) := by decide +kernel
theorem dX9_pupil_33 : decode cX9_pupil 33 = .ok (.iconst 0, 1) := by decide +kernel
theorem dX9_pupil_34 : decode cX9_pupil 34 = .ok (.ireturn, 1) := by decide +kernel
theorem dX9_pupil_35 : decode cX9_pupil 35 = .ok (.iload_n 2, 1) := by decide +kernel
theorem dX9_pupil_36 : decode cX9_pupil 36 = .ok (.tableswitch 71 9 13 #[36, 36, 46, 53, 60], 36) := by decide +kernel
theorem dX9_pupil_72 : decode cX9_pupil 72 = .ok (.aload_n 0, 1) := by decide +kernel
theorem dX9_pupil_73 : decode cX9_pupil 73 = .ok (.iload_n 1, 1) := by decide +kernel
theorem dX9_pupil_74 : decode cX9_pupil 74 = .ok (.iload_n 2, 1) := by decide +kernel
theorem dX9_pupil_75 : decode cX9_pupil 75 = .ok (.bipush 9, 2) := by decide +kernel
theorem dX9_pupil_77 : decode cX9_pupil 77 = .ok (.isub, 1) := by decide +kernel
theorem dX9_pupil_78 : decode cX9_pupil 78 = .ok (.invokevirtual 65, 3) := by decide +kernel
theorem dX9_pupil_81 : decode cX9_pupil 81 = .ok (.ireturn, 1) := by decide +kernel
theorem dX9_pupil_82 : decode cX9_pupil 82 = .ok (.aload_n 0, 1) := by decide +kernel
theorem dX9_pupil_83 : decode cX9_pupil 83 = .ok (.iload_n 1, 1) := by decide +kernel
theorem dX9_pupil_84 : decode cX9_pupil 84 = .ok (.iconst 0, 1) := by decide +kernel
theorem dX9_pupil_85 : decode cX9_pupil 85 = .ok (.invokevirtual 300, 3) := by decide +kernel
theorem dX9_pupil_88 : decode cX9_pupil 88 = .ok (.ireturn, 1) := by decide +kernel
theorem dX9_pupil_89 : decode cX9_pupil 89 = .ok (.aload_n 0, 1) := by decide +kernel
theorem dX9_pupil_90 : decode cX9_pupil 90 = .ok (.iload_n 1, 1) := by decide +kernel
theorem dX9_pupil_91 : decode cX9_pupil 91 = .ok (.iconst 1, 1) := by decide +kernel
theorem dX9_pupil_92 : decode cX9_pupil 92 = .ok (.invokevirtual 300, 3) := by decide +kernel
theorem dX9_pupil_95 : decode cX9_pupil 95 = .ok (.ireturn, 1) := by decide +kernel
theorem dX9_pupil_96 : decode cX9_pupil 96 = .ok (.aload_n 0, 1) := by decide +kernel
theorem dX9_pupil_97 : decode cX9_pupil 97 = .ok (.iload_n 1, 1) := by decide +kernel
theorem dX9_pupil_98 : decode cX9_pupil 98 = .ok (.bipush 9, 2) := by decide +kernel
theorem dX9_pupil_100 : decode cX9_pupil 100 = .ok (.invokevirtual 54, 3) := by decide +kernel
theorem dX9_pupil_103 : decode cX9_pupil 103 = .ok (.invokestatic 303, 3) := by decide +kernel
theorem dX9_pupil_106 : decode cX9_pupil 106 = .ok (.ireturn, 1) := by decide +kernel
theorem dX9_pupil_107 : decode cX9_pupil 107 = .ok (.aload_n 0, 1) := by decide +kernel
theorem dX9_pupil_108 : decode cX9_pupil 108 = .ok (.iload_n 1, 1) := by decide +kernel
theorem dX9_pupil_109 : decode cX9_pupil 109 = .ok (.iload_n 2, 1) := by decide +kernel
theorem dX9_pupil_110 : decode cX9_pupil 110 = .ok (.invokevirtual 54, 3) := by decide +kernel
theorem dX9_pupil_113 : decode cX9_pupil 113 = .ok (.ireturn, 1) := by decide +kernel
theorem dX9_piece_0 : decode cX9_piece 0 = .ok (.aload_n 0, 1) := by decide +kernel
theorem dX9_piece_1 : decode cX9_piece 1 = .ok (.iconst 0, 1) := by decide +kernel
theorem dX9_piece_2 : decode cX9_piece 2 = .ok (.putfield 41, 3) := by decide +kernel
theorem dX9_piece_5 : decode cX9_piece 5 = .ok (.aload_n 0, 1) := by decide +kernel
theorem dX9_piece_6 : decode cX9_piece 6 = .ok (.aload_n 0, 1) := by decide +kernel
theorem dX9_piece_7 : decode cX9_piece 7 = .ok (.iload_n 1, 1) := by decide +kernel
theorem dX9_piece_8 : decode cX9_piece 8 = .ok (.invokevirtual 297, 3) := by decide +kernel
theorem dX9_piece_11 : decode cX9_piece 11 = .ok (.iconst 1, 1) := by decide +kernel
theorem dX9_piece_12 : decode cX9_piece 12 = .ok (.invokevirtual 158, 3) := by decide +kernel
theorem dX9_piece_15 : decode cX9_piece 15 = .ok (.ifCond .eq 17, 3) := by decide +kernel
theorem dX9_piece_18 : decode cX9_piece 18 = .ok (.aload_n 0, 1) := by decide +kernel
theorem dX9_piece_19 : decode cX9_piece 19 = .ok (.iload_n 2, 1) := by decide +kernel
theorem dX9_piece_20 : decode cX9_piece 20 = .ok (.iconst 0, 1) := by decide +kernel
theorem dX9_piece_21 : decode cX9_piece 21 = .ok (.iconst 1, 1) := by decide +kernel
theorem dX9_piece_22 : decode cX9_piece 22 = .ok (.invokestatic 162, 3) := by decide +kernel
theorem dX9_piece_25 : decode cX9_piece 25 = .ok (.iconst 2, 1) := by decide +kernel
theorem dX9_piece_26 : decode cX9_piece 26 = .ok (.invokevirtual 158, 3) := by decide +kernel
theorem dX9_piece_29 : decode cX9_piece 29 = .ok (.ifCond .ne 5, 3) := by decide +kernel
theorem dX9_piece_32 : decode cX9_piece 32 = .ok (.iconst 0, 1) := by decide +kernel
theorem dX9_piece_33 : decode cX9_piece 33 = .ok (.ireturn, 1) := by decide +kernel
theorem dX9_piece_34 : decode cX9_piece 34 = .ok (.iload_n 3, 1) := by decide +kernel
theorem dX9_piece_35 : decode cX9_piece 35 = .ok (.iconst 0, 1) := by decide +kernel
theorem dX9_piece_36 : decode cX9_piece 36 = .ok (.aload_n 0, 1) := by decide +kernel
theorem dX9_piece_37 : decode cX9_piece 37 = .ok (.iload_n 1, 1) := by decide +kernel
theorem dX9_piece_38 : decode cX9_piece 38 = .ok (.iload_n 2, 1) := by decide +kernel
theorem dX9_piece_39 : decode cX9_piece 39 = .ok (.invokevirtual 65, 3) := by decide +kernel
theorem dX9_piece_42 : decode cX9_piece 42 = .ok (.iconst 1, 1) := by decide +kernel
theorem dX9_piece_43 : decode cX9_piece 43 = .ok (.isub, 1) := by decide +kernel
theorem dX9_piece_44 : decode cX9_piece 44 = .ok (.invokestatic 162, 3) := by decide +kernel
theorem dX9_piece_47 : decode cX9_piece 47 = .ok (.ifCond .eq 13, 3) := by decide +kernel
theorem dX9_piece_50 : decode cX9_piece 50 = .ok (.aload_n 0, 1) := by decide +kernel
theorem dX9_piece_51 : decode cX9_piece 51 = .ok (.iload_n 1, 1) := by decide +kernel
theorem dX9_piece_52 : decode cX9_piece 52 = .ok (.iload_n 2, 1) := by decide +kernel
theorem dX9_piece_53 : decode cX9_piece 53 = .ok (.iload_n 3, 1) := by decide +kernel
theorem dX9_piece_54 : decode cX9_piece 54 = .ok (.invokevirtual 71, 3) := by decide +kernel
theorem dX9_piece_57 : decode cX9_piece 57 = .ok (.goto 4, 3) := by decide +kernel
theorem dX9_piece_60 : decode cX9_piece 60 = .ok (.iconst (-1), 1) := by decide +kernel
theorem dX9_piece_61 : decode cX9_piece 61 = .ok (.ireturn, 1) := by decide +kernel
theorem dX9_madeBy_0 : decode cX9_madeBy 0 = .ok (.aload_n 0, 1) := by decide +kernel
theorem dX9_madeBy_1 : decode cX9_madeBy 1 = .ok (.iconst 0, 1) := by decide +kernel
theorem dX9_madeBy_2 : decode cX9_madeBy 2 = .ok (.putfield 41, 3) := by decide +kernel
theorem dX9_madeBy_5 : decode cX9_madeBy 5 = .ok (.aload_n 0, 1) := by decide +kernel
theorem dX9_madeBy_6 : decode cX9_madeBy 6 = .ok (.aload_n 0, 1) := by decide +kernel
theorem dX9_madeBy_7 : decode cX9_madeBy 7 = .ok (.iload_n 1, 1) := by decide +kernel
theorem dX9_madeBy_8 : decode cX9_madeBy 8 = .ok (.invokevirtual 297, 3) := by decide +kernel
theorem dX9_madeBy_11 : decode cX9_madeBy 11 = .ok (.ifCond .eq 15, 3) := by decide +kernel
theorem dX9_madeBy_14 : decode cX9_madeBy 14 = .ok (.aload_n 0, 1) := by decide +kernel
theorem dX9_madeBy_15 : decode cX9_madeBy 15 = .ok (.iload_n 3, 1) := by decide +kernel
theorem dX9_madeBy_16 : decode cX9_madeBy 16 = .ok (.invokevirtual 297, 3) := by decide +kernel
theorem dX9_madeBy_19 : decode cX9_madeBy 19 = .ok (.ifCond .eq 7, 3) := by decide +kernel
theorem dX9_madeBy_22 : decode cX9_madeBy 22 = .ok (.iconst 1, 1) := by decide +kernel
theorem dX9_madeBy_23 : decode cX9_madeBy 23 = .ok (.goto 4, 3) := by decide +kernel
theorem dX9_madeBy_26 : decode cX9_madeBy 26 = .ok (.iconst 0, 1) := by decide +kernel
theorem dX9_madeBy_27 : decode cX9_madeBy 27 = .ok (.iconst 1, 1) := by decide +kernel
theorem dX9_madeBy_28 : decode cX9_madeBy 28 = .ok (.invokevirtual 158, 3) := by decide +kernel
theorem dX9_madeBy_31 : decode cX9_madeBy 31 = .ok (.ifCond .eq 33, 3) := by decide +kernel
theorem dX9_madeBy_34 : decode cX9_madeBy 34 = .ok (.aload_n 0, 1) := by decide +kernel
theorem dX9_madeBy_35 : decode cX9_madeBy 35 = .ok (.iload_n 2, 1) := by decide +kernel
theorem dX9_madeBy_36 : decode cX9_madeBy 36 = .ok (.iconst 0, 1) := by decide +kernel
theorem dX9_madeBy_37 : decode cX9_madeBy 37 = .ok (.iconst 1, 1) := by decide +kernel
theorem dX9_madeBy_38 : decode cX9_madeBy 38 = .ok (.invokestatic 162, 3) := by decide +kernel
theorem dX9_madeBy_41 : decode cX9_madeBy 41 = .ok (.iconst 2, 1) := by decide +kernel
theorem dX9_madeBy_42 : decode cX9_madeBy 42 = .ok (.invokevirtual 158, 3) := by decide +kernel
theorem dX9_madeBy_45 : decode cX9_madeBy 45 = .ok (.ifCond .eq 19, 3) := by decide +kernel
theorem dX9_madeBy_48 : decode cX9_madeBy 48 = .ok (.aload_n 0, 1) := by decide +kernel
theorem dX9_madeBy_49 : decode cX9_madeBy 49 = .ok (.iload_n 1, 1) := by decide +kernel
theorem dX9_madeBy_50 : decode cX9_madeBy 50 = .ok (.iload_n 2, 1) := by decide +kernel
theorem dX9_madeBy_51 : decode cX9_madeBy 51 = .ok (.iload_n 3, 1) := by decide +kernel
theorem dX9_madeBy_52 : decode cX9_madeBy 52 = .ok (.aload_n 0, 1) := by decide +kernel
theorem dX9_madeBy_53 : decode cX9_madeBy 53 = .ok (.iload_n 1, 1) := by decide +kernel
theorem dX9_madeBy_54 : decode cX9_madeBy 54 = .ok (.iload_n 2, 1) := by decide +kernel
theorem dX9_madeBy_55 : decode cX9_madeBy 55 = .ok (.invokevirtual 65, 3) := by decide +kernel
theorem dX9_madeBy_58 : decode cX9_madeBy 58 = .ok (.invokevirtual 126, 3) := by decide +kernel
theorem dX9_madeBy_61 : decode cX9_madeBy 61 = .ok (.goto 4, 3) := by decide +kernel
theorem dX9_madeBy_64 : decode cX9_madeBy 64 = .ok (.iconst 0, 1) := by decide +kernel
theorem dX9_madeBy_65 : decode cX9_madeBy 65 = .ok (.ireturn, 1) := by decide +kernel
theorem dX9_debt_0 : decode cX9_debt 0 = .ok (.aload_n 0, 1) := by decide +kernel
theorem dX9_debt_1 : decode cX9_debt 1 = .ok (.iconst 0, 1) := by decide +kernel
theorem dX9_debt_2 : decode cX9_debt 2 = .ok (.putfield 41, 3) := by decide +kernel
theorem dX9_debt_5 : decode cX9_debt 5 = .ok (.aload_n 0, 1) := by decide +kernel
theorem dX9_debt_6 : decode cX9_debt 6 = .ok (.iload_n 1, 1) := by decide +kernel
theorem dX9_debt_7 : decode cX9_debt 7 = .ok (.iconst 0, 1) := by decide +kernel
theorem dX9_debt_8 : decode cX9_debt 8 = .ok (.aload_n 0, 1) := by decide +kernel
theorem dX9_debt_9 : decode cX9_debt 9 = .ok (.bipush 6, 2) := by decide +kernel
theorem dX9_debt_11 : decode cX9_debt 11 = .ok (.invokevirtual 50, 3) := by decide +kernel
theorem dX9_debt_14 : decode cX9_debt 14 = .ok (.iconst 1, 1) := by decide +kernel
theorem dX9_debt_15 : decode cX9_debt 15 = .ok (.isub, 1) := by decide +kernel
theorem dX9_debt_16 : decode cX9_debt 16 = .ok (.invokestatic 162, 3) := by decide +kernel
theorem dX9_debt_19 : decode cX9_debt 19 = .ok (.iconst 1, 1) := by decide +kernel
theorem dX9_debt_20 : decode cX9_debt 20 = .ok (.invokevirtual 158, 3) := by decide +kernel
theorem dX9_debt_23 : decode cX9_debt 23 = .ok (.ifCond .eq 26, 3) := by decide +kernel
theorem dX9_debt_26 : decode cX9_debt 26 = .ok (.aload_n 0, 1) := by decide +kernel
theorem dX9_debt_27 : decode cX9_debt 27 = .ok (.iload_n 2, 1) := by decide +kernel
theorem dX9_debt_28 : decode cX9_debt 28 = .ok (.iconst 0, 1) := by decide +kernel
theorem dX9_debt_29 : decode cX9_debt 29 = .ok (.iconst 3, 1) := by decide +kernel
theorem dX9_debt_30 : decode cX9_debt 30 = .ok (.invokestatic 162, 3) := by decide +kernel
theorem dX9_debt_33 : decode cX9_debt 33 = .ok (.iconst 2, 1) := by decide +kernel
theorem dX9_debt_34 : decode cX9_debt 34 = .ok (.invokevirtual 158, 3) := by decide +kernel
theorem dX9_debt_37 : decode cX9_debt 37 = .ok (.ifCond .eq 12, 3) := by decide +kernel
theorem dX9_debt_40 : decode cX9_debt 40 = .ok (.aload_n 0, 1) := by decide +kernel
theorem dX9_debt_41 : decode cX9_debt 41 = .ok (.iload_n 1, 1) := by decide +kernel
theorem dX9_debt_42 : decode cX9_debt 42 = .ok (.iload_n 2, 1) := by decide +kernel
theorem dX9_debt_43 : decode cX9_debt 43 = .ok (.invokevirtual 84, 3) := by decide +kernel
theorem dX9_debt_46 : decode cX9_debt 46 = .ok (.goto 4, 3) := by decide +kernel
theorem dX9_debt_49 : decode cX9_debt 49 = .ok (.iconst 0, 1) := by decide +kernel
theorem dX9_debt_50 : decode cX9_debt 50 = .ok (.ireturn, 1) := by decide +kernel
theorem dX9_owes_0 : decode cX9_owes 0 = .ok (.aload_n 0, 1) := by decide +kernel
theorem dX9_owes_1 : decode cX9_owes 1 = .ok (.iconst 0, 1) := by decide +kernel
theorem dX9_owes_2 : decode cX9_owes 2 = .ok (.putfield 41, 3) := by decide +kernel
theorem dX9_owes_5 : decode cX9_owes 5 = .ok (.aload_n 0, 1) := by decide +kernel
theorem dX9_owes_6 : decode cX9_owes 6 = .ok (.aload_n 0, 1) := by decide +kernel
theorem dX9_owes_7 : decode cX9_owes 7 = .ok (.iload_n 1, 1) := by decide +kernel
theorem dX9_owes_8 : decode cX9_owes 8 = .ok (.invokevirtual 297, 3) := by decide +kernel
theorem dX9_owes_11 : decode cX9_owes 11 = .ok (.ifCond .eq 15, 3) := by decide +kernel
theorem dX9_owes_14 : decode cX9_owes 14 = .ok (.aload_n 0, 1) := by decide +kernel
theorem dX9_owes_15 : decode cX9_owes 15 = .ok (.iload_n 2, 1) := by decide +kernel
theorem dX9_owes_16 : decode cX9_owes 16 = .ok (.invokevirtual 297, 3) := by decide +kernel
theorem dX9_owes_19 : decode cX9_owes 19 = .ok (.ifCond .eq 7, 3) := by decide +kernel
theorem dX9_owes_22 : decode cX9_owes 22 = .ok (.iconst 1, 1) := by decide +kernel
theorem dX9_owes_23 : decode cX9_owes 23 = .ok (.goto 4, 3) := by decide +kernel
theorem dX9_owes_26 : decode cX9_owes 26 = .ok (.iconst 0, 1) := by decide +kernel
theorem dX9_owes_27 : decode cX9_owes 27 = .ok (.iconst 1, 1) := by decide +kernel
theorem dX9_owes_28 : decode cX9_owes 28 = .ok (.invokevirtual 158, 3) := by decide +kernel
theorem dX9_owes_31 : decode cX9_owes 31 = .ok (.ifCond .eq 27, 3) := by decide +kernel
theorem dX9_owes_34 : decode cX9_owes 34 = .ok (.aload_n 0, 1) := by decide +kernel
theorem dX9_owes_35 : decode cX9_owes 35 = .ok (.iload_n 3, 1) := by decide +kernel
theorem dX9_owes_36 : decode cX9_owes 36 = .ok (.iconst 0, 1) := by decide +kernel
theorem dX9_owes_37 : decode cX9_owes 37 = .ok (.iconst 1, 1) := by decide +kernel
theorem dX9_owes_38 : decode cX9_owes 38 = .ok (.invokestatic 162, 3) := by decide +kernel
theorem dX9_owes_41 : decode cX9_owes 41 = .ok (.iconst 2, 1) := by decide +kernel
theorem dX9_owes_42 : decode cX9_owes 42 = .ok (.invokevirtual 158, 3) := by decide +kernel
theorem dX9_owes_45 : decode cX9_owes 45 = .ok (.ifCond .eq 13, 3) := by decide +kernel
theorem dX9_owes_48 : decode cX9_owes 48 = .ok (.aload_n 0, 1) := by decide +kernel
theorem dX9_owes_49 : decode cX9_owes 49 = .ok (.iload_n 1, 1) := by decide +kernel
theorem dX9_owes_50 : decode cX9_owes 50 = .ok (.iload_n 2, 1) := by decide +kernel
theorem dX9_owes_51 : decode cX9_owes 51 = .ok (.iload_n 3, 1) := by decide +kernel
theorem dX9_owes_52 : decode cX9_owes 52 = .ok (.invokevirtual 306, 3) := by decide +kernel
theorem dX9_owes_55 : decode cX9_owes 55 = .ok (.goto 4, 3) := by decide +kernel
theorem dX9_owes_58 : decode cX9_owes 58 = .ok (.iconst 0, 1) := by decide +kernel
theorem dX9_owes_59 : decode cX9_owes 59 = .ok (.ireturn, 1) := by decide +kernel
theorem dX9_isNear_0 : decode cX9_isNear 0 = .ok (.aload_n 0, 1) := by decide +kernel
theorem dX9_isNear_1 : decode cX9_isNear 1 = .ok (.iconst 0, 1) := by decide +kernel
theorem dX9_isNear_2 : decode cX9_isNear 2 = .ok (.putfield 41, 3) := by decide +kernel
theorem dX9_isNear_5 : decode cX9_isNear 5 = .ok (.aload_n 0, 1) := by decide +kernel
theorem dX9_isNear_6 : decode cX9_isNear 6 = .ok (.aload_n 0, 1) := by decide +kernel
theorem dX9_isNear_7 : decode cX9_isNear 7 = .ok (.iload_n 1, 1) := by decide +kernel
theorem dX9_isNear_8 : decode cX9_isNear 8 = .ok (.invokevirtual 297, 3) := by decide +kernel
theorem dX9_isNear_11 : decode cX9_isNear 11 = .ok (.ifCond .eq 15, 3) := by decide +kernel
theorem dX9_isNear_14 : decode cX9_isNear 14 = .ok (.aload_n 0, 1) := by decide +kernel
theorem dX9_isNear_15 : decode cX9_isNear 15 = .ok (.iload_n 2, 1) := by decide +kernel
theorem dX9_isNear_16 : decode cX9_isNear 16 = .ok (.invokevirtual 297, 3) := by decide +kernel
theorem dX9_isNear_19 : decode cX9_isNear 19 = .ok (.ifCond .eq 7, 3) := by decide +kernel
theorem dX9_isNear_22 : decode cX9_isNear 22 = .ok (.iconst 1, 1) := by decide +kernel
theorem dX9_isNear_23 : decode cX9_isNear 23 = .ok (.goto 4, 3) := by decide +kernel
theorem dX9_isNear_26 : decode cX9_isNear 26 = .ok (.iconst 0, 1) := by decide +kernel
theorem dX9_isNear_27 : decode cX9_isNear 27 = .ok (.iconst 1, 1) := by decide +kernel
theorem dX9_isNear_28 : decode cX9_isNear 28 = .ok (.invokevirtual 158, 3) := by decide +kernel
theorem dX9_isNear_31 : decode cX9_isNear 31 = .ok (.ifCond .eq 16, 3) := by decide +kernel
theorem dX9_isNear_34 : decode cX9_isNear 34 = .ok (.aload_n 0, 1) := by decide +kernel
theorem dX9_isNear_35 : decode cX9_isNear 35 = .ok (.iload_n 1, 1) := by decide +kernel
theorem dX9_isNear_36 : decode cX9_isNear 36 = .ok (.iload_n 2, 1) := by decide +kernel
theorem dX9_isNear_37 : decode cX9_isNear 37 = .ok (.invokevirtual 103, 3) := by decide +kernel
theorem dX9_isNear_40 : decode cX9_isNear 40 = .ok (.ifCond .eq 7, 3) := by decide +kernel
theorem dX9_isNear_43 : decode cX9_isNear 43 = .ok (.iconst 1, 1) := by decide +kernel
theorem dX9_isNear_44 : decode cX9_isNear 44 = .ok (.goto 4, 3) := by decide +kernel
theorem dX9_isNear_47 : decode cX9_isNear 47 = .ok (.iconst 0, 1) := by decide +kernel
theorem dX9_isNear_48 : decode cX9_isNear 48 = .ok (.ireturn, 1) := by decide +kernel
theorem dX9_witness_0 : decode cX9_witness 0 = .ok (.aload_n 0, 1) := by decide +kernel
theorem dX9_witness_1 : decode cX9_witness 1 = .ok (.iconst 0, 1) := by decide +kernel
theorem dX9_witness_2 : decode cX9_witness 2 = .ok (.putfield 41, 3) := by decide +kernel
theorem dX9_witness_5 : decode cX9_witness 5 = .ok (.aload_n 0, 1) := by decide +kernel
theorem dX9_witness_6 : decode cX9_witness 6 = .ok (.aload_n 0, 1) := by decide +kernel
theorem dX9_witness_7 : decode cX9_witness 7 = .ok (.iload_n 1, 1) := by decide +kernel
theorem dX9_witness_8 : decode cX9_witness 8 = .ok (.invokevirtual 297, 3) := by decide +kernel
theorem dX9_witness_11 : decode cX9_witness 11 = .ok (.iconst 1, 1) := by decide +kernel
theorem dX9_witness_12 : decode cX9_witness 12 = .ok (.invokevirtual 158, 3) := by decide +kernel
theorem dX9_witness_15 : decode cX9_witness 15 = .ok (.ifCond .ne 5, 3) := by decide +kernel
theorem dX9_witness_18 : decode cX9_witness 18 = .ok (.iconst 0, 1) := by decide +kernel
theorem dX9_witness_19 : decode cX9_witness 19 = .ok (.ireturn, 1) := by decide +kernel
theorem dX9_witness_20 : decode cX9_witness 20 = .ok (.iload_n 2, 1) := by decide +kernel
theorem dX9_witness_21 : decode cX9_witness 21 = .ok (.istore_n 3, 1) := by decide +kernel
theorem dX9_witness_22 : decode cX9_witness 22 = .ok (.iconst 0, 1) := by decide +kernel
theorem dX9_witness_23 : decode cX9_witness 23 = .ok (.istore 4, 2) := by decide +kernel
theorem dX9_witness_25 : decode cX9_witness 25 = .ok (.iload 4, 2) := by decide +kernel
theorem dX9_witness_27 : decode cX9_witness 27 = .ok (.aload_n 0, 1) := by decide +kernel
theorem dX9_witness_28 : decode cX9_witness 28 = .ok (.iconst 0, 1) := by decide +kernel
theorem dX9_witness_29 : decode cX9_witness 29 = .ok (.invokevirtual 50, 3) := by decide +kernel
theorem dX9_witness_32 : decode cX9_witness 32 = .ok (.if_icmp .ge 37, 3) := by decide +kernel
theorem dX9_witness_35 : decode cX9_witness 35 = .ok (.aload_n 0, 1) := by decide +kernel
theorem dX9_witness_36 : decode cX9_witness 36 = .ok (.iload_n 1, 1) := by decide +kernel
theorem dX9_witness_37 : decode cX9_witness 37 = .ok (.bipush 9, 2) := by decide +kernel
theorem dX9_witness_39 : decode cX9_witness 39 = .ok (.invokevirtual 54, 3) := by decide +kernel
theorem dX9_witness_42 : decode cX9_witness 42 = .ok (.iload 4, 2) := by decide +kernel
theorem dX9_witness_44 : decode cX9_witness 44 = .ok (.ishr, 1) := by decide +kernel
