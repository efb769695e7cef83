theorem dX3_endWeek_125 : decode cX3_endWeek 125 = .ok (.iaload, 1) := by decide +kernel
theorem dX3_endWeek_126 : decode cX3_endWeek 126 = .ok (.aload_n 0, 1) := by decide +kernel
theorem dX3_endWeek_127 : decode cX3_endWeek 127 = .ok (.getfield 20, 3) := by decide +kernel
theorem dX3_endWeek_130 : decode cX3_endWeek 130 = .ok (.invokevirtual 234, 3) := by decide +kernel
theorem dX3_endWeek_133 : decode cX3_endWeek 133 = .ok (.iadd, 1) := by decide +kernel
theorem dX3_endWeek_134 : decode cX3_endWeek 134 = .ok (.iastore, 1) := by decide +kernel
theorem dX3_endWeek_135 : decode cX3_endWeek 135 = .ok (.aload_n 0, 1) := by decide +kernel
theorem dX3_endWeek_136 : decode cX3_endWeek 136 = .ok (.dup, 1) := by decide +kernel
theorem dX3_endWeek_137 : decode cX3_endWeek 137 = .ok (.getfield 48, 3) := by decide +kernel
theorem dX3_endWeek_140 : decode cX3_endWeek 140 = .ok (.iconst 1, 1) := by decide +kernel
theorem dX3_endWeek_141 : decode cX3_endWeek 141 = .ok (.iadd, 1) := by decide +kernel
theorem dX3_endWeek_142 : decode cX3_endWeek 142 = .ok (.putfield 48, 3) := by decide +kernel
theorem dX3_endWeek_145 : decode cX3_endWeek 145 = .ok (.iload_n 1, 1) := by decide +kernel
theorem dX3_endWeek_146 : decode cX3_endWeek 146 = .ok (.ireturn, 1) := by decide +kernel
theorem dX3_handIn_0 : decode cX3_handIn 0 = .ok (.aload_n 0, 1) := by decide +kernel
theorem dX3_handIn_1 : decode cX3_handIn 1 = .ok (.aload_n 1, 1) := by decide +kernel
theorem dX3_handIn_2 : decode cX3_handIn 2 = .ok (.iconst 0, 1) := by decide +kernel
theorem dX3_handIn_3 : decode cX3_handIn 3 = .ok (.invokevirtual 238, 3) := by decide +kernel
theorem dX3_handIn_6 : decode cX3_handIn 6 = .ok (.istore_n 2, 1) := by decide +kernel
theorem dX3_handIn_7 : decode cX3_handIn 7 = .ok (.aload_n 0, 1) := by decide +kernel
theorem dX3_handIn_8 : decode cX3_handIn 8 = .ok (.aload_n 1, 1) := by decide +kernel
theorem dX3_handIn_9 : decode cX3_handIn 9 = .ok (.iconst 1, 1) := by decide +kernel
theorem dX3_handIn_10 : decode cX3_handIn 10 = .ok (.invokevirtual 238, 3) := by decide +kernel
theorem dX3_handIn_13 : decode cX3_handIn 13 = .ok (.istore_n 3, 1) := by decide +kernel
theorem dX3_handIn_14 : decode cX3_handIn 14 = .ok (.aload_n 1, 1) := by decide +kernel
theorem dX3_handIn_15 : decode cX3_handIn 15 = .ok (.dup, 1) := by decide +kernel
theorem dX3_handIn_16 : decode cX3_handIn 16 = .ok (.getfield 145, 3) := by decide +kernel
theorem dX3_handIn_19 : decode cX3_handIn 19 = .ok (.aload_n 0, 1) := by decide +kernel
theorem dX3_handIn_20 : decode cX3_handIn 20 = .ok (.getfield 57, 3) := by decide +kernel
theorem dX3_handIn_23 : decode cX3_handIn 23 = .ok (.iload_n 2, 1) := by decide +kernel
theorem dX3_handIn_24 : decode cX3_handIn 24 = .ok (.isub, 1) := by decide +kernel
theorem dX3_handIn_25 : decode cX3_handIn 25 = .ok (.aload_n 0, 1) := by decide +kernel
theorem dX3_handIn_26 : decode cX3_handIn 26 = .ok (.getfield 60, 3) := by decide +kernel
theorem dX3_handIn_29 : decode cX3_handIn 29 = .ok (.iadd, 1) := by decide +kernel
theorem dX3_handIn_30 : decode cX3_handIn 30 = .ok (.iload_n 3, 1) := by decide +kernel
theorem dX3_handIn_31 : decode cX3_handIn 31 = .ok (.isub, 1) := by decide +kernel
theorem dX3_handIn_32 : decode cX3_handIn 32 = .ok (.iadd, 1) := by decide +kernel
theorem dX3_handIn_33 : decode cX3_handIn 33 = .ok (.putfield 145, 3) := by decide +kernel
theorem dX3_handIn_36 : decode cX3_handIn 36 = .ok (.aload_n 1, 1) := by decide +kernel
theorem dX3_handIn_37 : decode cX3_handIn 37 = .ok (.dup, 1) := by decide +kernel
theorem dX3_handIn_38 : decode cX3_handIn 38 = .ok (.getfield 242, 3) := by decide +kernel
theorem dX3_handIn_41 : decode cX3_handIn 41 = .ok (.aload_n 1, 1) := by decide +kernel
theorem dX3_handIn_42 : decode cX3_handIn 42 = .ok (.iload_n 2, 1) := by decide +kernel
theorem dX3_handIn_43 : decode cX3_handIn 43 = .ok (.iload_n 3, 1) := by decide +kernel
theorem dX3_handIn_44 : decode cX3_handIn 44 = .ok (.invokevirtual 245, 3) := by decide +kernel
theorem dX3_handIn_47 : decode cX3_handIn 47 = .ok (.iadd, 1) := by decide +kernel
theorem dX3_handIn_48 : decode cX3_handIn 48 = .ok (.putfield 242, 3) := by decide +kernel
theorem dX3_handIn_51 : decode cX3_handIn 51 = .ok (.aload_n 1, 1) := by decide +kernel
theorem dX3_handIn_52 : decode cX3_handIn 52 = .ok (.getfield 186, 3) := by decide +kernel
theorem dX3_handIn_55 : decode cX3_handIn 55 = .ok (.iload_n 2, 1) := by decide +kernel
theorem dX3_handIn_56 : decode cX3_handIn 56 = .ok (.invokevirtual 248, 3) := by decide +kernel
theorem dX3_handIn_59 : decode cX3_handIn 59 = .ok (.aload_n 1, 1) := by decide +kernel
theorem dX3_handIn_60 : decode cX3_handIn 60 = .ok (.getfield 190, 3) := by decide +kernel
theorem dX3_handIn_63 : decode cX3_handIn 63 = .ok (.iload_n 3, 1) := by decide +kernel
theorem dX3_handIn_64 : decode cX3_handIn 64 = .ok (.invokevirtual 248, 3) := by decide +kernel
theorem dX3_handIn_67 : decode cX3_handIn 67 = .ok (.aload_n 0, 1) := by decide +kernel
theorem dX3_handIn_68 : decode cX3_handIn 68 = .ok (.getfield 24, 3) := by decide +kernel
theorem dX3_handIn_71 : decode cX3_handIn 71 = .ok (.iconst 5, 1) := by decide +kernel
theorem dX3_handIn_72 : decode cX3_handIn 72 = .ok (.dup2, 1) := by decide +kernel
theorem dX3_handIn_73 : decode cX3_handIn 73 = .ok (.iaload, 1) := by decide +kernel
theorem dX3_handIn_74 : decode cX3_handIn 74 = .ok (.iload_n 2, 1) := by decide +kernel
theorem dX3_handIn_75 : decode cX3_handIn 75 = .ok (.iload_n 3, 1) := by decide +kernel
theorem dX3_handIn_76 : decode cX3_handIn 76 = .ok (.iadd, 1) := by decide +kernel
theorem dX3_handIn_77 : decode cX3_handIn 77 = .ok (.iadd, 1) := by decide +kernel
theorem dX3_handIn_78 : decode cX3_handIn 78 = .ok (.iastore, 1) := by decide +kernel
theorem dX3_handIn_79 : decode cX3_handIn 79 = .ok (.return_, 1) := by decide +kernel
theorem dX3_lookAtProof_0 : decode cX3_lookAtProof 0 = .ok (.aload_n 1, 1) := by decide +kernel
theorem dX3_lookAtProof_1 : decode cX3_lookAtProof 1 = .ok (.getfield 242, 3) := by decide +kernel
theorem dX3_lookAtProof_4 : decode cX3_lookAtProof 4 = .ok (.aload_n 0, 1) := by decide +kernel
theorem dX3_lookAtProof_5 : decode cX3_lookAtProof 5 = .ok (.getfield 54, 3) := by decide +kernel
theorem dX3_lookAtProof_8 : decode cX3_lookAtProof 8 = .ok (.if_icmp .lt 7, 3) := by decide +kernel
theorem dX3_lookAtProof_11 : decode cX3_lookAtProof 11 = .ok (.iconst 1, 1) := by decide +kernel
theorem dX3_lookAtProof_12 : decode cX3_lookAtProof 12 = .ok (.goto 4, 3) := by decide +kernel
theorem dX3_lookAtProof_15 : decode cX3_lookAtProof 15 = .ok (.iconst 0, 1) := by decide +kernel
theorem dX3_lookAtProof_16 : decode cX3_lookAtProof 16 = .ok (.istore_n 2, 1) := by decide +kernel
theorem dX3_lookAtProof_17 : decode cX3_lookAtProof 17 = .ok (.aload_n 1, 1) := by decide +kernel
theorem dX3_lookAtProof_18 : decode cX3_lookAtProof 18 = .ok (.aload_n 0, 1) := by decide +kernel
theorem dX3_lookAtProof_19 : decode cX3_lookAtProof 19 = .ok (.aload_n 1, 1) := by decide +kernel
theorem dX3_lookAtProof_20 : decode cX3_lookAtProof 20 = .ok (.aload_n 1, 1) := by decide +kernel
theorem dX3_lookAtProof_21 : decode cX3_lookAtProof 21 = .ok (.getfield 242, 3) := by decide +kernel
theorem dX3_lookAtProof_24 : decode cX3_lookAtProof 24 = .ok (.invokevirtual 251, 3) := by decide +kernel
theorem dX3_lookAtProof_27 : decode cX3_lookAtProof 27 = .ok (.putfield 254, 3) := by decide +kernel
theorem dX3_lookAtProof_30 : decode cX3_lookAtProof 30 = .ok (.iload_n 2, 1) := by decide +kernel
theorem dX3_lookAtProof_31 : decode cX3_lookAtProof 31 = .ok (.ifCond .ne 5, 3) := by decide +kernel
theorem dX3_lookAtProof_34 : decode cX3_lookAtProof 34 = .ok (.iconst 0, 1) := by decide +kernel
theorem dX3_lookAtProof_35 : decode cX3_lookAtProof 35 = .ok (.ireturn, 1) := by decide +kernel
theorem dX3_lookAtProof_36 : decode cX3_lookAtProof 36 = .ok (.aload_n 1, 1) := by decide +kernel
theorem dX3_lookAtProof_37 : decode cX3_lookAtProof 37 = .ok (.iconst 0, 1) := by decide +kernel
theorem dX3_lookAtProof_38 : decode cX3_lookAtProof 38 = .ok (.putfield 242, 3) := by decide +kernel
theorem dX3_lookAtProof_41 : decode cX3_lookAtProof 41 = .ok (.aload_n 1, 1) := by decide +kernel
theorem dX3_lookAtProof_42 : decode cX3_lookAtProof 42 = .ok (.iconst 0, 1) := by decide +kernel
theorem dX3_lookAtProof_43 : decode cX3_lookAtProof 43 = .ok (.putfield 257, 3) := by decide +kernel
theorem dX3_lookAtProof_46 : decode cX3_lookAtProof 46 = .ok (.aload_n 0, 1) := by decide +kernel
theorem dX3_lookAtProof_47 : decode cX3_lookAtProof 47 = .ok (.getfield 24, 3) := by decide +kernel
theorem dX3_lookAtProof_50 : decode cX3_lookAtProof 50 = .ok (.bipush 6, 2) := by decide +kernel
theorem dX3_lookAtProof_52 : decode cX3_lookAtProof 52 = .ok (.dup2, 1) := by decide +kernel
theorem dX3_lookAtProof_53 : decode cX3_lookAtProof 53 = .ok (.iaload, 1) := by decide +kernel
theorem dX3_lookAtProof_54 : decode cX3_lookAtProof 54 = .ok (.aload_n 1, 1) := by decide +kernel
theorem dX3_lookAtProof_55 : decode cX3_lookAtProof 55 = .ok (.getfield 186, 3) := by decide +kernel
theorem dX3_lookAtProof_58 : decode cX3_lookAtProof 58 = .ok (.getfield 139, 3) := by decide +kernel
theorem dX3_lookAtProof_61 : decode cX3_lookAtProof 61 = .ok (.aload_n 1, 1) := by decide +kernel
theorem dX3_lookAtProof_62 : decode cX3_lookAtProof 62 = .ok (.getfield 190, 3) := by decide +kernel
theorem dX3_lookAtProof_65 : decode cX3_lookAtProof 65 = .ok (.getfield 139, 3) := by decide +kernel
theorem dX3_lookAtProof_68 : decode cX3_lookAtProof 68 = .ok (.iadd, 1) := by decide +kernel
theorem dX3_lookAtProof_69 : decode cX3_lookAtProof 69 = .ok (.iadd, 1) := by decide +kernel
theorem dX3_lookAtProof_70 : decode cX3_lookAtProof 70 = .ok (.iastore, 1) := by decide +kernel
theorem dX3_lookAtProof_71 : decode cX3_lookAtProof 71 = .ok (.aload_n 1, 1) := by decide +kernel
theorem dX3_lookAtProof_72 : decode cX3_lookAtProof 72 = .ok (.invokevirtual 260, 3) := by decide +kernel
theorem dX3_lookAtProof_75 : decode cX3_lookAtProof 75 = .ok (.iconst 1, 1) := by decide +kernel
theorem dX3_lookAtProof_76 : decode cX3_lookAtProof 76 = .ok (.ireturn, 1) := by decide +kernel
theorem dX3_handedIn_0 : decode cX3_handedIn 0 = .ok (.aload_n 0, 1) := by decide +kernel
theorem dX3_handedIn_1 : decode cX3_handedIn 1 = .ok (.iload_n 2, 1) := by decide +kernel
theorem dX3_handedIn_2 : decode cX3_handedIn 2 = .ok (.invokevirtual 263, 3) := by decide +kernel
theorem dX3_handedIn_5 : decode cX3_handedIn 5 = .ok (.aload_n 1, 1) := by decide +kernel
theorem dX3_handedIn_6 : decode cX3_handedIn 6 = .ok (.iload_n 2, 1) := by decide +kernel
theorem dX3_handedIn_7 : decode cX3_handedIn 7 = .ok (.invokevirtual 135, 3) := by decide +kernel
theorem dX3_handedIn_10 : decode cX3_handedIn 10 = .ok (.getfield 139, 3) := by decide +kernel
theorem dX3_handedIn_13 : decode cX3_handedIn 13 = .ok (.invokestatic 266, 3) := by decide +kernel
theorem dX3_handedIn_16 : decode cX3_handedIn 16 = .ok (.ireturn, 1) := by decide +kernel
theorem dX3_lackingOf_0 : decode cX3_lackingOf 0 = .ok (.aload_n 0, 1) := by decide +kernel
theorem dX3_lackingOf_1 : decode cX3_lackingOf 1 = .ok (.iload_n 2, 1) := by decide +kernel
theorem dX3_lackingOf_2 : decode cX3_lackingOf 2 = .ok (.invokevirtual 263, 3) := by decide +kernel
theorem dX3_lackingOf_5 : decode cX3_lackingOf 5 = .ok (.aload_n 0, 1) := by decide +kernel
theorem dX3_lackingOf_6 : decode cX3_lackingOf 6 = .ok (.aload_n 1, 1) := by decide +kernel
theorem dX3_lackingOf_7 : decode cX3_lackingOf 7 = .ok (.iload_n 2, 1) := by decide +kernel
theorem dX3_lackingOf_8 : decode cX3_lackingOf 8 = .ok (.invokevirtual 238, 3) := by decide +kernel
theorem dX3_lackingOf_11 : decode cX3_lackingOf 11 = .ok (.isub, 1) := by decide +kernel
theorem dX3_lackingOf_12 : decode cX3_lackingOf 12 = .ok (.ireturn, 1) := by decide +kernel
theorem dX3_lacking_0 : decode cX3_lacking 0 = .ok (.aload_n 0, 1) := by decide +kernel
theorem dX3_lacking_1 : decode cX3_lacking 1 = .ok (.aload_n 1, 1) := by decide +kernel
theorem dX3_lacking_2 : decode cX3_lacking 2 = .ok (.iconst 0, 1) := by decide +kernel
theorem dX3_lacking_3 : decode cX3_lacking 3 = .ok (.invokevirtual 271, 3) := by decide +kernel
theorem dX3_lacking_6 : decode cX3_lacking 6 = .ok (.aload_n 0, 1) := by decide +kernel
theorem dX3_lacking_7 : decode cX3_lacking 7 = .ok (.aload_n 1, 1) := by decide +kernel
theorem dX3_lacking_8 : decode cX3_lacking 8 = .ok (.iconst 1, 1) := by decide +kernel
theorem dX3_lacking_9 : decode cX3_lacking 9 = .ok (.invokevirtual 271, 3) := by decide +kernel
theorem dX3_lacking_12 : decode cX3_lacking 12 = .ok (.iadd, 1) := by decide +kernel
theorem dX3_lacking_13 : decode cX3_lacking 13 = .ok (.ireturn, 1) := by decide +kernel
theorem dX3_proofOfHandingIn_0 : decode cX3_proofOfHandingIn 0 = .ok (.aload_n 1, 1) := by decide +kernel
theorem dX3_proofOfHandingIn_1 : decode cX3_proofOfHandingIn 1 = .ok (.aload_n 0, 1) := by decide +kernel
theorem dX3_proofOfHandingIn_2 : decode cX3_proofOfHandingIn 2 = .ok (.aload_n 1, 1) := by decide +kernel
theorem dX3_proofOfHandingIn_3 : decode cX3_proofOfHandingIn 3 = .ok (.iconst 0, 1) := by decide +kernel
theorem dX3_proofOfHandingIn_4 : decode cX3_proofOfHandingIn 4 = .ok (.invokevirtual 238, 3) := by decide +kernel
theorem dX3_proofOfHandingIn_7 : decode cX3_proofOfHandingIn 7 = .ok (.aload_n 0, 1) := by decide +kernel
theorem dX3_proofOfHandingIn_8 : decode cX3_proofOfHandingIn 8 = .ok (.aload_n 1, 1) := by decide +kernel
theorem dX3_proofOfHandingIn_9 : decode cX3_proofOfHandingIn 9 = .ok (.iconst 1, 1) := by decide +kernel
theorem dX3_proofOfHandingIn_10 : decode cX3_proofOfHandingIn 10 = .ok (.invokevirtual 238, 3) := by decide +kernel
theorem dX3_proofOfHandingIn_13 : decode cX3_proofOfHandingIn 13 = .ok (.invokevirtual 245, 3) := by decide +kernel
theorem dX3_proofOfHandingIn_16 : decode cX3_proofOfHandingIn 16 = .ok (.ireturn, 1) := by decide +kernel
theorem dX3_proofLookedAt_0 : decode cX3_proofLookedAt 0 = .ok (.aload_n 1, 1) := by decide +kernel
theorem dX3_proofLookedAt_1 : decode cX3_proofLookedAt 1 = .ok (.getfield 242, 3) := by decide +kernel
theorem dX3_proofLookedAt_4 : decode cX3_proofLookedAt 4 = .ok (.aload_n 0, 1) := by decide +kernel
theorem dX3_proofLookedAt_5 : decode cX3_proofLookedAt 5 = .ok (.aload_n 1, 1) := by decide +kernel
theorem dX3_proofLookedAt_6 : decode cX3_proofLookedAt 6 = .ok (.invokevirtual 274, 3) := by decide +kernel
theorem dX3_proofLookedAt_9 : decode cX3_proofLookedAt 9 = .ok (.iadd, 1) := by decide +kernel
theorem dX3_proofLookedAt_10 : decode cX3_proofLookedAt 10 = .ok (.ireturn, 1) := by decide +kernel
theorem dX3_detentionBehind_0 : decode cX3_detentionBehind 0 = .ok (.iload_n 2, 1) := by decide +kernel
theorem dX3_detentionBehind_1 : decode cX3_detentionBehind 1 = .ok (.aload_n 0, 1) := by decide +kernel
theorem dX3_detentionBehind_2 : decode cX3_detentionBehind 2 = .ok (.getfield 54, 3) := by decide +kernel
theorem dX3_detentionBehind_5 : decode cX3_detentionBehind 5 = .ok (.if_icmp .lt 19, 3) := by decide +kernel
theorem dX3_detentionBehind_8 : decode cX3_detentionBehind 8 = .ok (.iconst 1, 1) := by decide +kernel
theorem dX3_detentionBehind_9 : decode cX3_detentionBehind 9 = .ok (.iload_n 2, 1) := by decide +kernel
theorem dX3_detentionBehind_10 : decode cX3_detentionBehind 10 = .ok (.aload_n 0, 1) := by decide +kernel
theorem dX3_detentionBehind_11 : decode cX3_detentionBehind 11 = .ok (.getfield 54, 3) := by decide +kernel
theorem dX3_detentionBehind_14 : decode cX3_detentionBehind 14 = .ok (.isub, 1) := by decide +kernel
theorem dX3_detentionBehind_15 : decode cX3_detentionBehind 15 = .ok (.iconst 3, 1) := by decide +kernel
theorem dX3_detentionBehind_16 : decode cX3_detentionBehind 16 = .ok (.idiv, 1) := by decide +kernel
theorem dX3_detentionBehind_17 : decode cX3_detentionBehind 17 = .ok (.iadd, 1) := by decide +kernel
theorem dX3_detentionBehind_18 : decode cX3_detentionBehind 18 = .ok (.bipush 9, 2) := by decide +kernel
theorem dX3_detentionBehind_20 : decode cX3_detentionBehind 20 = .ok (.invokestatic 266, 3) := by decide +kernel
theorem dX3_detentionBehind_23 : decode cX3_detentionBehind 23 = .ok (.ireturn, 1) := by decide +kernel
theorem dX3_detentionBehind_24 : decode cX3_detentionBehind 24 = .ok (.aload_n 1, 1) := by decide +kernel
theorem dX3_detentionBehind_25 : decode cX3_detentionBehind 25 = .ok (.getfield 254, 3) := by decide +kernel
theorem dX3_detentionBehind_28 : decode cX3_detentionBehind 28 = .ok (.iconst 1, 1) := by decide +kernel
theorem dX3_detentionBehind_29 : decode cX3_detentionBehind 29 = .ok (.isub, 1) := by decide +kernel
theorem dX3_detentionBehind_30 : decode cX3_detentionBehind 30 = .ok (.iconst 0, 1) := by decide +kernel
theorem dX3_detentionBehind_31 : decode cX3_detentionBehind 31 = .ok (.invokestatic 277, 3) := by decide +kernel
theorem dX3_detentionBehind_34 : decode cX3_detentionBehind 34 = .ok (.ireturn, 1) := by decide +kernel
theorem dX3_standing_0 : decode cX3_standing 0 = .ok (.aload_n 1, 1) := by decide +kernel
theorem dX3_standing_1 : decode cX3_standing 1 = .ok (.invokevirtual 142, 3) := by decide +kernel
theorem dX3_standing_4 : decode cX3_standing 4 = .ok (.ifCond .eq 5, 3) := by decide +kernel
theorem dX3_standing_7 : decode cX3_standing 7 = .ok (.iconst 1, 1) := by decide +kernel
theorem dX3_standing_8 : decode cX3_standing 8 = .ok (.ireturn, 1) := by decide +kernel
theorem dX3_standing_9 : decode cX3_standing 9 = .ok (.aload_n 0, 1) := by decide +kernel
theorem dX3_standing_10 : decode cX3_standing 10 = .ok (.aload_n 1, 1) := by decide +kernel
theorem dX3_standing_11 : decode cX3_standing 11 = .ok (.invokevirtual 280, 3) := by decide +kernel
theorem dX3_standing_14 : decode cX3_standing 14 = .ok (.aload_n 0, 1) := by decide +kernel
theorem dX3_standing_15 : decode cX3_standing 15 = .ok (.getfield 54, 3) := by decide +kernel
theorem dX3_standing_18 : decode cX3_standing 18 = .ok (.if_icmp .lt 5, 3) := by decide +kernel
theorem dX3_standing_21 : decode cX3_standing 21 = .ok (.iconst 2, 1) := by decide +kernel
theorem dX3_standing_22 : decode cX3_standing 22 = .ok (.ireturn, 1) := by decide +kernel
theorem dX3_standing_23 : decode cX3_standing 23 = .ok (.aload_n 0, 1) := by decide +kernel
theorem dX3_standing_24 : decode cX3_standing 24 = .ok (.aload_n 1, 1) := by decide +kernel
theorem dX3_standing_25 : decode cX3_standing 25 = .ok (.invokevirtual 283, 3) := by decide +kernel
theorem dX3_standing_28 : decode cX3_standing 28 = .ok (.ifCond .le 5, 3) := by decide +kernel
theorem dX3_standing_31 : decode cX3_standing 31 = .ok (.iconst 3, 1) := by decide +kernel
theorem dX3_standing_32 : decode cX3_standing 32 = .ok (.ireturn, 1) := by decide +kernel
theorem dX3_standing_33 : decode cX3_standing 33 = .ok (.aload_n 0, 1) := by decide +kernel
theorem dX3_standing_34 : decode cX3_standing 34 = .ok (.aload_n 1, 1) := by decide +kernel
theorem dX3_standing_35 : decode cX3_standing 35 = .ok (.invokevirtual 286, 3) := by decide +kernel
theorem dX3_standing_38 : decode cX3_standing 38 = .ok (.iconst (-1), 1) := by decide +kernel
theorem dX3_standing_39 : decode cX3_standing 39 = .ok (.if_icmp .ne 7, 3) := by decide +kernel
theorem dX3_standing_42 : decode cX3_standing 42 = .ok (.iconst 5, 1) := by decide +kernel
theorem dX3_standing_43 : decode cX3_standing 43 = .ok (.goto 4, 3) := by decide +kernel
theorem dX3_standing_46 : decode cX3_standing 46 = .ok (.iconst 4, 1) := by decide +kernel
theorem dX3_standing_47 : decode cX3_standing 47 = .ok (.ireturn, 1) := by decide +kernel
theorem dX3_debtBeyondSatchel_0 : decode cX3_debtBeyondSatchel 0 = .ok (.iconst 0, 1) := by decide +kernel
theorem dX3_debtBeyondSatchel_1 : decode cX3_debtBeyondSatchel 1 = .ok (.istore_n 2, 1) := by decide +kernel
theorem dX3_debtBeyondSatchel_2 : decode cX3_debtBeyondSatchel 2 = .ok (.iload_n 2, 1) := by decide +kernel
theorem dX3_debtBeyondSatchel_3 : decode cX3_debtBeyondSatchel 3 = .ok (.aload_n 0, 1) := by decide +kernel
theorem dX3_debtBeyondSatchel_4 : decode cX3_debtBeyondSatchel 4 = .ok (.getfield 20, 3) := by decide +kernel
theorem dX3_debtBeyondSatchel_7 : decode cX3_debtBeyondSatchel 7 = .ok (.getfield 96, 3) := by decide +kernel
theorem dX3_debtBeyondSatchel_10 : decode cX3_debtBeyondSatchel 10 = .ok (.if_icmp .ge 58, 3) := by decide +kernel
theorem dX3_debtBeyondSatchel_13 : decode cX3_debtBeyondSatchel 13 = .ok (.aload_n 0, 1) := by decide +kernel
theorem dX3_debtBeyondSatchel_14 : decode cX3_debtBeyondSatchel 14 = .ok (.getfield 20, 3) := by decide +kernel
theorem dX3_debtBeyondSatchel_17 : decode cX3_debtBeyondSatchel 17 = .ok (.getfield 289, 3) := by decide +kernel
theorem dX3_debtBeyondSatchel_20 : decode cX3_debtBeyondSatchel 20 = .ok (.iload_n 2, 1) := by decide +kernel
theorem dX3_debtBeyondSatchel_21 : decode cX3_debtBeyondSatchel 21 = .ok (.iaload, 1) := by decide +kernel
theorem dX3_debtBeyondSatchel_22 : decode cX3_debtBeyondSatchel 22 = .ok (.aload_n 1, 1) := by decide +kernel
theorem dX3_debtBeyondSatchel_23 : decode cX3_debtBeyondSatchel 23 = .ok (.getfield 292, 3) := by decide +kernel
theorem dX3_debtBeyondSatchel_26 : decode cX3_debtBeyondSatchel 26 = .ok (.if_icmp .eq 6, 3) := by decide +kernel
theorem dX3_debtBeyondSatchel_29 : decode cX3_debtBeyondSatchel 29 = .ok (.goto 33, 3) := by decide +kernel
theorem dX3_debtBeyondSatchel_32 : decode cX3_debtBeyondSatchel 32 = .ok (.aload_n 0, 1) := by decide +kernel
theorem dX3_debtBeyondSatchel_33 : decode cX3_debtBeyondSatchel 33 = .ok (.getfield 20, 3) := by decide +kernel
theorem dX3_debtBeyondSatchel_36 : decode cX3_debtBeyondSatchel 36 = .ok (.getfield 295, 3) := by decide +kernel
theorem dX3_debtBeyondSatchel_39 : decode cX3_debtBeyondSatchel 39 = .ok (.iload_n 2, 1) := by decide +kernel
theorem dX3_debtBeyondSatchel_40 : decode cX3_debtBeyondSatchel 40 = .ok (.iaload, 1) := by decide +kernel
theorem dX3_debtBeyondSatchel_41 : decode cX3_debtBeyondSatchel 41 = .ok (.aload_n 1, 1) := by decide +kernel
theorem dX3_debtBeyondSatchel_42 : decode cX3_debtBeyondSatchel 42 = .ok (.aload_n 0, 1) := by decide +kernel
theorem dX3_debtBeyondSatchel_43 : decode cX3_debtBeyondSatchel 43 = .ok (.getfield 20, 3) := by decide +kernel
theorem dX3_debtBeyondSatchel_46 : decode cX3_debtBeyondSatchel 46 = .ok (.getfield 298, 3) := by decide +kernel
theorem dX3_debtBeyondSatchel_49 : decode cX3_debtBeyondSatchel 49 = .ok (.iload_n 2, 1) := by decide +kernel
theorem dX3_debtBeyondSatchel_50 : decode cX3_debtBeyondSatchel 50 = .ok (.iaload, 1) := by decide +kernel
theorem dX3_debtBeyondSatchel_51 : decode cX3_debtBeyondSatchel 51 = .ok (.invokevirtual 135, 3) := by decide +kernel
theorem dX3_debtBeyondSatchel_54 : decode cX3_debtBeyondSatchel 54 = .ok (.getfield 139, 3) := by decide +kernel
theorem dX3_debtBeyondSatchel_57 : decode cX3_debtBeyondSatchel 57 = .ok (.if_icmp .le 5, 3) := by decide +kernel
theorem dX3_debtBeyondSatchel_60 : decode cX3_debtBeyondSatchel 60 = .ok (.iload_n 2, 1) := by decide +kernel
theorem dX3_debtBeyondSatchel_61 : decode cX3_debtBeyondSatchel 61 = .ok (.ireturn, 1) := by decide +kernel
theorem dX3_debtBeyondSatchel_62 : decode cX3_debtBeyondSatchel 62 = .ok (.iinc 2 1, 3) := by decide +kernel
theorem dX3_debtBeyondSatchel_65 : decode cX3_debtBeyondSatchel 65 = .ok (.goto (-63), 3) := by decide +kernel
theorem dX3_debtBeyondSatchel_68 : decode cX3_debtBeyondSatchel 68 = .ok (.iconst (-1), 1) := by decide +kernel
theorem dX3_debtBeyondSatchel_69 : decode cX3_debtBeyondSatchel 69 = .ok (.ireturn, 1) := by decide +kernel
