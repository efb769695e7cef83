theorem dX9_ownShare_6 : decode cX9_ownShare 6 = .ok (.aload_n 0, 1) := by decide +kernel
theorem dX9_ownShare_7 : decode cX9_ownShare 7 = .ok (.iload_n 1, 1) := by decide +kernel
theorem dX9_ownShare_8 : decode cX9_ownShare 8 = .ok (.invokevirtual 297, 3) := by decide +kernel
theorem dX9_ownShare_11 : decode cX9_ownShare 11 = .ok (.iconst 1, 1) := by decide +kernel
theorem dX9_ownShare_12 : decode cX9_ownShare 12 = .ok (.invokevirtual 158, 3) := by decide +kernel
theorem dX9_ownShare_15 : decode cX9_ownShare 15 = .ok (.ifCond .ne 5, 3) := by decide +kernel
theorem dX9_ownShare_18 : decode cX9_ownShare 18 = .ok (.fconst 0, 1) := by decide +kernel
theorem dX9_ownShare_19 : decode cX9_ownShare 19 = .ok (.freturn, 1) := by decide +kernel
theorem dX9_ownShare_20 : decode cX9_ownShare 20 = .ok (.aload_n 0, 1) := by decide +kernel
theorem dX9_ownShare_21 : decode cX9_ownShare 21 = .ok (.iload_n 1, 1) := by decide +kernel
theorem dX9_ownShare_22 : decode cX9_ownShare 22 = .ok (.iconst 0, 1) := by decide +kernel
theorem dX9_ownShare_23 : decode cX9_ownShare 23 = .ok (.invokevirtual 65, 3) := by decide +kernel
theorem dX9_ownShare_26 : decode cX9_ownShare 26 = .ok (.aload_n 0, 1) := by decide +kernel
theorem dX9_ownShare_27 : decode cX9_ownShare 27 = .ok (.iload_n 1, 1) := by decide +kernel
theorem dX9_ownShare_28 : decode cX9_ownShare 28 = .ok (.iconst 1, 1) := by decide +kernel
theorem dX9_ownShare_29 : decode cX9_ownShare 29 = .ok (.invokevirtual 65, 3) := by decide +kernel
theorem dX9_ownShare_32 : decode cX9_ownShare 32 = .ok (.iadd, 1) := by decide +kernel
theorem dX9_ownShare_33 : decode cX9_ownShare 33 = .ok (.istore_n 2, 1) := by decide +kernel
theorem dX9_ownShare_34 : decode cX9_ownShare 34 = .ok (.aload_n 0, 1) := by decide +kernel
theorem dX9_ownShare_35 : decode cX9_ownShare 35 = .ok (.iload_n 1, 1) := by decide +kernel
theorem dX9_ownShare_36 : decode cX9_ownShare 36 = .ok (.iconst 0, 1) := by decide +kernel
theorem dX9_ownShare_37 : decode cX9_ownShare 37 = .ok (.iload_n 1, 1) := by decide +kernel
theorem dX9_ownShare_38 : decode cX9_ownShare 38 = .ok (.aload_n 0, 1) := by decide +kernel
theorem dX9_ownShare_39 : decode cX9_ownShare 39 = .ok (.iload_n 1, 1) := by decide +kernel
theorem dX9_ownShare_40 : decode cX9_ownShare 40 = .ok (.iconst 0, 1) := by decide +kernel
theorem dX9_ownShare_41 : decode cX9_ownShare 41 = .ok (.invokevirtual 65, 3) := by decide +kernel
theorem dX9_ownShare_44 : decode cX9_ownShare 44 = .ok (.invokevirtual 126, 3) := by decide +kernel
theorem dX9_ownShare_47 : decode cX9_ownShare 47 = .ok (.aload_n 0, 1) := by decide +kernel
theorem dX9_ownShare_48 : decode cX9_ownShare 48 = .ok (.iload_n 1, 1) := by decide +kernel
theorem dX9_ownShare_49 : decode cX9_ownShare 49 = .ok (.iconst 1, 1) := by decide +kernel
theorem dX9_ownShare_50 : decode cX9_ownShare 50 = .ok (.iload_n 1, 1) := by decide +kernel
theorem dX9_ownShare_51 : decode cX9_ownShare 51 = .ok (.aload_n 0, 1) := by decide +kernel
theorem dX9_ownShare_52 : decode cX9_ownShare 52 = .ok (.iload_n 1, 1) := by decide +kernel
theorem dX9_ownShare_53 : decode cX9_ownShare 53 = .ok (.iconst 1, 1) := by decide +kernel
theorem dX9_ownShare_54 : decode cX9_ownShare 54 = .ok (.invokevirtual 65, 3) := by decide +kernel
theorem dX9_ownShare_57 : decode cX9_ownShare 57 = .ok (.invokevirtual 126, 3) := by decide +kernel
theorem dX9_ownShare_60 : decode cX9_ownShare 60 = .ok (.iadd, 1) := by decide +kernel
theorem dX9_ownShare_61 : decode cX9_ownShare 61 = .ok (.istore_n 3, 1) := by decide +kernel
theorem dX9_ownShare_62 : decode cX9_ownShare 62 = .ok (.iload_n 2, 1) := by decide +kernel
theorem dX9_ownShare_63 : decode cX9_ownShare 63 = .ok (.ifCond .ne 7, 3) := by decide +kernel
theorem dX9_ownShare_66 : decode cX9_ownShare 66 = .ok (.fconst 0, 1) := by decide +kernel
theorem dX9_ownShare_67 : decode cX9_ownShare 67 = .ok (.goto 8, 3) := by decide +kernel
theorem dX9_ownShare_70 : decode cX9_ownShare 70 = .ok (.iload_n 3, 1) := by decide +kernel
theorem dX9_ownShare_71 : decode cX9_ownShare 71 = .ok (.i2f, 1) := by decide +kernel
theorem dX9_ownShare_72 : decode cX9_ownShare 72 = .ok (.iload_n 2, 1) := by decide +kernel
theorem dX9_ownShare_73 : decode cX9_ownShare 73 = .ok (.i2f, 1) := by decide +kernel
theorem dX9_ownShare_74 : decode cX9_ownShare 74 = .ok (.fdiv, 1) := by decide +kernel
theorem dX9_ownShare_75 : decode cX9_ownShare 75 = .ok (.freturn, 1) := by decide +kernel
theorem dX9_couldMake_0 : decode cX9_couldMake 0 = .ok (.aload_n 0, 1) := by decide +kernel
theorem dX9_couldMake_1 : decode cX9_couldMake 1 = .ok (.iconst 0, 1) := by decide +kernel
theorem dX9_couldMake_2 : decode cX9_couldMake 2 = .ok (.putfield 41, 3) := by decide +kernel
theorem dX9_couldMake_5 : decode cX9_couldMake 5 = .ok (.aload_n 0, 1) := by decide +kernel
theorem dX9_couldMake_6 : decode cX9_couldMake 6 = .ok (.aload_n 0, 1) := by decide +kernel
theorem dX9_couldMake_7 : decode cX9_couldMake 7 = .ok (.iload_n 1, 1) := by decide +kernel
theorem dX9_couldMake_8 : decode cX9_couldMake 8 = .ok (.invokevirtual 297, 3) := by decide +kernel
theorem dX9_couldMake_11 : decode cX9_couldMake 11 = .ok (.iconst 1, 1) := by decide +kernel
theorem dX9_couldMake_12 : decode cX9_couldMake 12 = .ok (.invokevirtual 158, 3) := by decide +kernel
theorem dX9_couldMake_15 : decode cX9_couldMake 15 = .ok (.ifCond .eq 38, 3) := by decide +kernel
theorem dX9_couldMake_18 : decode cX9_couldMake 18 = .ok (.aload_n 0, 1) := by decide +kernel
theorem dX9_couldMake_19 : decode cX9_couldMake 19 = .ok (.iload_n 2, 1) := by decide +kernel
theorem dX9_couldMake_20 : decode cX9_couldMake 20 = .ok (.iconst 0, 1) := by decide +kernel
theorem dX9_couldMake_21 : decode cX9_couldMake 21 = .ok (.iconst 1, 1) := by decide +kernel
theorem dX9_couldMake_22 : decode cX9_couldMake 22 = .ok (.invokestatic 162, 3) := by decide +kernel
theorem dX9_couldMake_25 : decode cX9_couldMake 25 = .ok (.iconst 2, 1) := by decide +kernel
theorem dX9_couldMake_26 : decode cX9_couldMake 26 = .ok (.invokevirtual 158, 3) := by decide +kernel
theorem dX9_couldMake_29 : decode cX9_couldMake 29 = .ok (.ifCond .eq 24, 3) := by decide +kernel
theorem dX9_couldMake_32 : decode cX9_couldMake 32 = .ok (.aload_n 0, 1) := by decide +kernel
theorem dX9_couldMake_33 : decode cX9_couldMake 33 = .ok (.iload_n 1, 1) := by decide +kernel
theorem dX9_couldMake_34 : decode cX9_couldMake 34 = .ok (.iconst 5, 1) := by decide +kernel
theorem dX9_couldMake_35 : decode cX9_couldMake 35 = .ok (.invokevirtual 54, 3) := by decide +kernel
theorem dX9_couldMake_38 : decode cX9_couldMake 38 = .ok (.bipush 10, 2) := by decide +kernel
theorem dX9_couldMake_40 : decode cX9_couldMake 40 = .ok (.aload_n 0, 1) := by decide +kernel
theorem dX9_couldMake_41 : decode cX9_couldMake 41 = .ok (.iload_n 1, 1) := by decide +kernel
theorem dX9_couldMake_42 : decode cX9_couldMake 42 = .ok (.iconst 2, 1) := by decide +kernel
theorem dX9_couldMake_43 : decode cX9_couldMake 43 = .ok (.iload_n 2, 1) := by decide +kernel
theorem dX9_couldMake_44 : decode cX9_couldMake 44 = .ok (.iadd, 1) := by decide +kernel
theorem dX9_couldMake_45 : decode cX9_couldMake 45 = .ok (.invokevirtual 54, 3) := by decide +kernel
theorem dX9_couldMake_48 : decode cX9_couldMake 48 = .ok (.isub, 1) := by decide +kernel
theorem dX9_couldMake_49 : decode cX9_couldMake 49 = .ok (.idiv, 1) := by decide +kernel
theorem dX9_couldMake_50 : decode cX9_couldMake 50 = .ok (.goto 4, 3) := by decide +kernel
theorem dX9_couldMake_53 : decode cX9_couldMake 53 = .ok (.iconst 0, 1) := by decide +kernel
theorem dX9_couldMake_54 : decode cX9_couldMake 54 = .ok (.ireturn, 1) := by decide +kernel
theorem dX9_detentionThen_0 : decode cX9_detentionThen 0 = .ok (.aload_n 0, 1) := by decide +kernel
theorem dX9_detentionThen_1 : decode cX9_detentionThen 1 = .ok (.iload_n 1, 1) := by decide +kernel
theorem dX9_detentionThen_2 : decode cX9_detentionThen 2 = .ok (.bipush 6, 2) := by decide +kernel
theorem dX9_detentionThen_4 : decode cX9_detentionThen 4 = .ok (.invokevirtual 54, 3) := by decide +kernel
theorem dX9_detentionThen_7 : decode cX9_detentionThen 7 = .ok (.aload_n 0, 1) := by decide +kernel
theorem dX9_detentionThen_8 : decode cX9_detentionThen 8 = .ok (.iload_n 1, 1) := by decide +kernel
theorem dX9_detentionThen_9 : decode cX9_detentionThen 9 = .ok (.invokevirtual 133, 3) := by decide +kernel
theorem dX9_detentionThen_12 : decode cX9_detentionThen 12 = .ok (.iadd, 1) := by decide +kernel
theorem dX9_detentionThen_13 : decode cX9_detentionThen 13 = .ok (.istore_n 2, 1) := by decide +kernel
theorem dX9_detentionThen_14 : decode cX9_detentionThen 14 = .ok (.iload_n 2, 1) := by decide +kernel
theorem dX9_detentionThen_15 : decode cX9_detentionThen 15 = .ok (.aload_n 0, 1) := by decide +kernel
theorem dX9_detentionThen_16 : decode cX9_detentionThen 16 = .ok (.iconst 3, 1) := by decide +kernel
theorem dX9_detentionThen_17 : decode cX9_detentionThen 17 = .ok (.invokevirtual 50, 3) := by decide +kernel
theorem dX9_detentionThen_20 : decode cX9_detentionThen 20 = .ok (.if_icmp .lt 11, 3) := by decide +kernel
theorem dX9_detentionThen_23 : decode cX9_detentionThen 23 = .ok (.aload_n 0, 1) := by decide +kernel
theorem dX9_detentionThen_24 : decode cX9_detentionThen 24 = .ok (.iload_n 2, 1) := by decide +kernel
theorem dX9_detentionThen_25 : decode cX9_detentionThen 25 = .ok (.invokevirtual 139, 3) := by decide +kernel
theorem dX9_detentionThen_28 : decode cX9_detentionThen 28 = .ok (.goto 19, 3) := by decide +kernel
theorem dX9_detentionThen_31 : decode cX9_detentionThen 31 = .ok (.aload_n 0, 1) := by decide +kernel
theorem dX9_detentionThen_32 : decode cX9_detentionThen 32 = .ok (.iload_n 1, 1) := by decide +kernel
theorem dX9_detentionThen_33 : decode cX9_detentionThen 33 = .ok (.bipush 8, 2) := by decide +kernel
theorem dX9_detentionThen_35 : decode cX9_detentionThen 35 = .ok (.invokevirtual 54, 3) := by decide +kernel
theorem dX9_detentionThen_38 : decode cX9_detentionThen 38 = .ok (.aload_n 0, 1) := by decide +kernel
theorem dX9_detentionThen_39 : decode cX9_detentionThen 39 = .ok (.iload_n 1, 1) := by decide +kernel
theorem dX9_detentionThen_40 : decode cX9_detentionThen 40 = .ok (.invokevirtual 99, 3) := by decide +kernel
theorem dX9_detentionThen_43 : decode cX9_detentionThen 43 = .ok (.invokestatic 110, 3) := by decide +kernel
theorem dX9_detentionThen_46 : decode cX9_detentionThen 46 = .ok (.isub, 1) := by decide +kernel
theorem dX9_detentionThen_47 : decode cX9_detentionThen 47 = .ok (.ireturn, 1) := by decide +kernel
theorem dX9_ifWeek_0 : decode cX9_ifWeek 0 = .ok (.aload_n 0, 1) := by decide +kernel
theorem dX9_ifWeek_1 : decode cX9_ifWeek 1 = .ok (.iconst 0, 1) := by decide +kernel
theorem dX9_ifWeek_2 : decode cX9_ifWeek 2 = .ok (.putfield 41, 3) := by decide +kernel
theorem dX9_ifWeek_5 : decode cX9_ifWeek 5 = .ok (.aload_n 0, 1) := by decide +kernel
theorem dX9_ifWeek_6 : decode cX9_ifWeek 6 = .ok (.aload_n 0, 1) := by decide +kernel
theorem dX9_ifWeek_7 : decode cX9_ifWeek 7 = .ok (.iload_n 1, 1) := by decide +kernel
theorem dX9_ifWeek_8 : decode cX9_ifWeek 8 = .ok (.invokevirtual 297, 3) := by decide +kernel
theorem dX9_ifWeek_11 : decode cX9_ifWeek 11 = .ok (.iconst 1, 1) := by decide +kernel
theorem dX9_ifWeek_12 : decode cX9_ifWeek 12 = .ok (.invokevirtual 158, 3) := by decide +kernel
theorem dX9_ifWeek_15 : decode cX9_ifWeek 15 = .ok (.ifCond .eq 17, 3) := by decide +kernel
theorem dX9_ifWeek_18 : decode cX9_ifWeek 18 = .ok (.aload_n 0, 1) := by decide +kernel
theorem dX9_ifWeek_19 : decode cX9_ifWeek 19 = .ok (.iload_n 2, 1) := by decide +kernel
theorem dX9_ifWeek_20 : decode cX9_ifWeek 20 = .ok (.iconst 0, 1) := by decide +kernel
theorem dX9_ifWeek_21 : decode cX9_ifWeek 21 = .ok (.iconst 2, 1) := by decide +kernel
theorem dX9_ifWeek_22 : decode cX9_ifWeek 22 = .ok (.invokestatic 162, 3) := by decide +kernel
theorem dX9_ifWeek_25 : decode cX9_ifWeek 25 = .ok (.iconst 2, 1) := by decide +kernel
theorem dX9_ifWeek_26 : decode cX9_ifWeek 26 = .ok (.invokevirtual 158, 3) := by decide +kernel
theorem dX9_ifWeek_29 : decode cX9_ifWeek 29 = .ok (.ifCond .ne 5, 3) := by decide +kernel
theorem dX9_ifWeek_32 : decode cX9_ifWeek 32 = .ok (.iconst 0, 1) := by decide +kernel
theorem dX9_ifWeek_33 : decode cX9_ifWeek 33 = .ok (.ireturn, 1) := by decide +kernel
theorem dX9_ifWeek_34 : decode cX9_ifWeek 34 = .ok (.iload_n 2, 1) := by decide +kernel
theorem dX9_ifWeek_35 : decode cX9_ifWeek 35 = .ok (.ifCond .ne 11, 3) := by decide +kernel
theorem dX9_ifWeek_38 : decode cX9_ifWeek 38 = .ok (.aload_n 0, 1) := by decide +kernel
theorem dX9_ifWeek_39 : decode cX9_ifWeek 39 = .ok (.iload_n 1, 1) := by decide +kernel
theorem dX9_ifWeek_40 : decode cX9_ifWeek 40 = .ok (.invokevirtual 136, 3) := by decide +kernel
theorem dX9_ifWeek_43 : decode cX9_ifWeek 43 = .ok (.goto 21, 3) := by decide +kernel
theorem dX9_ifWeek_46 : decode cX9_ifWeek 46 = .ok (.iload_n 2, 1) := by decide +kernel
theorem dX9_ifWeek_47 : decode cX9_ifWeek 47 = .ok (.iconst 1, 1) := by decide +kernel
theorem dX9_ifWeek_48 : decode cX9_ifWeek 48 = .ok (.if_icmp .ne 11, 3) := by decide +kernel
theorem dX9_ifWeek_51 : decode cX9_ifWeek 51 = .ok (.aload_n 0, 1) := by decide +kernel
theorem dX9_ifWeek_52 : decode cX9_ifWeek 52 = .ok (.iload_n 1, 1) := by decide +kernel
theorem dX9_ifWeek_53 : decode cX9_ifWeek 53 = .ok (.invokevirtual 133, 3) := by decide +kernel
theorem dX9_ifWeek_56 : decode cX9_ifWeek 56 = .ok (.goto 8, 3) := by decide +kernel
theorem dX9_ifWeek_59 : decode cX9_ifWeek 59 = .ok (.aload_n 0, 1) := by decide +kernel
theorem dX9_ifWeek_60 : decode cX9_ifWeek 60 = .ok (.iload_n 1, 1) := by decide +kernel
theorem dX9_ifWeek_61 : decode cX9_ifWeek 61 = .ok (.invokevirtual 330, 3) := by decide +kernel
theorem dX9_ifWeek_64 : decode cX9_ifWeek 64 = .ok (.ireturn, 1) := by decide +kernel
theorem dX9_ifPassed_0 : decode cX9_ifPassed 0 = .ok (.aload_n 0, 1) := by decide +kernel
theorem dX9_ifPassed_1 : decode cX9_ifPassed 1 = .ok (.iconst 0, 1) := by decide +kernel
theorem dX9_ifPassed_2 : decode cX9_ifPassed 2 = .ok (.putfield 41, 3) := by decide +kernel
theorem dX9_ifPassed_5 : decode cX9_ifPassed 5 = .ok (.aload_n 0, 1) := by decide +kernel
theorem dX9_ifPassed_6 : decode cX9_ifPassed 6 = .ok (.iload_n 1, 1) := by decide +kernel
theorem dX9_ifPassed_7 : decode cX9_ifPassed 7 = .ok (.iconst 0, 1) := by decide +kernel
theorem dX9_ifPassed_8 : decode cX9_ifPassed 8 = .ok (.bipush 30, 2) := by decide +kernel
theorem dX9_ifPassed_10 : decode cX9_ifPassed 10 = .ok (.invokestatic 162, 3) := by decide +kernel
theorem dX9_ifPassed_13 : decode cX9_ifPassed 13 = .ok (.ifCond .eq 16, 3) := by decide +kernel
theorem dX9_ifPassed_16 : decode cX9_ifPassed 16 = .ok (.iload_n 2, 1) := by decide +kernel
theorem dX9_ifPassed_17 : decode cX9_ifPassed 17 = .ok (.iconst 0, 1) := by decide +kernel
theorem dX9_ifPassed_18 : decode cX9_ifPassed 18 = .ok (.iconst 3, 1) := by decide +kernel
theorem dX9_ifPassed_19 : decode cX9_ifPassed 19 = .ok (.invokestatic 162, 3) := by decide +kernel
theorem dX9_ifPassed_22 : decode cX9_ifPassed 22 = .ok (.ifCond .eq 7, 3) := by decide +kernel
theorem dX9_ifPassed_25 : decode cX9_ifPassed 25 = .ok (.iconst 1, 1) := by decide +kernel
theorem dX9_ifPassed_26 : decode cX9_ifPassed 26 = .ok (.goto 4, 3) := by decide +kernel
theorem dX9_ifPassed_29 : decode cX9_ifPassed 29 = .ok (.iconst 0, 1) := by decide +kernel
theorem dX9_ifPassed_30 : decode cX9_ifPassed 30 = .ok (.iconst 1, 1) := by decide +kernel
theorem dX9_ifPassed_31 : decode cX9_ifPassed 31 = .ok (.invokevirtual 158, 3) := by decide +kernel
theorem dX9_ifPassed_34 : decode cX9_ifPassed 34 = .ok (.ifCond .ne 5, 3) := by decide +kernel
theorem dX9_ifPassed_37 : decode cX9_ifPassed 37 = .ok (.iconst 0, 1) := by decide +kernel
theorem dX9_ifPassed_38 : decode cX9_ifPassed 38 = .ok (.ireturn, 1) := by decide +kernel
theorem dX9_ifPassed_39 : decode cX9_ifPassed 39 = .ok (.aload_n 0, 1) := by decide +kernel
theorem dX9_ifPassed_40 : decode cX9_ifPassed 40 = .ok (.invokevirtual 333, 3) := by decide +kernel
theorem dX9_ifPassed_43 : decode cX9_ifPassed 43 = .ok (.aload_n 0, 1) := by decide +kernel
theorem dX9_ifPassed_44 : decode cX9_ifPassed 44 = .ok (.iload_n 1, 1) := by decide +kernel
theorem dX9_ifPassed_45 : decode cX9_ifPassed 45 = .ok (.invokevirtual 336, 3) := by decide +kernel
theorem dX9_ifPassed_48 : decode cX9_ifPassed 48 = .ok (.istore_n 3, 1) := by decide +kernel
theorem dX9_ifPassed_49 : decode cX9_ifPassed 49 = .ok (.iload_n 2, 1) := by decide +kernel
theorem dX9_ifPassed_50 : decode cX9_ifPassed 50 = .ok (.tableswitch 55 0 2 #[26, 37, 46], 26) := by decide +kernel
theorem dX9_ifPassed_76 : decode cX9_ifPassed 76 = .ok (.aload_n 0, 1) := by decide +kernel
theorem dX9_ifPassed_77 : decode cX9_ifPassed 77 = .ok (.aload_n 0, 1) := by decide +kernel
theorem dX9_ifPassed_78 : decode cX9_ifPassed 78 = .ok (.bipush 7, 2) := by decide +kernel
theorem dX9_ifPassed_80 : decode cX9_ifPassed 80 = .ok (.invokevirtual 81, 3) := by decide +kernel
theorem dX9_ifPassed_83 : decode cX9_ifPassed 83 = .ok (.invokevirtual 339, 3) := by decide +kernel
theorem dX9_ifPassed_86 : decode cX9_ifPassed 86 = .ok (.ireturn, 1) := by decide +kernel
theorem dX9_ifPassed_87 : decode cX9_ifPassed 87 = .ok (.aload_n 0, 1) := by decide +kernel
theorem dX9_ifPassed_88 : decode cX9_ifPassed 88 = .ok (.aload_n 0, 1) := by decide +kernel
theorem dX9_ifPassed_89 : decode cX9_ifPassed 89 = .ok (.invokevirtual 291, 3) := by decide +kernel
theorem dX9_ifPassed_92 : decode cX9_ifPassed 92 = .ok (.invokevirtual 339, 3) := by decide +kernel
theorem dX9_ifPassed_95 : decode cX9_ifPassed 95 = .ok (.ireturn, 1) := by decide +kernel
theorem dX9_ifPassed_96 : decode cX9_ifPassed 96 = .ok (.aload_n 0, 1) := by decide +kernel
theorem dX9_ifPassed_97 : decode cX9_ifPassed 97 = .ok (.aload_n 0, 1) := by decide +kernel
theorem dX9_ifPassed_98 : decode cX9_ifPassed 98 = .ok (.invokevirtual 294, 3) := by decide +kernel
theorem dX9_ifPassed_101 : decode cX9_ifPassed 101 = .ok (.invokevirtual 339, 3) := by decide +kernel
theorem dX9_ifPassed_104 : decode cX9_ifPassed 104 = .ok (.ireturn, 1) := by decide +kernel
theorem dX9_ifPassed_105 : decode cX9_ifPassed 105 = .ok (.aload_n 0, 1) := by decide +kernel
theorem dX9_ifPassed_106 : decode cX9_ifPassed 106 = .ok (.aload_n 0, 1) := by decide +kernel
theorem dX9_ifPassed_107 : decode cX9_ifPassed 107 = .ok (.iconst 0, 1) := by decide +kernel
theorem dX9_ifPassed_108 : decode cX9_ifPassed 108 = .ok (.invokevirtual 288, 3) := by decide +kernel
theorem dX9_ifPassed_111 : decode cX9_ifPassed 111 = .ok (.aload_n 0, 1) := by decide +kernel
theorem dX9_ifPassed_112 : decode cX9_ifPassed 112 = .ok (.iconst 1, 1) := by decide +kernel
theorem dX9_ifPassed_113 : decode cX9_ifPassed 113 = .ok (.invokevirtual 288, 3) := by decide +kernel
theorem dX9_ifPassed_116 : decode cX9_ifPassed 116 = .ok (.iadd, 1) := by decide +kernel
theorem dX9_ifPassed_117 : decode cX9_ifPassed 117 = .ok (.invokevirtual 339, 3) := by decide +kernel
theorem dX9_ifPassed_120 : decode cX9_ifPassed 120 = .ok (.ireturn, 1) := by decide +kernel
theorem dX9_freeIn_0 : decode cX9_freeIn 0 = .ok (.aload_n 0, 1) := by decide +kernel
theorem dX9_freeIn_1 : decode cX9_freeIn 1 = .ok (.iconst 0, 1) := by decide +kernel
theorem dX9_freeIn_2 : decode cX9_freeIn 2 = .ok (.putfield 41, 3) := by decide +kernel
theorem dX9_freeIn_5 : decode cX9_freeIn 5 = .ok (.aload_n 0, 1) := by decide +kernel
theorem dX9_freeIn_6 : decode cX9_freeIn 6 = .ok (.aload_n 0, 1) := by decide +kernel
theorem dX9_freeIn_7 : decode cX9_freeIn 7 = .ok (.iload_n 1, 1) := by decide +kernel
theorem dX9_freeIn_8 : decode cX9_freeIn 8 = .ok (.invokevirtual 297, 3) := by decide +kernel
theorem dX9_freeIn_11 : decode cX9_freeIn 11 = .ok (.iconst 1, 1) := by decide +kernel
theorem dX9_freeIn_12 : decode cX9_freeIn 12 = .ok (.invokevirtual 158, 3) := by decide +kernel
theorem dX9_freeIn_15 : decode cX9_freeIn 15 = .ok (.ifCond .ne 5, 3) := by decide +kernel
theorem dX9_freeIn_18 : decode cX9_freeIn 18 = .ok (.iconst 0, 1) := by decide +kernel
theorem dX9_freeIn_19 : decode cX9_freeIn 19 = .ok (.ireturn, 1) := by decide +kernel
theorem dX9_freeIn_20 : decode cX9_freeIn 20 = .ok (.aload_n 0, 1) := by decide +kernel
theorem dX9_freeIn_21 : decode cX9_freeIn 21 = .ok (.invokevirtual 333, 3) := by decide +kernel
theorem dX9_freeIn_24 : decode cX9_freeIn 24 = .ok (.iconst 0, 1) := by decide +kernel
theorem dX9_freeIn_25 : decode cX9_freeIn 25 = .ok (.istore_n 2, 1) := by decide +kernel
theorem dX9_freeIn_26 : decode cX9_freeIn 26 = .ok (.iload_n 2, 1) := by decide +kernel
theorem dX9_freeIn_27 : decode cX9_freeIn 27 = .ok (.bipush 30, 2) := by decide +kernel
theorem dX9_freeIn_29 : decode cX9_freeIn 29 = .ok (.if_icmp .gt 27, 3) := by decide +kernel
theorem dX9_freeIn_32 : decode cX9_freeIn 32 = .ok (.aload_n 0, 1) := by decide +kernel
theorem dX9_freeIn_33 : decode cX9_freeIn 33 = .ok (.iload_n 1, 1) := by decide +kernel
theorem dX9_freeIn_34 : decode cX9_freeIn 34 = .ok (.invokevirtual 99, 3) := by decide +kernel
theorem dX9_freeIn_37 : decode cX9_freeIn 37 = .ok (.ifCond .ne 9, 3) := by decide +kernel
theorem dX9_freeIn_40 : decode cX9_freeIn 40 = .ok (.aload_n 0, 1) := by decide +kernel
theorem dX9_freeIn_41 : decode cX9_freeIn 41 = .ok (.iload_n 2, 1) := by decide +kernel
theorem dX9_freeIn_42 : decode cX9_freeIn 42 = .ok (.invokevirtual 339, 3) := by decide +kernel
theorem dX9_freeIn_45 : decode cX9_freeIn 45 = .ok (.ireturn, 1) := by decide +kernel
theorem dX9_freeIn_46 : decode cX9_freeIn 46 = .ok (.aload_n 0, 1) := by decide +kernel
theorem dX9_freeIn_47 : decode cX9_freeIn 47 = .ok (.invokevirtual 149, 3) := by decide +kernel
theorem dX9_freeIn_50 : decode cX9_freeIn 50 = .ok (.iinc 2 1, 3) := by decide +kernel
theorem dX9_freeIn_53 : decode cX9_freeIn 53 = .ok (.goto (-27), 3) := by decide +kernel
theorem dX9_freeIn_56 : decode cX9_freeIn 56 = .ok (.aload_n 0, 1) := by decide +kernel
theorem dX9_freeIn_57 : decode cX9_freeIn 57 = .ok (.iconst (-1), 1) := by decide +kernel
theorem dX9_freeIn_58 : decode cX9_freeIn 58 = .ok (.invokevirtual 339, 3) := by decide +kernel
theorem dX9_freeIn_61 : decode cX9_freeIn 61 = .ok (.ireturn, 1) := by decide +kernel
theorem dX9_ifMoved_0 : decode cX9_ifMoved 0 = .ok (.aload_n 0, 1) := by decide +kernel
theorem dX9_ifMoved_1 : decode cX9_ifMoved 1 = .ok (.iconst 0, 1) := by decide +kernel
theorem dX9_ifMoved_2 : decode cX9_ifMoved 2 = .ok (.putfield 41, 3) := by decide +kernel
theorem dX9_ifMoved_5 : decode cX9_ifMoved 5 = .ok (.aload_n 0, 1) := by decide +kernel
theorem dX9_ifMoved_6 : decode cX9_ifMoved 6 = .ok (.aload_n 0, 1) := by decide +kernel
theorem dX9_ifMoved_7 : decode cX9_ifMoved 7 = .ok (.iload_n 1, 1) := by decide +kernel
theorem dX9_ifMoved_8 : decode cX9_ifMoved 8 = .ok (.invokevirtual 297, 3) := by decide +kernel
theorem dX9_ifMoved_11 : decode cX9_ifMoved 11 = .ok (.iconst 1, 1) := by decide +kernel
theorem dX9_ifMoved_12 : decode cX9_ifMoved 12 = .ok (.invokevirtual 158, 3) := by decide +kernel
theorem dX9_ifMoved_15 : decode cX9_ifMoved 15 = .ok (.ifCond .eq 44, 3) := by decide +kernel
theorem dX9_ifMoved_18 : decode cX9_ifMoved 18 = .ok (.aload_n 0, 1) := by decide +kernel
theorem dX9_ifMoved_19 : decode cX9_ifMoved 19 = .ok (.iload_n 2, 1) := by decide +kernel
theorem dX9_ifMoved_20 : decode cX9_ifMoved 20 = .ok (.iconst 0, 1) := by decide +kernel
theorem dX9_ifMoved_21 : decode cX9_ifMoved 21 = .ok (.iconst 5, 1) := by decide +kernel
theorem dX9_ifMoved_22 : decode cX9_ifMoved 22 = .ok (.invokestatic 162, 3) := by decide +kernel
theorem dX9_ifMoved_25 : decode cX9_ifMoved 25 = .ok (.ifCond .eq 16, 3) := by decide +kernel
theorem dX9_ifMoved_28 : decode cX9_ifMoved 28 = .ok (.iload_n 3, 1) := by decide +kernel
theorem dX9_ifMoved_29 : decode cX9_ifMoved 29 = .ok (.iconst 0, 1) := by decide +kernel
theorem dX9_ifMoved_30 : decode cX9_ifMoved 30 = .ok (.iconst 5, 1) := by decide +kernel
theorem dX9_ifMoved_31 : decode cX9_ifMoved 31 = .ok (.invokestatic 162, 3) := by decide +kernel
theorem dX9_ifMoved_34 : decode cX9_ifMoved 34 = .ok (.ifCond .eq 7, 3) := by decide +kernel
theorem dX9_ifMoved_37 : decode cX9_ifMoved 37 = .ok (.iconst 1, 1) := by decide +kernel
theorem dX9_ifMoved_38 : decode cX9_ifMoved 38 = .ok (.goto 4, 3) := by decide +kernel
theorem dX9_ifMoved_41 : decode cX9_ifMoved 41 = .ok (.iconst 0, 1) := by decide +kernel
theorem dX9_ifMoved_42 : decode cX9_ifMoved 42 = .ok (.iconst 2, 1) := by decide +kernel
theorem dX9_ifMoved_43 : decode cX9_ifMoved 43 = .ok (.invokevirtual 158, 3) := by decide +kernel
theorem dX9_ifMoved_46 : decode cX9_ifMoved 46 = .ok (.ifCond .eq 13, 3) := by decide +kernel
theorem dX9_ifMoved_49 : decode cX9_ifMoved 49 = .ok (.aload_n 0, 1) := by decide +kernel
theorem dX9_ifMoved_50 : decode cX9_ifMoved 50 = .ok (.iload_n 1, 1) := by decide +kernel
theorem dX9_ifMoved_51 : decode cX9_ifMoved 51 = .ok (.iload_n 2, 1) := by decide +kernel
theorem dX9_ifMoved_52 : decode cX9_ifMoved 52 = .ok (.iload_n 3, 1) := by decide +kernel
theorem dX9_ifMoved_53 : decode cX9_ifMoved 53 = .ok (.invokevirtual 342, 3) := by decide +kernel
theorem dX9_ifMoved_56 : decode cX9_ifMoved 56 = .ok (.goto 4, 3) := by decide +kernel
theorem dX9_ifMoved_59 : decode cX9_ifMoved 59 = .ok (.iconst 0, 1) := by decide +kernel
theorem dX9_ifMoved_60 : decode cX9_ifMoved 60 = .ok (.ireturn, 1) := by decide +kernel
theorem dX9_safestBench_0 : decode cX9_safestBench 0 = .ok (.aload_n 0, 1) := by decide +kernel
theorem dX9_safestBench_1 : decode cX9_safestBench 1 = .ok (.iconst 0, 1) := by decide +kernel
theorem dX9_safestBench_2 : decode cX9_safestBench 2 = .ok (.putfield 41, 3) := by decide +kernel
theorem dX9_safestBench_5 : decode cX9_safestBench 5 = .ok (.aload_n 0, 1) := by decide +kernel
theorem dX9_safestBench_6 : decode cX9_safestBench 6 = .ok (.aload_n 0, 1) := by decide +kernel
theorem dX9_safestBench_7 : decode cX9_safestBench 7 = .ok (.iload_n 1, 1) := by decide +kernel
theorem dX9_safestBench_8 : decode cX9_safestBench 8 = .ok (.invokevirtual 297, 3) := by decide +kernel
theorem dX9_safestBench_11 : decode cX9_safestBench 11 = .ok (.iconst 1, 1) := by decide +kernel
theorem dX9_safestBench_12 : decode cX9_safestBench 12 = .ok (.invokevirtual 158, 3) := by decide +kernel
theorem dX9_safestBench_15 : decode cX9_safestBench 15 = .ok (.ifCond .ne 5, 3) := by decide +kernel
theorem dX9_safestBench_18 : decode cX9_safestBench 18 = .ok (.iconst 0, 1) := by decide +kernel
theorem dX9_safestBench_19 : decode cX9_safestBench 19 = .ok (.ireturn, 1) := by decide +kernel
theorem dX9_safestBench_20 : decode cX9_safestBench 20 = .ok (.iconst (-1), 1) := by decide +kernel
theorem dX9_safestBench_21 : decode cX9_safestBench 21 = .ok (.istore_n 2, 1) := by decide +kernel
theorem dX9_safestBench_22 : decode cX9_safestBench 22 = .ok (.bipush 13, 2) := by decide +kernel
theorem dX9_safestBench_24 : decode cX9_safestBench 24 = .ok (.istore_n 3, 1) := by decide +kernel
theorem dX9_safestBench_25 : decode cX9_safestBench 25 = .ok (.iconst 0, 1) := by decide +kernel
theorem dX9_safestBench_26 : decode cX9_safestBench 26 = .ok (.istore 4, 2) := by decide +kernel
theorem dX9_safestBench_28 : decode cX9_safestBench 28 = .ok (.iload 4, 2) := by decide +kernel
theorem dX9_safestBench_30 : decode cX9_safestBench 30 = .ok (.bipush 36, 2) := by decide +kernel
theorem dX9_safestBench_32 : decode cX9_safestBench 32 = .ok (.if_icmp .ge 59, 3) := by decide +kernel
theorem dX9_safestBench_35 : decode cX9_safestBench 35 = .ok (.aload_n 0, 1) := by decide +kernel
theorem dX9_safestBench_36 : decode cX9_safestBench 36 = .ok (.iload_n 1, 1) := by decide +kernel
theorem dX9_safestBench_37 : decode cX9_safestBench 37 = .ok (.iload 4, 2) := by decide +kernel
theorem dX9_safestBench_39 : decode cX9_safestBench 39 = .ok (.bipush 6, 2) := by decide +kernel
theorem dX9_safestBench_41 : decode cX9_safestBench 41 = .ok (.idiv, 1) := by decide +kernel
theorem dX9_safestBench_42 : decode cX9_safestBench 42 = .ok (.iload 4, 2) := by decide +kernel
theorem dX9_safestBench_44 : decode cX9_safestBench 44 = .ok (.bipush 6, 2) := by decide +kernel
theorem dX9_safestBench_46 : decode cX9_safestBench 46 = .ok (.irem, 1) := by decide +kernel
theorem dX9_safestBench_47 : decode cX9_safestBench 47 = .ok (.invokevirtual 342, 3) := by decide +kernel
theorem dX9_safestBench_50 : decode cX9_safestBench 50 = .ok (.istore 5, 2) := by decide +kernel
theorem dX9_safestBench_52 : decode cX9_safestBench 52 = .ok (.aload_n 0, 1) := by decide +kernel
theorem dX9_safestBench_53 : decode cX9_safestBench 53 = .ok (.iload 4, 2) := by decide +kernel
theorem dX9_safestBench_55 : decode cX9_safestBench 55 = .ok (.bipush 6, 2) := by decide +kernel
theorem dX9_safestBench_57 : decode cX9_safestBench 57 = .ok (.idiv, 1) := by decide +kernel
theorem dX9_safestBench_58 : decode cX9_safestBench 58 = .ok (.iload 4, 2) := by decide +kernel
theorem dX9_safestBench_60 : decode cX9_safestBench 60 = .ok (.bipush 6, 2) := by decide +kernel
theorem dX9_safestBench_62 : decode cX9_safestBench 62 = .ok (.irem, 1) := by decide +kernel
theorem dX9_safestBench_63 : decode cX9_safestBench 63 = .ok (.invokevirtual 214, 3) := by decide +kernel
theorem dX9_safestBench_66 : decode cX9_safestBench 66 = .ok (.iconst (-1), 1) := by decide +kernel
theorem dX9_safestBench_67 : decode cX9_safestBench 67 = .ok (.if_icmp .ne 18, 3) := by decide +kernel
theorem dX9_safestBench_70 : decode cX9_safestBench 70 = .ok (.iload 5, 2) := by decide +kernel
theorem dX9_safestBench_72 : decode cX9_safestBench 72 = .ok (.iload_n 3, 1) := by decide +kernel
theorem dX9_safestBench_73 : decode cX9_safestBench 73 = .ok (.if_icmp .lt 6, 3) := by decide +kernel
theorem dX9_safestBench_76 : decode cX9_safestBench 76 = .ok (.goto 9, 3) := by decide +kernel
theorem dX9_safestBench_79 : decode cX9_safestBench 79 = .ok (.iload 4, 2) := by decide +kernel
theorem dX9_safestBench_81 : decode cX9_safestBench 81 = .ok (.istore_n 2, 1) := by decide +kernel
theorem dX9_safestBench_82 : decode cX9_safestBench 82 = .ok (.iload 5, 2) := by decide +kernel
theorem dX9_safestBench_84 : decode cX9_safestBench 84 = .ok (.istore_n 3, 1) := by decide +kernel
theorem dX9_safestBench_85 : decode cX9_safestBench 85 = .ok (.iinc 4 1, 3) := by decide +kernel
theorem dX9_safestBench_88 : decode cX9_safestBench 88 = .ok (.goto (-60), 3) := by decide +kernel
theorem dX9_safestBench_91 : decode cX9_safestBench 91 = .ok (.iload_n 2, 1) := by decide +kernel
theorem dX9_safestBench_92 : decode cX9_safestBench 92 = .ok (.ireturn, 1) := by decide +kernel
theorem dX9_safestPartner_0 : decode cX9_safestPartner 0 = .ok (.aload_n 0, 1) := by decide +kernel
theorem dX9_safestPartner_1 : decode cX9_safestPartner 1 = .ok (.iconst 0, 1) := by decide +kernel
theorem dX9_safestPartner_2 : decode cX9_safestPartner 2 = .ok (.putfield 41, 3) := by decide +kernel
theorem dX9_safestPartner_5 : decode cX9_safestPartner 5 = .ok (.aload_n 0, 1) := by decide +kernel
theorem dX9_safestPartner_6 : decode cX9_safestPartner 6 = .ok (.aload_n 0, 1) := by decide +kernel
theorem dX9_safestPartner_7 : decode cX9_safestPartner 7 = .ok (.iload_n 1, 1) := by decide +kernel
theorem dX9_safestPartner_8 : decode cX9_safestPartner 8 = .ok (.invokevirtual 297, 3) := by decide +kernel
theorem dX9_safestPartner_11 : decode cX9_safestPartner 11 = .ok (.iconst 1, 1) := by decide +kernel
theorem dX9_safestPartner_12 : decode cX9_safestPartner 12 = .ok (.invokevirtual 158, 3) := by decide +kernel
theorem dX9_safestPartner_15 : decode cX9_safestPartner 15 = .ok (.ifCond .ne 5, 3) := by decide +kernel
theorem dX9_safestPartner_18 : decode cX9_safestPartner 18 = .ok (.iconst 0, 1) := by decide +kernel
theorem dX9_safestPartner_19 : decode cX9_safestPartner 19 = .ok (.ireturn, 1) := by decide +kernel
theorem dX9_safestPartner_20 : decode cX9_safestPartner 20 = .ok (.iconst (-1), 1) := by decide +kernel
theorem dX9_safestPartner_21 : decode cX9_safestPartner 21 = .ok (.istore_n 2, 1) := by decide +kernel
theorem dX9_safestPartner_22 : decode cX9_safestPartner 22 = .ok (.iconst 0, 1) := by decide +kernel
theorem dX9_safestPartner_23 : decode cX9_safestPartner 23 = .ok (.istore_n 3, 1) := by decide +kernel
theorem dX9_safestPartner_24 : decode cX9_safestPartner 24 = .ok (.iload_n 3, 1) := by decide +kernel
theorem dX9_safestPartner_25 : decode cX9_safestPartner 25 = .ok (.aload_n 0, 1) := by decide +kernel
theorem dX9_safestPartner_26 : decode cX9_safestPartner 26 = .ok (.iconst 0, 1) := by decide +kernel
theorem dX9_safestPartner_27 : decode cX9_safestPartner 27 = .ok (.invokevirtual 50, 3) := by decide +kernel
theorem dX9_safestPartner_30 : decode cX9_safestPartner 30 = .ok (.if_icmp .ge 44, 3) := by decide +kernel
theorem dX9_safestPartner_33 : decode cX9_safestPartner 33 = .ok (.iload_n 3, 1) := by decide +kernel
theorem dX9_safestPartner_34 : decode cX9_safestPartner 34 = .ok (.iload_n 1, 1) := by decide +kernel
theorem dX9_safestPartner_35 : decode cX9_safestPartner 35 = .ok (.if_icmp .eq 33, 3) := by decide +kernel
theorem dX9_safestPartner_38 : decode cX9_safestPartner 38 = .ok (.aload_n 0, 1) := by decide +kernel
theorem dX9_safestPartner_39 : decode cX9_safestPartner 39 = .ok (.iload_n 3, 1) := by decide +kernel
theorem dX9_safestPartner_40 : decode cX9_safestPartner 40 = .ok (.invokevirtual 99, 3) := by decide +kernel
theorem dX9_safestPartner_43 : decode cX9_safestPartner 43 = .ok (.ifCond .ne 25, 3) := by decide +kernel
theorem dX9_safestPartner_46 : decode cX9_safestPartner 46 = .ok (.iload_n 2, 1) := by decide +kernel
theorem dX9_safestPartner_47 : decode cX9_safestPartner 47 = .ok (.iconst (-1), 1) := by decide +kernel
theorem dX9_safestPartner_48 : decode cX9_safestPartner 48 = .ok (.if_icmp .eq 18, 3) := by decide +kernel
theorem dX9_safestPartner_51 : decode cX9_safestPartner 51 = .ok (.aload_n 0, 1) := by decide +kernel
theorem dX9_safestPartner_52 : decode cX9_safestPartner 52 = .ok (.iload_n 1, 1) := by decide +kernel
theorem dX9_safestPartner_53 : decode cX9_safestPartner 53 = .ok (.iload_n 3, 1) := by decide +kernel
theorem dX9_safestPartner_54 : decode cX9_safestPartner 54 = .ok (.invokevirtual 309, 3) := by decide +kernel
theorem dX9_safestPartner_57 : decode cX9_safestPartner 57 = .ok (.aload_n 0, 1) := by decide +kernel
theorem dX9_safestPartner_58 : decode cX9_safestPartner 58 = .ok (.iload_n 1, 1) := by decide +kernel
theorem dX9_safestPartner_59 : decode cX9_safestPartner 59 = .ok (.iload_n 2, 1) := by decide +kernel
theorem dX9_safestPartner_60 : decode cX9_safestPartner 60 = .ok (.invokevirtual 309, 3) := by decide +kernel
theorem dX9_safestPartner_63 : decode cX9_safestPartner 63 = .ok (.if_icmp .ge 5, 3) := by decide +kernel
theorem dX9_safestPartner_66 : decode cX9_safestPartner 66 = .ok (.iload_n 3, 1) := by decide +kernel
theorem dX9_safestPartner_67 : decode cX9_safestPartner 67 = .ok (.istore_n 2, 1) := by decide +kernel
theorem dX9_safestPartner_68 : decode cX9_safestPartner 68 = .ok (.iinc 3 1, 3) := by decide +kernel
theorem dX9_safestPartner_71 : decode cX9_safestPartner 71 = .ok (.goto (-47), 3) := by decide +kernel
theorem dX9_safestPartner_74 : decode cX9_safestPartner 74 = .ok (.iload_n 2, 1) := by decide +kernel
theorem dX9_safestPartner_75 : decode cX9_safestPartner 75 = .ok (.ireturn, 1) := by decide +kernel
theorem dX9_drownsIn_0 : decode cX9_drownsIn 0 = .ok (.aload_n 0, 1) := by decide +kernel
theorem dX9_drownsIn_1 : decode cX9_drownsIn 1 = .ok (.iconst 0, 1) := by decide +kernel
theorem dX9_drownsIn_2 : decode cX9_drownsIn 2 = .ok (.putfield 41, 3) := by decide +kernel
theorem dX9_drownsIn_5 : decode cX9_drownsIn 5 = .ok (.aload_n 0, 1) := by decide +kernel
theorem dX9_drownsIn_6 : decode cX9_drownsIn 6 = .ok (.aload_n 0, 1) := by decide +kernel
theorem dX9_drownsIn_7 : decode cX9_drownsIn 7 = .ok (.iload_n 1, 1) := by decide +kernel
theorem dX9_drownsIn_8 : decode cX9_drownsIn 8 = .ok (.invokevirtual 297, 3) := by decide +kernel
theorem dX9_drownsIn_11 : decode cX9_drownsIn 11 = .ok (.iconst 1, 1) := by decide +kernel
theorem dX9_drownsIn_12 : decode cX9_drownsIn 12 = .ok (.invokevirtual 158, 3) := by decide +kernel
theorem dX9_drownsIn_15 : decode cX9_drownsIn 15 = .ok (.ifCond .eq 17, 3) := by decide +kernel
theorem dX9_drownsIn_18 : decode cX9_drownsIn 18 = .ok (.aload_n 0, 1) := by decide +kernel
theorem dX9_drownsIn_19 : decode cX9_drownsIn 19 = .ok (.iload_n 2, 1) := by decide +kernel
theorem dX9_drownsIn_20 : decode cX9_drownsIn 20 = .ok (.iconst 0, 1) := by decide +kernel
theorem dX9_drownsIn_21 : decode cX9_drownsIn 21 = .ok (.iconst 1, 1) := by decide +kernel
theorem dX9_drownsIn_22 : decode cX9_drownsIn 22 = .ok (.invokestatic 162, 3) := by decide +kernel
theorem dX9_drownsIn_25 : decode cX9_drownsIn 25 = .ok (.iconst 2, 1) := by decide +kernel
theorem dX9_drownsIn_26 : decode cX9_drownsIn 26 = .ok (.invokevirtual 158, 3) := by decide +kernel
theorem dX9_drownsIn_29 : decode cX9_drownsIn 29 = .ok (.ifCond .ne 5, 3) := by decide +kernel
theorem dX9_drownsIn_32 : decode cX9_drownsIn 32 = .ok (.iconst 0, 1) := by decide +kernel
theorem dX9_drownsIn_33 : decode cX9_drownsIn 33 = .ok (.ireturn, 1) := by decide +kernel
theorem dX9_drownsIn_34 : decode cX9_drownsIn 34 = .ok (.iconst 0, 1) := by decide +kernel
theorem dX9_drownsIn_35 : decode cX9_drownsIn 35 = .ok (.istore_n 3, 1) := by decide +kernel
theorem dX9_drownsIn_36 : decode cX9_drownsIn 36 = .ok (.iconst 0, 1) := by decide +kernel
theorem dX9_drownsIn_37 : decode cX9_drownsIn 37 = .ok (.istore 4, 2) := by decide +kernel
theorem dX9_drownsIn_39 : decode cX9_drownsIn 39 = .ok (.iconst 0, 1) := by decide +kernel
theorem dX9_drownsIn_40 : decode cX9_drownsIn 40 = .ok (.istore 5, 2) := by decide +kernel
theorem dX9_drownsIn_42 : decode cX9_drownsIn 42 = .ok (.iload 5, 2) := by decide +kernel
theorem dX9_drownsIn_44 : decode cX9_drownsIn 44 = .ok (.aload_n 0, 1) := by decide +kernel
theorem dX9_drownsIn_45 : decode cX9_drownsIn 45 = .ok (.bipush 6, 2) := by decide +kernel
theorem dX9_drownsIn_47 : decode cX9_drownsIn 47 = .ok (.invokevirtual 50, 3) := by decide +kernel
theorem dX9_drownsIn_50 : decode cX9_drownsIn 50 = .ok (.if_icmp .ge 47, 3) := by decide +kernel
theorem dX9_drownsIn_53 : decode cX9_drownsIn 53 = .ok (.aload_n 0, 1) := by decide +kernel
theorem dX9_drownsIn_54 : decode cX9_drownsIn 54 = .ok (.iload 5, 2) := by decide +kernel
theorem dX9_drownsIn_56 : decode cX9_drownsIn 56 = .ok (.iconst 0, 1) := by decide +kernel
theorem dX9_drownsIn_57 : decode cX9_drownsIn 57 = .ok (.invokevirtual 84, 3) := by decide +kernel
theorem dX9_drownsIn_60 : decode cX9_drownsIn 60 = .ok (.iload_n 1, 1) := by decide +kernel
theorem dX9_drownsIn_61 : decode cX9_drownsIn 61 = .ok (.if_icmp .ne 30, 3) := by decide +kernel
theorem dX9_drownsIn_64 : decode cX9_drownsIn 64 = .ok (.aload_n 0, 1) := by decide +kernel
theorem dX9_drownsIn_65 : decode cX9_drownsIn 65 = .ok (.iload 5, 2) := by decide +kernel
theorem dX9_drownsIn_67 : decode cX9_drownsIn 67 = .ok (.iconst 2, 1) := by decide +kernel
theorem dX9_drownsIn_68 : decode cX9_drownsIn 68 = .ok (.invokevirtual 84, 3) := by decide +kernel
theorem dX9_drownsIn_71 : decode cX9_drownsIn 71 = .ok (.iload_n 2, 1) := by decide +kernel
theorem dX9_drownsIn_72 : decode cX9_drownsIn 72 = .ok (.if_icmp .eq 6, 3) := by decide +kernel
theorem dX9_drownsIn_75 : decode cX9_drownsIn 75 = .ok (.goto 16, 3) := by decide +kernel
theorem dX9_drownsIn_78 : decode cX9_drownsIn 78 = .ok (.iload_n 3, 1) := by decide +kernel
theorem dX9_drownsIn_79 : decode cX9_drownsIn 79 = .ok (.aload_n 0, 1) := by decide +kernel
theorem dX9_drownsIn_80 : decode cX9_drownsIn 80 = .ok (.iload 5, 2) := by decide +kernel
theorem dX9_drownsIn_82 : decode cX9_drownsIn 82 = .ok (.iconst 3, 1) := by decide +kernel
theorem dX9_drownsIn_83 : decode cX9_drownsIn 83 = .ok (.invokevirtual 84, 3) := by decide +kernel
theorem dX9_drownsIn_86 : decode cX9_drownsIn 86 = .ok (.iadd, 1) := by decide +kernel
theorem dX9_drownsIn_87 : decode cX9_drownsIn 87 = .ok (.istore_n 3, 1) := by decide +kernel
theorem dX9_drownsIn_88 : decode cX9_drownsIn 88 = .ok (.iinc 4 1, 3) := by decide +kernel
theorem dX9_drownsIn_91 : decode cX9_drownsIn 91 = .ok (.iinc 5 1, 3) := by decide +kernel
theorem dX9_drownsIn_94 : decode cX9_drownsIn 94 = .ok (.goto (-52), 3) := by decide +kernel
theorem dX9_drownsIn_97 : decode cX9_drownsIn 97 = .ok (.iload 4, 2) := by decide +kernel
theorem dX9_drownsIn_99 : decode cX9_drownsIn 99 = .ok (.ifCond .ne 5, 3) := by decide +kernel
theorem dX9_drownsIn_102 : decode cX9_drownsIn 102 = .ok (.iconst (-1), 1) := by decide +kernel
theorem dX9_drownsIn_103 : decode cX9_drownsIn 103 = .ok (.ireturn, 1) := by decide +kernel
theorem dX9_drownsIn_104 : decode cX9_drownsIn 104 = .ok (.iconst 0, 1) := by decide +kernel
theorem dX9_drownsIn_105 : decode cX9_drownsIn 105 = .ok (.istore 5, 2) := by decide +kernel
theorem dX9_drownsIn_107 : decode cX9_drownsIn 107 = .ok (.iload_n 3, 1) := by decide +kernel
theorem dX9_drownsIn_108 : decode cX9_drownsIn 108 = .ok (.iload 5, 2) := by decide +kernel
theorem dX9_drownsIn_110 : decode cX9_drownsIn 110 = .ok (.iload 4, 2) := by decide +kernel
theorem dX9_drownsIn_112 : decode cX9_drownsIn 112 = .ok (.imul, 1) := by decide +kernel
theorem dX9_drownsIn_113 : decode cX9_drownsIn 113 = .ok (.iadd, 1) := by decide +kernel
theorem dX9_drownsIn_114 : decode cX9_drownsIn 114 = .ok (.bipush 20, 2) := by decide +kernel
theorem dX9_drownsIn_116 : decode cX9_drownsIn 116 = .ok (.if_icmp .gt 9, 3) := by decide +kernel
theorem dX9_drownsIn_119 : decode cX9_drownsIn 119 = .ok (.iinc 5 1, 3) := by decide +kernel
theorem dX9_drownsIn_122 : decode cX9_drownsIn 122 = .ok (.goto (-15), 3) := by decide +kernel
theorem dX9_drownsIn_125 : decode cX9_drownsIn 125 = .ok (.iload 5, 2) := by decide +kernel
theorem dX9_drownsIn_127 : decode cX9_drownsIn 127 = .ok (.ireturn, 1) := by decide +kernel
theorem dX9_keeps_0 : decode cX9_keeps 0 = .ok (.aload_n 0, 1) := by decide +kernel
theorem dX9_keeps_1 : decode cX9_keeps 1 = .ok (.getfield 234, 3) := by decide +kernel
theorem dX9_keeps_4 : decode cX9_keeps 4 = .ok (.bipush 6, 2) := by decide +kernel
theorem dX9_keeps_6 : decode cX9_keeps 6 = .ok (.if_icmp .ne 39, 3) := by decide +kernel
theorem dX9_keeps_9 : decode cX9_keeps 9 = .ok (.iconst 1, 1) := by decide +kernel
theorem dX9_keeps_10 : decode cX9_keeps 10 = .ok (.istore_n 1, 1) := by decide +kernel
theorem dX9_keeps_11 : decode cX9_keeps 11 = .ok (.iload_n 1, 1) := by decide +kernel
theorem dX9_keeps_12 : decode cX9_keeps 12 = .ok (.bipush 6, 2) := by decide +kernel
theorem dX9_keeps_14 : decode cX9_keeps 14 = .ok (.if_icmp .ge 21, 3) := by decide +kernel
theorem dX9_keeps_17 : decode cX9_keeps 17 = .ok (.aload_n 0, 1) := by decide +kernel
theorem dX9_keeps_18 : decode cX9_keeps 18 = .ok (.iconst 1, 1) := by decide +kernel
theorem dX9_keeps_19 : decode cX9_keeps 19 = .ok (.iload_n 1, 1) := by decide +kernel
theorem dX9_keeps_20 : decode cX9_keeps 20 = .ok (.iadd, 1) := by decide +kernel
theorem dX9_keeps_21 : decode cX9_keeps 21 = .ok (.iconst 1, 1) := by decide +kernel
theorem dX9_keeps_22 : decode cX9_keeps 22 = .ok (.iload_n 1, 1) := by decide +kernel
theorem dX9_keeps_23 : decode cX9_keeps 23 = .ok (.iadd, 1) := by decide +kernel
theorem dX9_keeps_24 : decode cX9_keeps 24 = .ok (.iconst 1, 1) := by decide +kernel
theorem dX9_keeps_25 : decode cX9_keeps 25 = .ok (.isub, 1) := by decide +kernel
theorem dX9_keeps_26 : decode cX9_keeps 26 = .ok (.invokevirtual 152, 3) := by decide +kernel
theorem dX9_keeps_29 : decode cX9_keeps 29 = .ok (.iinc 1 1, 3) := by decide +kernel
theorem dX9_keeps_32 : decode cX9_keeps 32 = .ok (.goto (-21), 3) := by decide +kernel
theorem dX9_keeps_35 : decode cX9_keeps 35 = .ok (.aload_n 0, 1) := by decide +kernel
theorem dX9_keeps_36 : decode cX9_keeps 36 = .ok (.dup, 1) := by decide +kernel
theorem dX9_keeps_37 : decode cX9_keeps 37 = .ok (.getfield 234, 3) := by decide +kernel
theorem dX9_keeps_40 : decode cX9_keeps 40 = .ok (.iconst 1, 1) := by decide +kernel
theorem dX9_keeps_41 : decode cX9_keeps 41 = .ok (.isub, 1) := by decide +kernel
theorem dX9_keeps_42 : decode cX9_keeps 42 = .ok (.putfield 234, 3) := by decide +kernel
theorem dX9_keeps_45 : decode cX9_keeps 45 = .ok (.aload_n 0, 1) := by decide +kernel
theorem dX9_keeps_46 : decode cX9_keeps 46 = .ok (.iconst 0, 1) := by decide +kernel
theorem dX9_keeps_47 : decode cX9_keeps 47 = .ok (.iconst 1, 1) := by decide +kernel
theorem dX9_keeps_48 : decode cX9_keeps 48 = .ok (.aload_n 0, 1) := by decide +kernel
theorem dX9_keeps_49 : decode cX9_keeps 49 = .ok (.getfield 234, 3) := by decide +kernel
theorem dX9_keeps_52 : decode cX9_keeps 52 = .ok (.iadd, 1) := by decide +kernel
theorem dX9_keeps_53 : decode cX9_keeps 53 = .ok (.invokevirtual 152, 3) := by decide +kernel
theorem dX9_keeps_56 : decode cX9_keeps 56 = .ok (.aload_n 0, 1) := by decide +kernel
theorem dX9_keeps_57 : decode cX9_keeps 57 = .ok (.dup, 1) := by decide +kernel
theorem dX9_keeps_58 : decode cX9_keeps 58 = .ok (.getfield 234, 3) := by decide +kernel
theorem dX9_keeps_61 : decode cX9_keeps 61 = .ok (.iconst 1, 1) := by decide +kernel
theorem dX9_keeps_62 : decode cX9_keeps 62 = .ok (.iadd, 1) := by decide +kernel
theorem dX9_keeps_63 : decode cX9_keeps 63 = .ok (.putfield 234, 3) := by decide +kernel
theorem dX9_keeps_66 : decode cX9_keeps 66 = .ok (.return_, 1) := by decide +kernel
theorem dX9_refuses_0 : decode cX9_refuses 0 = .ok (.aload_n 0, 1) := by decide +kernel
theorem dX9_refuses_1 : decode cX9_refuses 1 = .ok (.getfield 17, 3) := by decide +kernel
theorem dX9_refuses_4 : decode cX9_refuses 4 = .ok (.iload_n 1, 1) := by decide +kernel
theorem dX9_refuses_5 : decode cX9_refuses 5 = .ok (.dup2, 1) := by decide +kernel
theorem dX9_refuses_6 : decode cX9_refuses 6 = .ok (.iaload, 1) := by decide +kernel
theorem dX9_refuses_7 : decode cX9_refuses 7 = .ok (.iconst 1, 1) := by decide +kernel
theorem dX9_refuses_8 : decode cX9_refuses 8 = .ok (.iadd, 1) := by decide +kernel
theorem dX9_refuses_9 : decode cX9_refuses 9 = .ok (.iastore, 1) := by decide +kernel
theorem dX9_refuses_10 : decode cX9_refuses 10 = .ok (.iload_n 1, 1) := by decide +kernel
theorem dX9_refuses_11 : decode cX9_refuses 11 = .ok (.ineg, 1) := by decide +kernel
theorem dX9_refuses_12 : decode cX9_refuses 12 = .ok (.ireturn, 1) := by decide +kernel
theorem dX9_work_0 : decode cX9_work 0 = .ok (.aload_n 0, 1) := by decide +kernel
theorem dX9_work_1 : decode cX9_work 1 = .ok (.iconst 0, 1) := by decide +kernel
theorem dX9_work_2 : decode cX9_work 2 = .ok (.putfield 41, 3) := by decide +kernel
theorem dX9_work_5 : decode cX9_work 5 = .ok (.aload_n 0, 1) := by decide +kernel
theorem dX9_work_6 : decode cX9_work 6 = .ok (.aload_n 0, 1) := by decide +kernel
theorem dX9_work_7 : decode cX9_work 7 = .ok (.iload_n 1, 1) := by decide +kernel
theorem dX9_work_8 : decode cX9_work 8 = .ok (.invokevirtual 297, 3) := by decide +kernel
theorem dX9_work_11 : decode cX9_work 11 = .ok (.iconst 1, 1) := by decide +kernel
theorem dX9_work_12 : decode cX9_work 12 = .ok (.invokevirtual 158, 3) := by decide +kernel
theorem dX9_work_15 : decode cX9_work 15 = .ok (.ifCond .eq 35, 3) := by decide +kernel
theorem dX9_work_18 : decode cX9_work 18 = .ok (.aload_n 0, 1) := by decide +kernel
theorem dX9_work_19 : decode cX9_work 19 = .ok (.iload_n 2, 1) := by decide +kernel
theorem dX9_work_20 : decode cX9_work 20 = .ok (.iconst 0, 1) := by decide +kernel
theorem dX9_work_21 : decode cX9_work 21 = .ok (.iconst 1, 1) := by decide +kernel
theorem dX9_work_22 : decode cX9_work 22 = .ok (.invokestatic 162, 3) := by decide +kernel
theorem dX9_work_25 : decode cX9_work 25 = .ok (.ifCond .eq 17, 3) := by decide +kernel
theorem dX9_work_28 : decode cX9_work 28 = .ok (.iload_n 3, 1) := by decide +kernel
theorem dX9_work_29 : decode cX9_work 29 = .ok (.iconst 1, 1) := by decide +kernel
theorem dX9_work_30 : decode cX9_work 30 = .ok (.bipush 20, 2) := by decide +kernel
theorem dX9_work_32 : decode cX9_work 32 = .ok (.invokestatic 162, 3) := by decide +kernel
theorem dX9_work_35 : decode cX9_work 35 = .ok (.ifCond .eq 7, 3) := by decide +kernel
theorem dX9_work_38 : decode cX9_work 38 = .ok (.iconst 1, 1) := by decide +kernel
theorem dX9_work_39 : decode cX9_work 39 = .ok (.goto 4, 3) := by decide +kernel
theorem dX9_work_42 : decode cX9_work 42 = .ok (.iconst 0, 1) := by decide +kernel
theorem dX9_work_43 : decode cX9_work 43 = .ok (.iconst 2, 1) := by decide +kernel
theorem dX9_work_44 : decode cX9_work 44 = .ok (.invokevirtual 158, 3) := by decide +kernel
theorem dX9_work_47 : decode cX9_work 47 = .ok (.ifCond .ne 5, 3) := by decide +kernel
theorem dX9_work_50 : decode cX9_work 50 = .ok (.iconst 0, 1) := by decide +kernel
theorem dX9_work_51 : decode cX9_work 51 = .ok (.ireturn, 1) := by decide +kernel
theorem dX9_work_52 : decode cX9_work 52 = .ok (.iload_n 3, 1) := by decide +kernel
theorem dX9_work_53 : decode cX9_work 53 = .ok (.bipush 10, 2) := by decide +kernel
theorem dX9_work_55 : decode cX9_work 55 = .ok (.aload_n 0, 1) := by decide +kernel
theorem dX9_work_56 : decode cX9_work 56 = .ok (.iload_n 1, 1) := by decide +kernel
theorem dX9_work_57 : decode cX9_work 57 = .ok (.iconst 2, 1) := by decide +kernel
theorem dX9_work_58 : decode cX9_work 58 = .ok (.iload_n 2, 1) := by decide +kernel
theorem dX9_work_59 : decode cX9_work 59 = .ok (.iadd, 1) := by decide +kernel
theorem dX9_work_60 : decode cX9_work 60 = .ok (.invokevirtual 54, 3) := by decide +kernel
theorem dX9_work_63 : decode cX9_work 63 = .ok (.isub, 1) := by decide +kernel
theorem dX9_work_64 : decode cX9_work 64 = .ok (.imul, 1) := by decide +kernel
theorem dX9_work_65 : decode cX9_work 65 = .ok (.istore 4, 2) := by decide +kernel
theorem dX9_work_67 : decode cX9_work 67 = .ok (.aload_n 0, 1) := by decide +kernel
theorem dX9_work_68 : decode cX9_work 68 = .ok (.iload_n 1, 1) := by decide +kernel
theorem dX9_work_69 : decode cX9_work 69 = .ok (.iconst 5, 1) := by decide +kernel
theorem dX9_work_70 : decode cX9_work 70 = .ok (.invokevirtual 54, 3) := by decide +kernel
theorem dX9_work_73 : decode cX9_work 73 = .ok (.iload 4, 2) := by decide +kernel
theorem dX9_work_75 : decode cX9_work 75 = .ok (.if_icmp .ge 9, 3) := by decide +kernel
theorem dX9_work_78 : decode cX9_work 78 = .ok (.aload_n 0, 1) := by decide +kernel
theorem dX9_work_79 : decode cX9_work 79 = .ok (.iconst 2, 1) := by decide +kernel
theorem dX9_work_80 : decode cX9_work 80 = .ok (.invokevirtual 345, 3) := by decide +kernel
theorem dX9_work_83 : decode cX9_work 83 = .ok (.ireturn, 1) := by decide +kernel
theorem dX9_work_84 : decode cX9_work 84 = .ok (.aload_n 0, 1) := by decide +kernel
theorem dX9_work_85 : decode cX9_work 85 = .ok (.iload_n 1, 1) := by decide +kernel
theorem dX9_work_86 : decode cX9_work 86 = .ok (.iload_n 2, 1) := by decide +kernel
theorem dX9_work_87 : decode cX9_work 87 = .ok (.invokevirtual 65, 3) := by decide +kernel
theorem dX9_work_90 : decode cX9_work 90 = .ok (.iload_n 3, 1) := by decide +kernel
theorem dX9_work_91 : decode cX9_work 91 = .ok (.iadd, 1) := by decide +kernel
theorem dX9_work_92 : decode cX9_work 92 = .ok (.bipush 20, 2) := by decide +kernel
theorem dX9_work_94 : decode cX9_work 94 = .ok (.if_icmp .le 9, 3) := by decide +kernel
theorem dX9_work_97 : decode cX9_work 97 = .ok (.aload_n 0, 1) := by decide +kernel
theorem dX9_work_98 : decode cX9_work 98 = .ok (.iconst 3, 1) := by decide +kernel
theorem dX9_work_99 : decode cX9_work 99 = .ok (.invokevirtual 345, 3) := by decide +kernel
theorem dX9_work_102 : decode cX9_work 102 = .ok (.ireturn, 1) := by decide +kernel
theorem dX9_work_103 : decode cX9_work 103 = .ok (.aload_n 0, 1) := by decide +kernel
theorem dX9_work_104 : decode cX9_work 104 = .ok (.invokevirtual 348, 3) := by decide +kernel
theorem dX9_work_107 : decode cX9_work 107 = .ok (.iconst 0, 1) := by decide +kernel
theorem dX9_work_108 : decode cX9_work 108 = .ok (.istore 5, 2) := by decide +kernel
theorem dX9_work_110 : decode cX9_work 110 = .ok (.iload 5, 2) := by decide +kernel
theorem dX9_work_112 : decode cX9_work 112 = .ok (.iload_n 3, 1) := by decide +kernel
theorem dX9_work_113 : decode cX9_work 113 = .ok (.if_icmp .ge 16, 3) := by decide +kernel
theorem dX9_work_116 : decode cX9_work 116 = .ok (.aload_n 0, 1) := by decide +kernel
theorem dX9_work_117 : decode cX9_work 117 = .ok (.iload_n 1, 1) := by decide +kernel
theorem dX9_work_118 : decode cX9_work 118 = .ok (.iload_n 2, 1) := by decide +kernel
theorem dX9_work_119 : decode cX9_work 119 = .ok (.iload_n 1, 1) := by decide +kernel
theorem dX9_work_120 : decode cX9_work 120 = .ok (.invokevirtual 75, 3) := by decide +kernel
theorem dX9_work_123 : decode cX9_work 123 = .ok (.iinc 5 1, 3) := by decide +kernel
theorem dX9_work_126 : decode cX9_work 126 = .ok (.goto (-16), 3) := by decide +kernel
theorem dX9_work_129 : decode cX9_work 129 = .ok (.aload_n 0, 1) := by decide +kernel
theorem dX9_work_130 : decode cX9_work 130 = .ok (.iload_n 1, 1) := by decide +kernel
theorem dX9_work_131 : decode cX9_work 131 = .ok (.iconst 5, 1) := by decide +kernel
theorem dX9_work_132 : decode cX9_work 132 = .ok (.iload 4, 2) := by decide +kernel
theorem dX9_work_134 : decode cX9_work 134 = .ok (.ineg, 1) := by decide +kernel
theorem dX9_work_135 : decode cX9_work 135 = .ok (.invokevirtual 68, 3) := by decide +kernel
theorem dX9_work_138 : decode cX9_work 138 = .ok (.aload_n 0, 1) := by decide +kernel
theorem dX9_work_139 : decode cX9_work 139 = .ok (.iconst 0, 1) := by decide +kernel
theorem dX9_work_140 : decode cX9_work 140 = .ok (.iload_n 2, 1) := by decide +kernel
theorem dX9_work_141 : decode cX9_work 141 = .ok (.iadd, 1) := by decide +kernel
theorem dX9_work_142 : decode cX9_work 142 = .ok (.iload_n 3, 1) := by decide +kernel
theorem dX9_work_143 : decode cX9_work 143 = .ok (.invokevirtual 117, 3) := by decide +kernel
theorem dX9_work_146 : decode cX9_work 146 = .ok (.aload_n 0, 1) := by decide +kernel
theorem dX9_work_147 : decode cX9_work 147 = .ok (.iload_n 1, 1) := by decide +kernel
theorem dX9_work_148 : decode cX9_work 148 = .ok (.iconst 5, 1) := by decide +kernel
theorem dX9_work_149 : decode cX9_work 149 = .ok (.invokevirtual 54, 3) := by decide +kernel
theorem dX9_work_152 : decode cX9_work 152 = .ok (.ireturn, 1) := by decide +kernel
theorem dX9_barsGiving_0 : decode cX9_barsGiving 0 = .ok (.aload_n 0, 1) := by decide +kernel
theorem dX9_barsGiving_1 : decode cX9_barsGiving 1 = .ok (.iload_n 1, 1) := by decide +kernel
theorem dX9_barsGiving_2 : decode cX9_barsGiving 2 = .ok (.iload_n 3, 1) := by decide +kernel
theorem dX9_barsGiving_3 : decode cX9_barsGiving 3 = .ok (.invokevirtual 65, 3) := by decide +kernel
theorem dX9_barsGiving_6 : decode cX9_barsGiving 6 = .ok (.iload 4, 2) := by decide +kernel
theorem dX9_barsGiving_8 : decode cX9_barsGiving 8 = .ok (.if_icmp .ge 5, 3) := by decide +kernel
theorem dX9_barsGiving_11 : decode cX9_barsGiving 11 = .ok (.iconst 4, 1) := by decide +kernel
theorem dX9_barsGiving_12 : decode cX9_barsGiving 12 = .ok (.ireturn, 1) := by decide +kernel
theorem dX9_barsGiving_13 : decode cX9_barsGiving 13 = .ok (.aload_n 0, 1) := by decide +kernel
theorem dX9_barsGiving_14 : decode cX9_barsGiving 14 = .ok (.iload_n 2, 1) := by decide +kernel
theorem dX9_barsGiving_15 : decode cX9_barsGiving 15 = .ok (.iload_n 3, 1) := by decide +kernel
theorem dX9_barsGiving_16 : decode cX9_barsGiving 16 = .ok (.invokevirtual 65, 3) := by decide +kernel
theorem dX9_barsGiving_19 : decode cX9_barsGiving 19 = .ok (.iload 4, 2) := by decide +kernel
theorem dX9_barsGiving_21 : decode cX9_barsGiving 21 = .ok (.iadd, 1) := by decide +kernel
theorem dX9_barsGiving_22 : decode cX9_barsGiving 22 = .ok (.bipush 20, 2) := by decide +kernel
theorem dX9_barsGiving_24 : decode cX9_barsGiving 24 = .ok (.if_icmp .le 7, 3) := by decide +kernel
theorem dX9_barsGiving_27 : decode cX9_barsGiving 27 = .ok (.iconst 3, 1) := by decide +kernel
theorem dX9_barsGiving_28 : decode cX9_barsGiving 28 = .ok (.goto 4, 3) := by decide +kernel
theorem dX9_barsGiving_31 : decode cX9_barsGiving 31 = .ok (.iconst 0, 1) := by decide +kernel
theorem dX9_barsGiving_32 : decode cX9_barsGiving 32 = .ok (.ireturn, 1) := by decide +kernel
theorem dX9_isEither_0 : decode cX9_isEither 0 = .ok (.aload_n 0, 1) := by decide +kernel
theorem dX9_isEither_1 : decode cX9_isEither 1 = .ok (.iload_n 1, 1) := by decide +kernel
theorem dX9_isEither_2 : decode cX9_isEither 2 = .ok (.invokevirtual 99, 3) := by decide +kernel
theorem dX9_isEither_5 : decode cX9_isEither 5 = .ok (.ifCond .ne 11, 3) := by decide +kernel
theorem dX9_isEither_8 : decode cX9_isEither 8 = .ok (.aload_n 0, 1) := by decide +kernel
theorem dX9_isEither_9 : decode cX9_isEither 9 = .ok (.iload_n 2, 1) := by decide +kernel
theorem dX9_isEither_10 : decode cX9_isEither 10 = .ok (.invokevirtual 99, 3) := by decide +kernel
theorem dX9_isEither_13 : decode cX9_isEither 13 = .ok (.ifCond .eq 7, 3) := by decide +kernel
theorem dX9_isEither_16 : decode cX9_isEither 16 = .ok (.iconst 1, 1) := by decide +kernel
theorem dX9_isEither_17 : decode cX9_isEither 17 = .ok (.goto 4, 3) := by decide +kernel
theorem dX9_isEither_20 : decode cX9_isEither 20 = .ok (.iconst 0, 1) := by decide +kernel
theorem dX9_isEither_21 : decode cX9_isEither 21 = .ok (.ireturn, 1) := by decide +kernel
theorem dX9_barsSwap_0 : decode cX9_barsSwap 0 = .ok (.iload_n 1, 1) := by decide +kernel
theorem dX9_barsSwap_1 : decode cX9_barsSwap 1 = .ok (.iload_n 2, 1) := by decide +kernel
theorem dX9_barsSwap_2 : decode cX9_barsSwap 2 = .ok (.if_icmp .ne 5, 3) := by decide +kernel
theorem dX9_barsSwap_5 : decode cX9_barsSwap 5 = .ok (.iconst 5, 1) := by decide +kernel
theorem dX9_barsSwap_6 : decode cX9_barsSwap 6 = .ok (.ireturn, 1) := by decide +kernel
theorem dX9_barsSwap_7 : decode cX9_barsSwap 7 = .ok (.aload_n 0, 1) := by decide +kernel
theorem dX9_barsSwap_8 : decode cX9_barsSwap 8 = .ok (.iload_n 1, 1) := by decide +kernel
theorem dX9_barsSwap_9 : decode cX9_barsSwap 9 = .ok (.iload_n 2, 1) := by decide +kernel
theorem dX9_barsSwap_10 : decode cX9_barsSwap 10 = .ok (.invokevirtual 351, 3) := by decide +kernel
theorem dX9_barsSwap_13 : decode cX9_barsSwap 13 = .ok (.ifCond .eq 5, 3) := by decide +kernel
theorem dX9_barsSwap_16 : decode cX9_barsSwap 16 = .ok (.iconst 1, 1) := by decide +kernel
theorem dX9_barsSwap_17 : decode cX9_barsSwap 17 = .ok (.ireturn, 1) := by decide +kernel
theorem dX9_barsSwap_18 : decode cX9_barsSwap 18 = .ok (.aload_n 0, 1) := by decide +kernel
theorem dX9_barsSwap_19 : decode cX9_barsSwap 19 = .ok (.iload_n 1, 1) := by decide +kernel
theorem dX9_barsSwap_20 : decode cX9_barsSwap 20 = .ok (.iload_n 2, 1) := by decide +kernel
theorem dX9_barsSwap_21 : decode cX9_barsSwap 21 = .ok (.iconst 0, 1) := by decide +kernel
theorem dX9_barsSwap_22 : decode cX9_barsSwap 22 = .ok (.iload_n 3, 1) := by decide +kernel
theorem dX9_barsSwap_23 : decode cX9_barsSwap 23 = .ok (.invokevirtual 354, 3) := by decide +kernel
theorem dX9_barsSwap_26 : decode cX9_barsSwap 26 = .ok (.istore 5, 2) := by decide +kernel
theorem dX9_barsSwap_28 : decode cX9_barsSwap 28 = .ok (.aload_n 0, 1) := by decide +kernel
theorem dX9_barsSwap_29 : decode cX9_barsSwap 29 = .ok (.iload_n 2, 1) := by decide +kernel
theorem dX9_barsSwap_30 : decode cX9_barsSwap 30 = .ok (.iload_n 1, 1) := by decide +kernel
theorem dX9_barsSwap_31 : decode cX9_barsSwap 31 = .ok (.iconst 1, 1) := by decide +kernel
theorem dX9_barsSwap_32 : decode cX9_barsSwap 32 = .ok (.iload 4, 2) := by decide +kernel
theorem dX9_barsSwap_34 : decode cX9_barsSwap 34 = .ok (.invokevirtual 354, 3) := by decide +kernel
theorem dX9_barsSwap_37 : decode cX9_barsSwap 37 = .ok (.istore 6, 2) := by decide +kernel
theorem dX9_barsSwap_39 : decode cX9_barsSwap 39 = .ok (.iload 5, 2) := by decide +kernel
theorem dX9_barsSwap_41 : decode cX9_barsSwap 41 = .ok (.iconst 4, 1) := by decide +kernel
theorem dX9_barsSwap_42 : decode cX9_barsSwap 42 = .ok (.if_icmp .eq 9, 3) := by decide +kernel
theorem dX9_barsSwap_45 : decode cX9_barsSwap 45 = .ok (.iload 6, 2) := by decide +kernel
theorem dX9_barsSwap_47 : decode cX9_barsSwap 47 = .ok (.iconst 4, 1) := by decide +kernel
theorem dX9_barsSwap_48 : decode cX9_barsSwap 48 = .ok (.if_icmp .ne 5, 3) := by decide +kernel
theorem dX9_barsSwap_51 : decode cX9_barsSwap 51 = .ok (.iconst 4, 1) := by decide +kernel
theorem dX9_barsSwap_52 : decode cX9_barsSwap 52 = .ok (.ireturn, 1) := by decide +kernel
theorem dX9_barsSwap_53 : decode cX9_barsSwap 53 = .ok (.iload 5, 2) := by decide +kernel
theorem dX9_barsSwap_55 : decode cX9_barsSwap 55 = .ok (.iload 6, 2) := by decide +kernel
theorem dX9_barsSwap_57 : decode cX9_barsSwap 57 = .ok (.invokestatic 130, 3) := by decide +kernel
theorem dX9_barsSwap_60 : decode cX9_barsSwap 60 = .ok (.ireturn, 1) := by decide +kernel
theorem dX9_swap_0 : decode cX9_swap 0 = .ok (.aload_n 0, 1) := by decide +kernel
theorem dX9_swap_1 : decode cX9_swap 1 = .ok (.iconst 0, 1) := by decide +kernel
theorem dX9_swap_2 : decode cX9_swap 2 = .ok (.putfield 41, 3) := by decide +kernel
theorem dX9_swap_5 : decode cX9_swap 5 = .ok (.aload_n 0, 1) := by decide +kernel
theorem dX9_swap_6 : decode cX9_swap 6 = .ok (.aload_n 0, 1) := by decide +kernel
theorem dX9_swap_7 : decode cX9_swap 7 = .ok (.iload_n 1, 1) := by decide +kernel
theorem dX9_swap_8 : decode cX9_swap 8 = .ok (.invokevirtual 297, 3) := by decide +kernel
theorem dX9_swap_11 : decode cX9_swap 11 = .ok (.ifCond .eq 15, 3) := by decide +kernel
theorem dX9_swap_14 : decode cX9_swap 14 = .ok (.aload_n 0, 1) := by decide +kernel
theorem dX9_swap_15 : decode cX9_swap 15 = .ok (.iload_n 2, 1) := by decide +kernel
theorem dX9_swap_16 : decode cX9_swap 16 = .ok (.invokevirtual 297, 3) := by decide +kernel
theorem dX9_swap_19 : decode cX9_swap 19 = .ok (.ifCond .eq 7, 3) := by decide +kernel
theorem dX9_swap_22 : decode cX9_swap 22 = .ok (.iconst 1, 1) := by decide +kernel
theorem dX9_swap_23 : decode cX9_swap 23 = .ok (.goto 4, 3) := by decide +kernel
theorem dX9_swap_26 : decode cX9_swap 26 = .ok (.iconst 0, 1) := by decide +kernel
theorem dX9_swap_27 : decode cX9_swap 27 = .ok (.iconst 1, 1) := by decide +kernel
theorem dX9_swap_28 : decode cX9_swap 28 = .ok (.invokevirtual 158, 3) := by decide +kernel
theorem dX9_swap_31 : decode cX9_swap 31 = .ok (.ifCond .eq 37, 3) := by decide +kernel
theorem dX9_swap_34 : decode cX9_swap 34 = .ok (.aload_n 0, 1) := by decide +kernel
theorem dX9_swap_35 : decode cX9_swap 35 = .ok (.iload_n 3, 1) := by decide +kernel
theorem dX9_swap_36 : decode cX9_swap 36 = .ok (.iconst 0, 1) := by decide +kernel
theorem dX9_swap_37 : decode cX9_swap 37 = .ok (.bipush 20, 2) := by decide +kernel
theorem dX9_swap_39 : decode cX9_swap 39 = .ok (.invokestatic 162, 3) := by decide +kernel
theorem dX9_swap_42 : decode cX9_swap 42 = .ok (.ifCond .eq 18, 3) := by decide +kernel
theorem dX9_swap_45 : decode cX9_swap 45 = .ok (.iload 4, 2) := by decide +kernel
theorem dX9_swap_47 : decode cX9_swap 47 = .ok (.iconst 0, 1) := by decide +kernel
theorem dX9_swap_48 : decode cX9_swap 48 = .ok (.bipush 20, 2) := by decide +kernel
theorem dX9_swap_50 : decode cX9_swap 50 = .ok (.invokestatic 162, 3) := by decide +kernel
theorem dX9_swap_53 : decode cX9_swap 53 = .ok (.ifCond .eq 7, 3) := by decide +kernel
theorem dX9_swap_56 : decode cX9_swap 56 = .ok (.iconst 1, 1) := by decide +kernel
theorem dX9_swap_57 : decode cX9_swap 57 = .ok (.goto 4, 3) := by decide +kernel
theorem dX9_swap_60 : decode cX9_swap 60 = .ok (.iconst 0, 1) := by decide +kernel
theorem dX9_swap_61 : decode cX9_swap 61 = .ok (.iconst 2, 1) := by decide +kernel
theorem dX9_swap_62 : decode cX9_swap 62 = .ok (.invokevirtual 158, 3) := by decide +kernel
theorem dX9_swap_65 : decode cX9_swap 65 = .ok (.ifCond .ne 5, 3) := by decide +kernel
theorem dX9_swap_68 : decode cX9_swap 68 = .ok (.iconst 0, 1) := by decide +kernel
theorem dX9_swap_69 : decode cX9_swap 69 = .ok (.ireturn, 1) := by decide +kernel
theorem dX9_swap_70 : decode cX9_swap 70 = .ok (.aload_n 0, 1) := by decide +kernel
theorem dX9_swap_71 : decode cX9_swap 71 = .ok (.iload_n 1, 1) := by decide +kernel
theorem dX9_swap_72 : decode cX9_swap 72 = .ok (.iload_n 2, 1) := by decide +kernel
theorem dX9_swap_73 : decode cX9_swap 73 = .ok (.iload_n 3, 1) := by decide +kernel
theorem dX9_swap_74 : decode cX9_swap 74 = .ok (.iload 4, 2) := by decide +kernel
theorem dX9_swap_76 : decode cX9_swap 76 = .ok (.invokevirtual 324, 3) := by decide +kernel
theorem dX9_swap_79 : decode cX9_swap 79 = .ok (.istore 5, 2) := by decide +kernel
theorem dX9_swap_81 : decode cX9_swap 81 = .ok (.iload 5, 2) := by decide +kernel
theorem dX9_swap_83 : decode cX9_swap 83 = .ok (.ifCond .le 10, 3) := by decide +kernel
theorem dX9_swap_86 : decode cX9_swap 86 = .ok (.aload_n 0, 1) := by decide +kernel
theorem dX9_swap_87 : decode cX9_swap 87 = .ok (.iload 5, 2) := by decide +kernel
theorem dX9_swap_89 : decode cX9_swap 89 = .ok (.invokevirtual 345, 3) := by decide +kernel
theorem dX9_swap_92 : decode cX9_swap 92 = .ok (.ireturn, 1) := by decide +kernel
theorem dX9_swap_93 : decode cX9_swap 93 = .ok (.aload_n 0, 1) := by decide +kernel
theorem dX9_swap_94 : decode cX9_swap 94 = .ok (.invokevirtual 348, 3) := by decide +kernel
theorem dX9_swap_97 : decode cX9_swap 97 = .ok (.aload_n 0, 1) := by decide +kernel
theorem dX9_swap_98 : decode cX9_swap 98 = .ok (.iload_n 1, 1) := by decide +kernel
theorem dX9_swap_99 : decode cX9_swap 99 = .ok (.iload_n 2, 1) := by decide +kernel
theorem dX9_swap_100 : decode cX9_swap 100 = .ok (.iconst 0, 1) := by decide +kernel
theorem dX9_swap_101 : decode cX9_swap 101 = .ok (.iload_n 3, 1) := by decide +kernel
theorem dX9_swap_102 : decode cX9_swap 102 = .ok (.invokevirtual 357, 3) := by decide +kernel
theorem dX9_swap_105 : decode cX9_swap 105 = .ok (.aload_n 0, 1) := by decide +kernel
theorem dX9_swap_106 : decode cX9_swap 106 = .ok (.iload_n 2, 1) := by decide +kernel
theorem dX9_swap_107 : decode cX9_swap 107 = .ok (.iload_n 1, 1) := by decide +kernel
theorem dX9_swap_108 : decode cX9_swap 108 = .ok (.iconst 1, 1) := by decide +kernel
theorem dX9_swap_109 : decode cX9_swap 109 = .ok (.iload 4, 2) := by decide +kernel
theorem dX9_swap_111 : decode cX9_swap 111 = .ok (.invokevirtual 357, 3) := by decide +kernel
theorem dX9_swap_114 : decode cX9_swap 114 = .ok (.aload_n 0, 1) := by decide +kernel
theorem dX9_swap_115 : decode cX9_swap 115 = .ok (.iconst 2, 1) := by decide +kernel
theorem dX9_swap_116 : decode cX9_swap 116 = .ok (.iconst 1, 1) := by decide +kernel
theorem dX9_swap_117 : decode cX9_swap 117 = .ok (.invokevirtual 117, 3) := by decide +kernel
theorem dX9_swap_120 : decode cX9_swap 120 = .ok (.aload_n 0, 1) := by decide +kernel
theorem dX9_swap_121 : decode cX9_swap 121 = .ok (.iload_n 1, 1) := by decide +kernel
theorem dX9_swap_122 : decode cX9_swap 122 = .ok (.iload_n 2, 1) := by decide +kernel
theorem dX9_swap_123 : decode cX9_swap 123 = .ok (.invokevirtual 361, 3) := by decide +kernel
theorem dX9_swap_126 : decode cX9_swap 126 = .ok (.ireturn, 1) := by decide +kernel
theorem dX9_barsLending_0 : decode cX9_barsLending 0 = .ok (.iload_n 1, 1) := by decide +kernel
theorem dX9_barsLending_1 : decode cX9_barsLending 1 = .ok (.iload_n 2, 1) := by decide +kernel
theorem dX9_barsLending_2 : decode cX9_barsLending 2 = .ok (.if_icmp .ne 5, 3) := by decide +kernel
theorem dX9_barsLending_5 : decode cX9_barsLending 5 = .ok (.iconst 5, 1) := by decide +kernel
theorem dX9_barsLending_6 : decode cX9_barsLending 6 = .ok (.ireturn, 1) := by decide +kernel
theorem dX9_barsLending_7 : decode cX9_barsLending 7 = .ok (.aload_n 0, 1) := by decide +kernel
theorem dX9_barsLending_8 : decode cX9_barsLending 8 = .ok (.iload_n 1, 1) := by decide +kernel
theorem dX9_barsLending_9 : decode cX9_barsLending 9 = .ok (.iload_n 2, 1) := by decide +kernel
theorem dX9_barsLending_10 : decode cX9_barsLending 10 = .ok (.invokevirtual 351, 3) := by decide +kernel
theorem dX9_barsLending_13 : decode cX9_barsLending 13 = .ok (.ifCond .eq 5, 3) := by decide +kernel
theorem dX9_barsLending_16 : decode cX9_barsLending 16 = .ok (.iconst 1, 1) := by decide +kernel
theorem dX9_barsLending_17 : decode cX9_barsLending 17 = .ok (.ireturn, 1) := by decide +kernel
theorem dX9_barsLending_18 : decode cX9_barsLending 18 = .ok (.aload_n 0, 1) := by decide +kernel
theorem dX9_barsLending_19 : decode cX9_barsLending 19 = .ok (.iload_n 1, 1) := by decide +kernel
theorem dX9_barsLending_20 : decode cX9_barsLending 20 = .ok (.iload_n 2, 1) := by decide +kernel
theorem dX9_barsLending_21 : decode cX9_barsLending 21 = .ok (.iload_n 3, 1) := by decide +kernel
theorem dX9_barsLending_22 : decode cX9_barsLending 22 = .ok (.iload 4, 2) := by decide +kernel
theorem dX9_barsLending_24 : decode cX9_barsLending 24 = .ok (.invokevirtual 354, 3) := by decide +kernel
theorem dX9_barsLending_27 : decode cX9_barsLending 27 = .ok (.istore 5, 2) := by decide +kernel
theorem dX9_barsLending_29 : decode cX9_barsLending 29 = .ok (.iload 5, 2) := by decide +kernel
theorem dX9_barsLending_31 : decode cX9_barsLending 31 = .ok (.ifCond .le 6, 3) := by decide +kernel
theorem dX9_barsLending_34 : decode cX9_barsLending 34 = .ok (.iload 5, 2) := by decide +kernel
theorem dX9_barsLending_36 : decode cX9_barsLending 36 = .ok (.ireturn, 1) := by decide +kernel
theorem dX9_barsLending_37 : decode cX9_barsLending 37 = .ok (.aload_n 0, 1) := by decide +kernel
theorem dX9_barsLending_38 : decode cX9_barsLending 38 = .ok (.iload_n 2, 1) := by decide +kernel
theorem dX9_barsLending_39 : decode cX9_barsLending 39 = .ok (.iload_n 1, 1) := by decide +kernel
theorem dX9_barsLending_40 : decode cX9_barsLending 40 = .ok (.iconst 1, 1) := by decide +kernel
theorem dX9_barsLending_41 : decode cX9_barsLending 41 = .ok (.iload_n 3, 1) := by decide +kernel
theorem dX9_barsLending_42 : decode cX9_barsLending 42 = .ok (.isub, 1) := by decide +kernel
theorem dX9_barsLending_43 : decode cX9_barsLending 43 = .ok (.invokevirtual 87, 3) := by decide +kernel
theorem dX9_barsLending_46 : decode cX9_barsLending 46 = .ok (.iconst (-1), 1) := by decide +kernel
theorem dX9_barsLending_47 : decode cX9_barsLending 47 = .ok (.if_icmp .ne 7, 3) := by decide +kernel
theorem dX9_barsLending_50 : decode cX9_barsLending 50 = .ok (.iconst 1, 1) := by decide +kernel
theorem dX9_barsLending_51 : decode cX9_barsLending 51 = .ok (.goto 4, 3) := by decide +kernel
theorem dX9_barsLending_54 : decode cX9_barsLending 54 = .ok (.iconst 0, 1) := by decide +kernel
theorem dX9_barsLending_55 : decode cX9_barsLending 55 = .ok (.istore 6, 2) := by decide +kernel
theorem dX9_barsLending_57 : decode cX9_barsLending 57 = .ok (.aload_n 0, 1) := by decide +kernel
theorem dX9_barsLending_58 : decode cX9_barsLending 58 = .ok (.iload_n 2, 1) := by decide +kernel
theorem dX9_barsLending_59 : decode cX9_barsLending 59 = .ok (.iload_n 1, 1) := by decide +kernel
theorem dX9_barsLending_60 : decode cX9_barsLending 60 = .ok (.iconst 1, 1) := by decide +kernel
theorem dX9_barsLending_61 : decode cX9_barsLending 61 = .ok (.iload_n 3, 1) := by decide +kernel
theorem dX9_barsLending_62 : decode cX9_barsLending 62 = .ok (.isub, 1) := by decide +kernel
theorem dX9_barsLending_63 : decode cX9_barsLending 63 = .ok (.invokevirtual 306, 3) := by decide +kernel
theorem dX9_barsLending_66 : decode cX9_barsLending 66 = .ok (.iload 4, 2) := by decide +kernel
theorem dX9_barsLending_68 : decode cX9_barsLending 68 = .ok (.iadd, 1) := by decide +kernel
theorem dX9_barsLending_69 : decode cX9_barsLending 69 = .ok (.bipush 99, 2) := by decide +kernel
theorem dX9_barsLending_71 : decode cX9_barsLending 71 = .ok (.if_icmp .gt 19, 3) := by decide +kernel
theorem dX9_barsLending_74 : decode cX9_barsLending 74 = .ok (.iload 6, 2) := by decide +kernel
theorem dX9_barsLending_76 : decode cX9_barsLending 76 = .ok (.ifCond .eq 19, 3) := by decide +kernel
theorem dX9_barsLending_79 : decode cX9_barsLending 79 = .ok (.aload_n 0, 1) := by decide +kernel
theorem dX9_barsLending_80 : decode cX9_barsLending 80 = .ok (.bipush 6, 2) := by decide +kernel
theorem dX9_barsLending_82 : decode cX9_barsLending 82 = .ok (.invokevirtual 50, 3) := by decide +kernel
theorem dX9_barsLending_85 : decode cX9_barsLending 85 = .ok (.bipush 30, 2) := by decide +kernel
theorem dX9_barsLending_87 : decode cX9_barsLending 87 = .ok (.if_icmp .ne 8, 3) := by decide +kernel
theorem dX9_barsLending_90 : decode cX9_barsLending 90 = .ok (.bipush 9, 2) := by decide +kernel
theorem dX9_barsLending_92 : decode cX9_barsLending 92 = .ok (.goto 4, 3) := by decide +kernel
theorem dX9_barsLending_95 : decode cX9_barsLending 95 = .ok (.iconst 0, 1) := by decide +kernel
theorem dX9_barsLending_96 : decode cX9_barsLending 96 = .ok (.ireturn, 1) := by decide +kernel
theorem dX9_lend_0 : decode cX9_lend 0 = .ok (.aload_n 0, 1) := by decide +kernel
theorem dX9_lend_1 : decode cX9_lend 1 = .ok (.iconst 0, 1) := by decide +kernel
theorem dX9_lend_2 : decode cX9_lend 2 = .ok (.putfield 41, 3) := by decide +kernel
theorem dX9_lend_5 : decode cX9_lend 5 = .ok (.aload_n 0, 1) := by decide +kernel
theorem dX9_lend_6 : decode cX9_lend 6 = .ok (.aload_n 0, 1) := by decide +kernel
theorem dX9_lend_7 : decode cX9_lend 7 = .ok (.iload_n 1, 1) := by decide +kernel
theorem dX9_lend_8 : decode cX9_lend 8 = .ok (.invokevirtual 297, 3) := by decide +kernel
theorem dX9_lend_11 : decode cX9_lend 11 = .ok (.ifCond .eq 15, 3) := by decide +kernel
theorem dX9_lend_14 : decode cX9_lend 14 = .ok (.aload_n 0, 1) := by decide +kernel
theorem dX9_lend_15 : decode cX9_lend 15 = .ok (.iload_n 2, 1) := by decide +kernel
theorem dX9_lend_16 : decode cX9_lend 16 = .ok (.invokevirtual 297, 3) := by decide +kernel
