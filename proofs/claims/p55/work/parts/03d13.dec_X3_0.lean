theorem dX3_init_0 : decode cX3_init 0 = .ok (.aload_n 0, 1) := by decide +kernel
theorem dX3_init_1 : decode cX3_init 1 = .ok (.invokespecial 3, 3) := by decide +kernel
theorem dX3_init_4 : decode cX3_init 4 = .ok (.aload_n 0, 1) := by decide +kernel
theorem dX3_init_5 : decode cX3_init 5 = .ok (.bipush 12, 2) := by decide +kernel
theorem dX3_init_7 : decode cX3_init 7 = .ok (.anewarray 9, 3) := by decide +kernel
theorem dX3_init_10 : decode cX3_init 10 = .ok (.putfield 11, 3) := by decide +kernel
theorem dX3_init_13 : decode cX3_init 13 = .ok (.aload_n 0, 1) := by decide +kernel
theorem dX3_init_14 : decode cX3_init 14 = .ok (.new 17, 3) := by decide +kernel
theorem dX3_init_17 : decode cX3_init 17 = .ok (.dup, 1) := by decide +kernel
theorem dX3_init_18 : decode cX3_init 18 = .ok (.invokespecial 19, 3) := by decide +kernel
theorem dX3_init_21 : decode cX3_init 21 = .ok (.putfield 20, 3) := by decide +kernel
theorem dX3_init_24 : decode cX3_init 24 = .ok (.aload_n 0, 1) := by decide +kernel
theorem dX3_init_25 : decode cX3_init 25 = .ok (.bipush 10, 2) := by decide +kernel
theorem dX3_init_27 : decode cX3_init 27 = .ok (.newarray .int, 2) := by decide +kernel
theorem dX3_init_29 : decode cX3_init 29 = .ok (.putfield 24, 3) := by decide +kernel
theorem dX3_init_32 : decode cX3_init 32 = .ok (.iconst 0, 1) := by decide +kernel
theorem dX3_init_33 : decode cX3_init 33 = .ok (.istore_n 1, 1) := by decide +kernel
theorem dX3_init_34 : decode cX3_init 34 = .ok (.iload_n 1, 1) := by decide +kernel
theorem dX3_init_35 : decode cX3_init 35 = .ok (.bipush 12, 2) := by decide +kernel
theorem dX3_init_37 : decode cX3_init 37 = .ok (.if_icmp .ge 23, 3) := by decide +kernel
theorem dX3_init_40 : decode cX3_init 40 = .ok (.aload_n 0, 1) := by decide +kernel
theorem dX3_init_41 : decode cX3_init 41 = .ok (.getfield 11, 3) := by decide +kernel
theorem dX3_init_44 : decode cX3_init 44 = .ok (.iload_n 1, 1) := by decide +kernel
theorem dX3_init_45 : decode cX3_init 45 = .ok (.new 9, 3) := by decide +kernel
theorem dX3_init_48 : decode cX3_init 48 = .ok (.dup, 1) := by decide +kernel
theorem dX3_init_49 : decode cX3_init 49 = .ok (.iload_n 1, 1) := by decide +kernel
theorem dX3_init_50 : decode cX3_init 50 = .ok (.invokespecial 28, 3) := by decide +kernel
theorem dX3_init_53 : decode cX3_init 53 = .ok (.aastore, 1) := by decide +kernel
theorem dX3_init_54 : decode cX3_init 54 = .ok (.iinc 1 1, 3) := by decide +kernel
theorem dX3_init_57 : decode cX3_init 57 = .ok (.goto (-23), 3) := by decide +kernel
theorem dX3_init_60 : decode cX3_init 60 = .ok (.return_, 1) := by decide +kernel
theorem dX3_copyFrom_0 : decode cX3_copyFrom 0 = .ok (.iconst 0, 1) := by decide +kernel
theorem dX3_copyFrom_1 : decode cX3_copyFrom 1 = .ok (.istore_n 2, 1) := by decide +kernel
theorem dX3_copyFrom_2 : decode cX3_copyFrom 2 = .ok (.iload_n 2, 1) := by decide +kernel
theorem dX3_copyFrom_3 : decode cX3_copyFrom 3 = .ok (.aload_n 1, 1) := by decide +kernel
theorem dX3_copyFrom_4 : decode cX3_copyFrom 4 = .ok (.getfield 31, 3) := by decide +kernel
theorem dX3_copyFrom_7 : decode cX3_copyFrom 7 = .ok (.if_icmp .ge 24, 3) := by decide +kernel
theorem dX3_copyFrom_10 : decode cX3_copyFrom 10 = .ok (.aload_n 0, 1) := by decide +kernel
theorem dX3_copyFrom_11 : decode cX3_copyFrom 11 = .ok (.getfield 11, 3) := by decide +kernel
theorem dX3_copyFrom_14 : decode cX3_copyFrom 14 = .ok (.iload_n 2, 1) := by decide +kernel
theorem dX3_copyFrom_15 : decode cX3_copyFrom 15 = .ok (.aaload, 1) := by decide +kernel
theorem dX3_copyFrom_16 : decode cX3_copyFrom 16 = .ok (.aload_n 1, 1) := by decide +kernel
theorem dX3_copyFrom_17 : decode cX3_copyFrom 17 = .ok (.getfield 11, 3) := by decide +kernel
theorem dX3_copyFrom_20 : decode cX3_copyFrom 20 = .ok (.iload_n 2, 1) := by decide +kernel
theorem dX3_copyFrom_21 : decode cX3_copyFrom 21 = .ok (.aaload, 1) := by decide +kernel
theorem dX3_copyFrom_22 : decode cX3_copyFrom 22 = .ok (.invokevirtual 35, 3) := by decide +kernel
theorem dX3_copyFrom_25 : decode cX3_copyFrom 25 = .ok (.iinc 2 1, 3) := by decide +kernel
theorem dX3_copyFrom_28 : decode cX3_copyFrom 28 = .ok (.goto (-26), 3) := by decide +kernel
theorem dX3_copyFrom_31 : decode cX3_copyFrom 31 = .ok (.aload_n 0, 1) := by decide +kernel
theorem dX3_copyFrom_32 : decode cX3_copyFrom 32 = .ok (.getfield 20, 3) := by decide +kernel
theorem dX3_copyFrom_35 : decode cX3_copyFrom 35 = .ok (.aload_n 1, 1) := by decide +kernel
theorem dX3_copyFrom_36 : decode cX3_copyFrom 36 = .ok (.getfield 20, 3) := by decide +kernel
theorem dX3_copyFrom_39 : decode cX3_copyFrom 39 = .ok (.invokevirtual 39, 3) := by decide +kernel
theorem dX3_copyFrom_42 : decode cX3_copyFrom 42 = .ok (.aload_n 1, 1) := by decide +kernel
theorem dX3_copyFrom_43 : decode cX3_copyFrom 43 = .ok (.getfield 24, 3) := by decide +kernel
theorem dX3_copyFrom_46 : decode cX3_copyFrom 46 = .ok (.iconst 0, 1) := by decide +kernel
theorem dX3_copyFrom_47 : decode cX3_copyFrom 47 = .ok (.aload_n 0, 1) := by decide +kernel
theorem dX3_copyFrom_48 : decode cX3_copyFrom 48 = .ok (.getfield 24, 3) := by decide +kernel
theorem dX3_copyFrom_51 : decode cX3_copyFrom 51 = .ok (.iconst 0, 1) := by decide +kernel
theorem dX3_copyFrom_52 : decode cX3_copyFrom 52 = .ok (.bipush 10, 2) := by decide +kernel
theorem dX3_copyFrom_54 : decode cX3_copyFrom 54 = .ok (.invokestatic 42, 3) := by decide +kernel
theorem dX3_copyFrom_57 : decode cX3_copyFrom 57 = .ok (.aload_n 0, 1) := by decide +kernel
theorem dX3_copyFrom_58 : decode cX3_copyFrom 58 = .ok (.aload_n 1, 1) := by decide +kernel
theorem dX3_copyFrom_59 : decode cX3_copyFrom 59 = .ok (.getfield 31, 3) := by decide +kernel
theorem dX3_copyFrom_62 : decode cX3_copyFrom 62 = .ok (.putfield 31, 3) := by decide +kernel
theorem dX3_copyFrom_65 : decode cX3_copyFrom 65 = .ok (.aload_n 0, 1) := by decide +kernel
theorem dX3_copyFrom_66 : decode cX3_copyFrom 66 = .ok (.aload_n 1, 1) := by decide +kernel
theorem dX3_copyFrom_67 : decode cX3_copyFrom 67 = .ok (.getfield 48, 3) := by decide +kernel
theorem dX3_copyFrom_70 : decode cX3_copyFrom 70 = .ok (.putfield 48, 3) := by decide +kernel
theorem dX3_copyFrom_73 : decode cX3_copyFrom 73 = .ok (.aload_n 0, 1) := by decide +kernel
theorem dX3_copyFrom_74 : decode cX3_copyFrom 74 = .ok (.aload_n 1, 1) := by decide +kernel
theorem dX3_copyFrom_75 : decode cX3_copyFrom 75 = .ok (.getfield 51, 3) := by decide +kernel
theorem dX3_copyFrom_78 : decode cX3_copyFrom 78 = .ok (.putfield 51, 3) := by decide +kernel
theorem dX3_copyFrom_81 : decode cX3_copyFrom 81 = .ok (.aload_n 0, 1) := by decide +kernel
theorem dX3_copyFrom_82 : decode cX3_copyFrom 82 = .ok (.aload_n 1, 1) := by decide +kernel
theorem dX3_copyFrom_83 : decode cX3_copyFrom 83 = .ok (.getfield 54, 3) := by decide +kernel
theorem dX3_copyFrom_86 : decode cX3_copyFrom 86 = .ok (.putfield 54, 3) := by decide +kernel
theorem dX3_copyFrom_89 : decode cX3_copyFrom 89 = .ok (.aload_n 0, 1) := by decide +kernel
theorem dX3_copyFrom_90 : decode cX3_copyFrom 90 = .ok (.aload_n 1, 1) := by decide +kernel
theorem dX3_copyFrom_91 : decode cX3_copyFrom 91 = .ok (.getfield 57, 3) := by decide +kernel
theorem dX3_copyFrom_94 : decode cX3_copyFrom 94 = .ok (.putfield 57, 3) := by decide +kernel
theorem dX3_copyFrom_97 : decode cX3_copyFrom 97 = .ok (.aload_n 0, 1) := by decide +kernel
theorem dX3_copyFrom_98 : decode cX3_copyFrom 98 = .ok (.aload_n 1, 1) := by decide +kernel
theorem dX3_copyFrom_99 : decode cX3_copyFrom 99 = .ok (.getfield 60, 3) := by decide +kernel
theorem dX3_copyFrom_102 : decode cX3_copyFrom 102 = .ok (.putfield 60, 3) := by decide +kernel
theorem dX3_copyFrom_105 : decode cX3_copyFrom 105 = .ok (.return_, 1) := by decide +kernel
theorem dX3_readSetup_0 : decode cX3_readSetup 0 = .ok (.aload_n 1, 1) := by decide +kernel
theorem dX3_readSetup_1 : decode cX3_readSetup 1 = .ok (.invokevirtual 63, 3) := by decide +kernel
theorem dX3_readSetup_4 : decode cX3_readSetup 4 = .ok (.aload_n 1, 1) := by decide +kernel
theorem dX3_readSetup_5 : decode cX3_readSetup 5 = .ok (.ldc 68, 2) := by decide +kernel
theorem dX3_readSetup_7 : decode cX3_readSetup 7 = .ok (.invokevirtual 70, 3) := by decide +kernel
theorem dX3_readSetup_10 : decode cX3_readSetup 10 = .ok (.aload_n 1, 1) := by decide +kernel
theorem dX3_readSetup_11 : decode cX3_readSetup 11 = .ok (.bipush 10, 2) := by decide +kernel
theorem dX3_readSetup_13 : decode cX3_readSetup 13 = .ok (.bipush 60, 2) := by decide +kernel
theorem dX3_readSetup_15 : decode cX3_readSetup 15 = .ok (.invokevirtual 74, 3) := by decide +kernel
theorem dX3_readSetup_18 : decode cX3_readSetup 18 = .ok (.istore_n 2, 1) := by decide +kernel
theorem dX3_readSetup_19 : decode cX3_readSetup 19 = .ok (.aload_n 1, 1) := by decide +kernel
theorem dX3_readSetup_20 : decode cX3_readSetup 20 = .ok (.iconst 1, 1) := by decide +kernel
theorem dX3_readSetup_21 : decode cX3_readSetup 21 = .ok (.bipush 20, 2) := by decide +kernel
theorem dX3_readSetup_23 : decode cX3_readSetup 23 = .ok (.invokevirtual 74, 3) := by decide +kernel
theorem dX3_readSetup_26 : decode cX3_readSetup 26 = .ok (.istore_n 3, 1) := by decide +kernel
theorem dX3_readSetup_27 : decode cX3_readSetup 27 = .ok (.aload_n 1, 1) := by decide +kernel
theorem dX3_readSetup_28 : decode cX3_readSetup 28 = .ok (.iconst 0, 1) := by decide +kernel
theorem dX3_readSetup_29 : decode cX3_readSetup 29 = .ok (.bipush 9, 2) := by decide +kernel
theorem dX3_readSetup_31 : decode cX3_readSetup 31 = .ok (.invokevirtual 74, 3) := by decide +kernel
theorem dX3_readSetup_34 : decode cX3_readSetup 34 = .ok (.istore 4, 2) := by decide +kernel
theorem dX3_readSetup_36 : decode cX3_readSetup 36 = .ok (.aload_n 1, 1) := by decide +kernel
theorem dX3_readSetup_37 : decode cX3_readSetup 37 = .ok (.iconst 0, 1) := by decide +kernel
theorem dX3_readSetup_38 : decode cX3_readSetup 38 = .ok (.bipush 9, 2) := by decide +kernel
theorem dX3_readSetup_40 : decode cX3_readSetup 40 = .ok (.invokevirtual 74, 3) := by decide +kernel
theorem dX3_readSetup_43 : decode cX3_readSetup 43 = .ok (.istore 5, 2) := by decide +kernel
theorem dX3_readSetup_45 : decode cX3_readSetup 45 = .ok (.aload_n 1, 1) := by decide +kernel
theorem dX3_readSetup_46 : decode cX3_readSetup 46 = .ok (.invokevirtual 78, 3) := by decide +kernel
theorem dX3_readSetup_49 : decode cX3_readSetup 49 = .ok (.aload_n 0, 1) := by decide +kernel
theorem dX3_readSetup_50 : decode cX3_readSetup 50 = .ok (.iload_n 2, 1) := by decide +kernel
theorem dX3_readSetup_51 : decode cX3_readSetup 51 = .ok (.iload_n 3, 1) := by decide +kernel
theorem dX3_readSetup_52 : decode cX3_readSetup 52 = .ok (.iload 4, 2) := by decide +kernel
theorem dX3_readSetup_54 : decode cX3_readSetup 54 = .ok (.iload 5, 2) := by decide +kernel
theorem dX3_readSetup_56 : decode cX3_readSetup 56 = .ok (.invokevirtual 81, 3) := by decide +kernel
theorem dX3_readSetup_59 : decode cX3_readSetup 59 = .ok (.iconst 0, 1) := by decide +kernel
theorem dX3_readSetup_60 : decode cX3_readSetup 60 = .ok (.istore 6, 2) := by decide +kernel
theorem dX3_readSetup_62 : decode cX3_readSetup 62 = .ok (.iload 6, 2) := by decide +kernel
theorem dX3_readSetup_64 : decode cX3_readSetup 64 = .ok (.bipush 12, 2) := by decide +kernel
theorem dX3_readSetup_66 : decode cX3_readSetup 66 = .ok (.if_icmp .gt 37, 3) := by decide +kernel
theorem dX3_readSetup_69 : decode cX3_readSetup 69 = .ok (.aload_n 1, 1) := by decide +kernel
theorem dX3_readSetup_70 : decode cX3_readSetup 70 = .ok (.invokevirtual 85, 3) := by decide +kernel
theorem dX3_readSetup_73 : decode cX3_readSetup 73 = .ok (.ifCond .ne 30, 3) := by decide +kernel
theorem dX3_readSetup_76 : decode cX3_readSetup 76 = .ok (.aload_n 0, 1) := by decide +kernel
theorem dX3_readSetup_77 : decode cX3_readSetup 77 = .ok (.getfield 31, 3) := by decide +kernel
theorem dX3_readSetup_80 : decode cX3_readSetup 80 = .ok (.iconst 2, 1) := by decide +kernel
theorem dX3_readSetup_81 : decode cX3_readSetup 81 = .ok (.if_icmp .lt 11, 3) := by decide +kernel
theorem dX3_readSetup_84 : decode cX3_readSetup 84 = .ok (.aload_n 1, 1) := by decide +kernel
theorem dX3_readSetup_85 : decode cX3_readSetup 85 = .ok (.invokevirtual 89, 3) := by decide +kernel
theorem dX3_readSetup_88 : decode cX3_readSetup 88 = .ok (.ifCond .eq 4, 3) := by decide +kernel
theorem dX3_readSetup_91 : decode cX3_readSetup 91 = .ok (.return_, 1) := by decide +kernel
theorem dX3_readSetup_92 : decode cX3_readSetup 92 = .ok (.aload_n 0, 1) := by decide +kernel
theorem dX3_readSetup_93 : decode cX3_readSetup 93 = .ok (.aload_n 1, 1) := by decide +kernel
theorem dX3_readSetup_94 : decode cX3_readSetup 94 = .ok (.invokevirtual 92, 3) := by decide +kernel
theorem dX3_readSetup_97 : decode cX3_readSetup 97 = .ok (.iinc 6 1, 3) := by decide +kernel
theorem dX3_readSetup_100 : decode cX3_readSetup 100 = .ok (.goto (-38), 3) := by decide +kernel
theorem dX3_readSetup_103 : decode cX3_readSetup 103 = .ok (.return_, 1) := by decide +kernel
theorem dX3_open_0 : decode cX3_open 0 = .ok (.aload_n 0, 1) := by decide +kernel
theorem dX3_open_1 : decode cX3_open 1 = .ok (.iload_n 1, 1) := by decide +kernel
theorem dX3_open_2 : decode cX3_open 2 = .ok (.putfield 51, 3) := by decide +kernel
theorem dX3_open_5 : decode cX3_open 5 = .ok (.aload_n 0, 1) := by decide +kernel
theorem dX3_open_6 : decode cX3_open 6 = .ok (.iload_n 2, 1) := by decide +kernel
theorem dX3_open_7 : decode cX3_open 7 = .ok (.putfield 54, 3) := by decide +kernel
theorem dX3_open_10 : decode cX3_open 10 = .ok (.aload_n 0, 1) := by decide +kernel
theorem dX3_open_11 : decode cX3_open 11 = .ok (.iload_n 3, 1) := by decide +kernel
theorem dX3_open_12 : decode cX3_open 12 = .ok (.putfield 57, 3) := by decide +kernel
theorem dX3_open_15 : decode cX3_open 15 = .ok (.aload_n 0, 1) := by decide +kernel
theorem dX3_open_16 : decode cX3_open 16 = .ok (.iload 4, 2) := by decide +kernel
theorem dX3_open_18 : decode cX3_open 18 = .ok (.putfield 60, 3) := by decide +kernel
theorem dX3_open_21 : decode cX3_open 21 = .ok (.aload_n 0, 1) := by decide +kernel
theorem dX3_open_22 : decode cX3_open 22 = .ok (.iconst 0, 1) := by decide +kernel
theorem dX3_open_23 : decode cX3_open 23 = .ok (.putfield 31, 3) := by decide +kernel
theorem dX3_open_26 : decode cX3_open 26 = .ok (.aload_n 0, 1) := by decide +kernel
theorem dX3_open_27 : decode cX3_open 27 = .ok (.iconst 0, 1) := by decide +kernel
theorem dX3_open_28 : decode cX3_open 28 = .ok (.putfield 48, 3) := by decide +kernel
theorem dX3_open_31 : decode cX3_open 31 = .ok (.aload_n 0, 1) := by decide +kernel
theorem dX3_open_32 : decode cX3_open 32 = .ok (.getfield 20, 3) := by decide +kernel
theorem dX3_open_35 : decode cX3_open 35 = .ok (.iconst 0, 1) := by decide +kernel
theorem dX3_open_36 : decode cX3_open 36 = .ok (.putfield 96, 3) := by decide +kernel
theorem dX3_open_39 : decode cX3_open 39 = .ok (.iconst 0, 1) := by decide +kernel
theorem dX3_open_40 : decode cX3_open 40 = .ok (.istore 5, 2) := by decide +kernel
theorem dX3_open_42 : decode cX3_open 42 = .ok (.iload 5, 2) := by decide +kernel
theorem dX3_open_44 : decode cX3_open 44 = .ok (.bipush 10, 2) := by decide +kernel
theorem dX3_open_46 : decode cX3_open 46 = .ok (.if_icmp .ge 17, 3) := by decide +kernel
theorem dX3_open_49 : decode cX3_open 49 = .ok (.aload_n 0, 1) := by decide +kernel
theorem dX3_open_50 : decode cX3_open 50 = .ok (.getfield 24, 3) := by decide +kernel
theorem dX3_open_53 : decode cX3_open 53 = .ok (.iload 5, 2) := by decide +kernel
theorem dX3_open_55 : decode cX3_open 55 = .ok (.iconst 0, 1) := by decide +kernel
theorem dX3_open_56 : decode cX3_open 56 = .ok (.iastore, 1) := by decide +kernel
theorem dX3_open_57 : decode cX3_open 57 = .ok (.iinc 5 1, 3) := by decide +kernel
theorem dX3_open_60 : decode cX3_open 60 = .ok (.goto (-18), 3) := by decide +kernel
theorem dX3_open_63 : decode cX3_open 63 = .ok (.return_, 1) := by decide +kernel
theorem dX3_readPupil_0 : decode cX3_readPupil 0 = .ok (.aload_n 0, 1) := by decide +kernel
theorem dX3_readPupil_1 : decode cX3_readPupil 1 = .ok (.getfield 31, 3) := by decide +kernel
theorem dX3_readPupil_4 : decode cX3_readPupil 4 = .ok (.bipush 12, 2) := by decide +kernel
theorem dX3_readPupil_6 : decode cX3_readPupil 6 = .ok (.if_icmp .lt 17, 3) := by decide +kernel
theorem dX3_readPupil_9 : decode cX3_readPupil 9 = .ok (.aload_n 1, 1) := by decide +kernel
theorem dX3_readPupil_10 : decode cX3_readPupil 10 = .ok (.ldc 97, 2) := by decide +kernel
theorem dX3_readPupil_12 : decode cX3_readPupil 12 = .ok (.invokevirtual 99, 3) := by decide +kernel
theorem dX3_readPupil_15 : decode cX3_readPupil 15 = .ok (.ifCond .eq 8, 3) := by decide +kernel
theorem dX3_readPupil_18 : decode cX3_readPupil 18 = .ok (.aload_n 1, 1) := by decide +kernel
theorem dX3_readPupil_19 : decode cX3_readPupil 19 = .ok (.iconst 4, 1) := by decide +kernel
theorem dX3_readPupil_20 : decode cX3_readPupil 20 = .ok (.invokevirtual 103, 3) := by decide +kernel
theorem dX3_readPupil_23 : decode cX3_readPupil 23 = .ok (.aload_n 1, 1) := by decide +kernel
theorem dX3_readPupil_24 : decode cX3_readPupil 24 = .ok (.ldc 97, 2) := by decide +kernel
theorem dX3_readPupil_26 : decode cX3_readPupil 26 = .ok (.invokevirtual 70, 3) := by decide +kernel
theorem dX3_readPupil_29 : decode cX3_readPupil 29 = .ok (.aload_n 1, 1) := by decide +kernel
theorem dX3_readPupil_30 : decode cX3_readPupil 30 = .ok (.iconst 0, 1) := by decide +kernel
theorem dX3_readPupil_31 : decode cX3_readPupil 31 = .ok (.iconst 5, 1) := by decide +kernel
theorem dX3_readPupil_32 : decode cX3_readPupil 32 = .ok (.invokevirtual 74, 3) := by decide +kernel
theorem dX3_readPupil_35 : decode cX3_readPupil 35 = .ok (.istore_n 2, 1) := by decide +kernel
theorem dX3_readPupil_36 : decode cX3_readPupil 36 = .ok (.aload_n 1, 1) := by decide +kernel
theorem dX3_readPupil_37 : decode cX3_readPupil 37 = .ok (.iconst 0, 1) := by decide +kernel
theorem dX3_readPupil_38 : decode cX3_readPupil 38 = .ok (.iconst 5, 1) := by decide +kernel
theorem dX3_readPupil_39 : decode cX3_readPupil 39 = .ok (.invokevirtual 106, 3) := by decide +kernel
theorem dX3_readPupil_42 : decode cX3_readPupil 42 = .ok (.istore_n 3, 1) := by decide +kernel
theorem dX3_readPupil_43 : decode cX3_readPupil 43 = .ok (.aload_n 0, 1) := by decide +kernel
theorem dX3_readPupil_44 : decode cX3_readPupil 44 = .ok (.iload_n 2, 1) := by decide +kernel
theorem dX3_readPupil_45 : decode cX3_readPupil 45 = .ok (.iload_n 3, 1) := by decide +kernel
theorem dX3_readPupil_46 : decode cX3_readPupil 46 = .ok (.invokevirtual 109, 3) := by decide +kernel
theorem dX3_readPupil_49 : decode cX3_readPupil 49 = .ok (.iconst (-1), 1) := by decide +kernel
theorem dX3_readPupil_50 : decode cX3_readPupil 50 = .ok (.if_icmp .eq 8, 3) := by decide +kernel
theorem dX3_readPupil_53 : decode cX3_readPupil 53 = .ok (.aload_n 1, 1) := by decide +kernel
theorem dX3_readPupil_54 : decode cX3_readPupil 54 = .ok (.iconst 3, 1) := by decide +kernel
theorem dX3_readPupil_55 : decode cX3_readPupil 55 = .ok (.invokevirtual 103, 3) := by decide +kernel
theorem dX3_readPupil_58 : decode cX3_readPupil 58 = .ok (.aload_n 1, 1) := by decide +kernel
theorem dX3_readPupil_59 : decode cX3_readPupil 59 = .ok (.invokevirtual 112, 3) := by decide +kernel
theorem dX3_readPupil_62 : decode cX3_readPupil 62 = .ok (.aload_n 1, 1) := by decide +kernel
theorem dX3_readPupil_63 : decode cX3_readPupil 63 = .ok (.iconst 1, 1) := by decide +kernel
theorem dX3_readPupil_64 : decode cX3_readPupil 64 = .ok (.bipush 9, 2) := by decide +kernel
theorem dX3_readPupil_66 : decode cX3_readPupil 66 = .ok (.invokevirtual 74, 3) := by decide +kernel
theorem dX3_readPupil_69 : decode cX3_readPupil 69 = .ok (.istore 4, 2) := by decide +kernel
theorem dX3_readPupil_71 : decode cX3_readPupil 71 = .ok (.aload_n 1, 1) := by decide +kernel
theorem dX3_readPupil_72 : decode cX3_readPupil 72 = .ok (.iconst 1, 1) := by decide +kernel
theorem dX3_readPupil_73 : decode cX3_readPupil 73 = .ok (.bipush 9, 2) := by decide +kernel
theorem dX3_readPupil_75 : decode cX3_readPupil 75 = .ok (.invokevirtual 74, 3) := by decide +kernel
theorem dX3_readPupil_78 : decode cX3_readPupil 78 = .ok (.istore 5, 2) := by decide +kernel
theorem dX3_readPupil_80 : decode cX3_readPupil 80 = .ok (.aload_n 1, 1) := by decide +kernel
theorem dX3_readPupil_81 : decode cX3_readPupil 81 = .ok (.ldc 115, 2) := by decide +kernel
theorem dX3_readPupil_83 : decode cX3_readPupil 83 = .ok (.invokevirtual 99, 3) := by decide +kernel
theorem dX3_readPupil_86 : decode cX3_readPupil 86 = .ok (.istore 6, 2) := by decide +kernel
theorem dX3_readPupil_88 : decode cX3_readPupil 88 = .ok (.iload 6, 2) := by decide +kernel
theorem dX3_readPupil_90 : decode cX3_readPupil 90 = .ok (.ifCond .eq 7, 3) := by decide +kernel
theorem dX3_readPupil_93 : decode cX3_readPupil 93 = .ok (.aload_n 1, 1) := by decide +kernel
theorem dX3_readPupil_94 : decode cX3_readPupil 94 = .ok (.invokevirtual 112, 3) := by decide +kernel
theorem dX3_readPupil_97 : decode cX3_readPupil 97 = .ok (.aload_n 1, 1) := by decide +kernel
theorem dX3_readPupil_98 : decode cX3_readPupil 98 = .ok (.invokevirtual 78, 3) := by decide +kernel
theorem dX3_readPupil_101 : decode cX3_readPupil 101 = .ok (.aload_n 1, 1) := by decide +kernel
theorem dX3_readPupil_102 : decode cX3_readPupil 102 = .ok (.invokevirtual 85, 3) := by decide +kernel
theorem dX3_readPupil_105 : decode cX3_readPupil 105 = .ok (.ifCond .ne 15, 3) := by decide +kernel
theorem dX3_readPupil_108 : decode cX3_readPupil 108 = .ok (.aload_n 0, 1) := by decide +kernel
theorem dX3_readPupil_109 : decode cX3_readPupil 109 = .ok (.iload_n 2, 1) := by decide +kernel
theorem dX3_readPupil_110 : decode cX3_readPupil 110 = .ok (.iload_n 3, 1) := by decide +kernel
theorem dX3_readPupil_111 : decode cX3_readPupil 111 = .ok (.iload 4, 2) := by decide +kernel
theorem dX3_readPupil_113 : decode cX3_readPupil 113 = .ok (.iload 5, 2) := by decide +kernel
theorem dX3_readPupil_115 : decode cX3_readPupil 115 = .ok (.iload 6, 2) := by decide +kernel
theorem dX3_readPupil_117 : decode cX3_readPupil 117 = .ok (.invokevirtual 117, 3) := by decide +kernel
theorem dX3_readPupil_120 : decode cX3_readPupil 120 = .ok (.return_, 1) := by decide +kernel
theorem dX3_enrol_0 : decode cX3_enrol 0 = .ok (.aload_n 0, 1) := by decide +kernel
theorem dX3_enrol_1 : decode cX3_enrol 1 = .ok (.getfield 31, 3) := by decide +kernel
theorem dX3_enrol_4 : decode cX3_enrol 4 = .ok (.bipush 12, 2) := by decide +kernel
theorem dX3_enrol_6 : decode cX3_enrol 6 = .ok (.if_icmp .lt 4, 3) := by decide +kernel
theorem dX3_enrol_9 : decode cX3_enrol 9 = .ok (.return_, 1) := by decide +kernel
theorem dX3_enrol_10 : decode cX3_enrol 10 = .ok (.aload_n 0, 1) := by decide +kernel
theorem dX3_enrol_11 : decode cX3_enrol 11 = .ok (.getfield 11, 3) := by decide +kernel
theorem dX3_enrol_14 : decode cX3_enrol 14 = .ok (.aload_n 0, 1) := by decide +kernel
theorem dX3_enrol_15 : decode cX3_enrol 15 = .ok (.getfield 31, 3) := by decide +kernel
theorem dX3_enrol_18 : decode cX3_enrol 18 = .ok (.aaload, 1) := by decide +kernel
theorem dX3_enrol_19 : decode cX3_enrol 19 = .ok (.astore 6, 2) := by decide +kernel
theorem dX3_enrol_21 : decode cX3_enrol 21 = .ok (.aload 6, 2) := by decide +kernel
theorem dX3_enrol_23 : decode cX3_enrol 23 = .ok (.iload_n 1, 1) := by decide +kernel
theorem dX3_enrol_24 : decode cX3_enrol 24 = .ok (.iload_n 2, 1) := by decide +kernel
theorem dX3_enrol_25 : decode cX3_enrol 25 = .ok (.invokevirtual 121, 3) := by decide +kernel
theorem dX3_enrol_28 : decode cX3_enrol 28 = .ok (.aload 6, 2) := by decide +kernel
theorem dX3_enrol_30 : decode cX3_enrol 30 = .ok (.iload_n 3, 1) := by decide +kernel
theorem dX3_enrol_31 : decode cX3_enrol 31 = .ok (.iload 4, 2) := by decide +kernel
theorem dX3_enrol_33 : decode cX3_enrol 33 = .ok (.invokevirtual 125, 3) := by decide +kernel
theorem dX3_enrol_36 : decode cX3_enrol 36 = .ok (.aload 6, 2) := by decide +kernel
theorem dX3_enrol_38 : decode cX3_enrol 38 = .ok (.iload 5, 2) := by decide +kernel
theorem dX3_enrol_40 : decode cX3_enrol 40 = .ok (.putfield 128, 3) := by decide +kernel
theorem dX3_enrol_43 : decode cX3_enrol 43 = .ok (.aload 6, 2) := by decide +kernel
theorem dX3_enrol_45 : decode cX3_enrol 45 = .ok (.aload_n 0, 1) := by decide +kernel
theorem dX3_enrol_46 : decode cX3_enrol 46 = .ok (.getfield 51, 3) := by decide +kernel
theorem dX3_enrol_49 : decode cX3_enrol 49 = .ok (.invokevirtual 132, 3) := by decide +kernel
theorem dX3_enrol_52 : decode cX3_enrol 52 = .ok (.aload_n 0, 1) := by decide +kernel
theorem dX3_enrol_53 : decode cX3_enrol 53 = .ok (.dup, 1) := by decide +kernel
theorem dX3_enrol_54 : decode cX3_enrol 54 = .ok (.getfield 31, 3) := by decide +kernel
theorem dX3_enrol_57 : decode cX3_enrol 57 = .ok (.iconst 1, 1) := by decide +kernel
theorem dX3_enrol_58 : decode cX3_enrol 58 = .ok (.iadd, 1) := by decide +kernel
theorem dX3_enrol_59 : decode cX3_enrol 59 = .ok (.putfield 31, 3) := by decide +kernel
theorem dX3_enrol_62 : decode cX3_enrol 62 = .ok (.return_, 1) := by decide +kernel
theorem dX3_has_0 : decode cX3_has 0 = .ok (.iload_n 1, 1) := by decide +kernel
theorem dX3_has_1 : decode cX3_has 1 = .ok (.ifCond .lt 15, 3) := by decide +kernel
theorem dX3_has_4 : decode cX3_has 4 = .ok (.iload_n 1, 1) := by decide +kernel
theorem dX3_has_5 : decode cX3_has 5 = .ok (.aload_n 0, 1) := by decide +kernel
theorem dX3_has_6 : decode cX3_has 6 = .ok (.getfield 31, 3) := by decide +kernel
theorem dX3_has_9 : decode cX3_has 9 = .ok (.if_icmp .ge 7, 3) := by decide +kernel
theorem dX3_has_12 : decode cX3_has 12 = .ok (.iconst 1, 1) := by decide +kernel
theorem dX3_has_13 : decode cX3_has 13 = .ok (.goto 4, 3) := by decide +kernel
theorem dX3_has_16 : decode cX3_has 16 = .ok (.iconst 0, 1) := by decide +kernel
theorem dX3_has_17 : decode cX3_has 17 = .ok (.ireturn, 1) := by decide +kernel
theorem dX3_due_0 : decode cX3_due 0 = .ok (.iload_n 1, 1) := by decide +kernel
theorem dX3_due_1 : decode cX3_due 1 = .ok (.ifCond .ne 10, 3) := by decide +kernel
theorem dX3_due_4 : decode cX3_due 4 = .ok (.aload_n 0, 1) := by decide +kernel
theorem dX3_due_5 : decode cX3_due 5 = .ok (.getfield 57, 3) := by decide +kernel
theorem dX3_due_8 : decode cX3_due 8 = .ok (.goto 7, 3) := by decide +kernel
theorem dX3_due_11 : decode cX3_due 11 = .ok (.aload_n 0, 1) := by decide +kernel
theorem dX3_due_12 : decode cX3_due 12 = .ok (.getfield 60, 3) := by decide +kernel
theorem dX3_due_15 : decode cX3_due 15 = .ok (.ireturn, 1) := by decide +kernel
theorem dX3_otherSubject_0 : decode cX3_otherSubject 0 = .ok (.iload_n 0, 1) := by decide +kernel
theorem dX3_otherSubject_1 : decode cX3_otherSubject 1 = .ok (.ifCond .ne 7, 3) := by decide +kernel
theorem dX3_otherSubject_4 : decode cX3_otherSubject 4 = .ok (.iconst 1, 1) := by decide +kernel
theorem dX3_otherSubject_5 : decode cX3_otherSubject 5 = .ok (.goto 4, 3) := by decide +kernel
theorem dX3_otherSubject_8 : decode cX3_otherSubject 8 = .ok (.iconst 0, 1) := by decide +kernel
theorem dX3_otherSubject_9 : decode cX3_otherSubject 9 = .ok (.ireturn, 1) := by decide +kernel
theorem dX3_piecesOf_0 : decode cX3_piecesOf 0 = .ok (.iconst 0, 1) := by decide +kernel
theorem dX3_piecesOf_1 : decode cX3_piecesOf 1 = .ok (.istore_n 2, 1) := by decide +kernel
theorem dX3_piecesOf_2 : decode cX3_piecesOf 2 = .ok (.iconst 0, 1) := by decide +kernel
theorem dX3_piecesOf_3 : decode cX3_piecesOf 3 = .ok (.istore_n 3, 1) := by decide +kernel
theorem dX3_piecesOf_4 : decode cX3_piecesOf 4 = .ok (.iload_n 3, 1) := by decide +kernel
theorem dX3_piecesOf_5 : decode cX3_piecesOf 5 = .ok (.aload_n 0, 1) := by decide +kernel
theorem dX3_piecesOf_6 : decode cX3_piecesOf 6 = .ok (.getfield 31, 3) := by decide +kernel
theorem dX3_piecesOf_9 : decode cX3_piecesOf 9 = .ok (.if_icmp .ge 25, 3) := by decide +kernel
theorem dX3_piecesOf_12 : decode cX3_piecesOf 12 = .ok (.iload_n 2, 1) := by decide +kernel
theorem dX3_piecesOf_13 : decode cX3_piecesOf 13 = .ok (.aload_n 0, 1) := by decide +kernel
theorem dX3_piecesOf_14 : decode cX3_piecesOf 14 = .ok (.getfield 11, 3) := by decide +kernel
theorem dX3_piecesOf_17 : decode cX3_piecesOf 17 = .ok (.iload_n 3, 1) := by decide +kernel
theorem dX3_piecesOf_18 : decode cX3_piecesOf 18 = .ok (.aaload, 1) := by decide +kernel
theorem dX3_piecesOf_19 : decode cX3_piecesOf 19 = .ok (.iload_n 1, 1) := by decide +kernel
theorem dX3_piecesOf_20 : decode cX3_piecesOf 20 = .ok (.invokevirtual 135, 3) := by decide +kernel
theorem dX3_piecesOf_23 : decode cX3_piecesOf 23 = .ok (.getfield 139, 3) := by decide +kernel
theorem dX3_piecesOf_26 : decode cX3_piecesOf 26 = .ok (.iadd, 1) := by decide +kernel
theorem dX3_piecesOf_27 : decode cX3_piecesOf 27 = .ok (.istore_n 2, 1) := by decide +kernel
theorem dX3_piecesOf_28 : decode cX3_piecesOf 28 = .ok (.iinc 3 1, 3) := by decide +kernel
theorem dX3_piecesOf_31 : decode cX3_piecesOf 31 = .ok (.goto (-27), 3) := by decide +kernel
theorem dX3_piecesOf_34 : decode cX3_piecesOf 34 = .ok (.iload_n 2, 1) := by decide +kernel
theorem dX3_piecesOf_35 : decode cX3_piecesOf 35 = .ok (.ireturn, 1) := by decide +kernel
theorem dX3_detainedPupils_0 : decode cX3_detainedPupils 0 = .ok (.iconst 0, 1) := by decide +kernel
theorem dX3_detainedPupils_1 : decode cX3_detainedPupils 1 = .ok (.istore_n 1, 1) := by decide +kernel
theorem dX3_detainedPupils_2 : decode cX3_detainedPupils 2 = .ok (.iconst 0, 1) := by decide +kernel
theorem dX3_detainedPupils_3 : decode cX3_detainedPupils 3 = .ok (.istore_n 2, 1) := by decide +kernel
theorem dX3_detainedPupils_4 : decode cX3_detainedPupils 4 = .ok (.iload_n 2, 1) := by decide +kernel
theorem dX3_detainedPupils_5 : decode cX3_detainedPupils 5 = .ok (.aload_n 0, 1) := by decide +kernel
theorem dX3_detainedPupils_6 : decode cX3_detainedPupils 6 = .ok (.getfield 31, 3) := by decide +kernel
theorem dX3_detainedPupils_9 : decode cX3_detainedPupils 9 = .ok (.if_icmp .ge 24, 3) := by decide +kernel
theorem dX3_detainedPupils_12 : decode cX3_detainedPupils 12 = .ok (.aload_n 0, 1) := by decide +kernel
theorem dX3_detainedPupils_13 : decode cX3_detainedPupils 13 = .ok (.getfield 11, 3) := by decide +kernel
theorem dX3_detainedPupils_16 : decode cX3_detainedPupils 16 = .ok (.iload_n 2, 1) := by decide +kernel
theorem dX3_detainedPupils_17 : decode cX3_detainedPupils 17 = .ok (.aaload, 1) := by decide +kernel
theorem dX3_detainedPupils_18 : decode cX3_detainedPupils 18 = .ok (.invokevirtual 142, 3) := by decide +kernel
theorem dX3_detainedPupils_21 : decode cX3_detainedPupils 21 = .ok (.ifCond .eq 6, 3) := by decide +kernel
theorem dX3_detainedPupils_24 : decode cX3_detainedPupils 24 = .ok (.iinc 1 1, 3) := by decide +kernel
theorem dX3_detainedPupils_27 : decode cX3_detainedPupils 27 = .ok (.iinc 2 1, 3) := by decide +kernel
theorem dX3_detainedPupils_30 : decode cX3_detainedPupils 30 = .ok (.goto (-26), 3) := by decide +kernel
theorem dX3_detainedPupils_33 : decode cX3_detainedPupils 33 = .ok (.iload_n 1, 1) := by decide +kernel
theorem dX3_detainedPupils_34 : decode cX3_detainedPupils 34 = .ok (.ireturn, 1) := by decide +kernel
theorem dX3_spies_0 : decode cX3_spies 0 = .ok (.iconst 0, 1) := by decide +kernel
theorem dX3_spies_1 : decode cX3_spies 1 = .ok (.istore_n 1, 1) := by decide +kernel
theorem dX3_spies_2 : decode cX3_spies 2 = .ok (.iconst 0, 1) := by decide +kernel
theorem dX3_spies_3 : decode cX3_spies 3 = .ok (.istore_n 2, 1) := by decide +kernel
theorem dX3_spies_4 : decode cX3_spies 4 = .ok (.iload_n 2, 1) := by decide +kernel
theorem dX3_spies_5 : decode cX3_spies 5 = .ok (.aload_n 0, 1) := by decide +kernel
theorem dX3_spies_6 : decode cX3_spies 6 = .ok (.getfield 31, 3) := by decide +kernel
theorem dX3_spies_9 : decode cX3_spies 9 = .ok (.if_icmp .ge 24, 3) := by decide +kernel
theorem dX3_spies_12 : decode cX3_spies 12 = .ok (.aload_n 0, 1) := by decide +kernel
theorem dX3_spies_13 : decode cX3_spies 13 = .ok (.getfield 11, 3) := by decide +kernel
theorem dX3_spies_16 : decode cX3_spies 16 = .ok (.iload_n 2, 1) := by decide +kernel
theorem dX3_spies_17 : decode cX3_spies 17 = .ok (.aaload, 1) := by decide +kernel
theorem dX3_spies_18 : decode cX3_spies 18 = .ok (.getfield 128, 3) := by decide +kernel
theorem dX3_spies_21 : decode cX3_spies 21 = .ok (.ifCond .eq 6, 3) := by decide +kernel
theorem dX3_spies_24 : decode cX3_spies 24 = .ok (.iinc 1 1, 3) := by decide +kernel
theorem dX3_spies_27 : decode cX3_spies 27 = .ok (.iinc 2 1, 3) := by decide +kernel
theorem dX3_spies_30 : decode cX3_spies 30 = .ok (.goto (-26), 3) := by decide +kernel
theorem dX3_spies_33 : decode cX3_spies 33 = .ok (.iload_n 1, 1) := by decide +kernel
theorem dX3_spies_34 : decode cX3_spies 34 = .ok (.ireturn, 1) := by decide +kernel
theorem dX3_allMarks_0 : decode cX3_allMarks 0 = .ok (.iconst 0, 1) := by decide +kernel
theorem dX3_allMarks_1 : decode cX3_allMarks 1 = .ok (.istore_n 1, 1) := by decide +kernel
theorem dX3_allMarks_2 : decode cX3_allMarks 2 = .ok (.iconst 0, 1) := by decide +kernel
theorem dX3_allMarks_3 : decode cX3_allMarks 3 = .ok (.istore_n 2, 1) := by decide +kernel
theorem dX3_allMarks_4 : decode cX3_allMarks 4 = .ok (.iload_n 2, 1) := by decide +kernel
theorem dX3_allMarks_5 : decode cX3_allMarks 5 = .ok (.aload_n 0, 1) := by decide +kernel
theorem dX3_allMarks_6 : decode cX3_allMarks 6 = .ok (.getfield 31, 3) := by decide +kernel
theorem dX3_allMarks_9 : decode cX3_allMarks 9 = .ok (.if_icmp .ge 21, 3) := by decide +kernel
theorem dX3_allMarks_12 : decode cX3_allMarks 12 = .ok (.iload_n 1, 1) := by decide +kernel
theorem dX3_allMarks_13 : decode cX3_allMarks 13 = .ok (.aload_n 0, 1) := by decide +kernel
theorem dX3_allMarks_14 : decode cX3_allMarks 14 = .ok (.getfield 11, 3) := by decide +kernel
theorem dX3_allMarks_17 : decode cX3_allMarks 17 = .ok (.iload_n 2, 1) := by decide +kernel
theorem dX3_allMarks_18 : decode cX3_allMarks 18 = .ok (.aaload, 1) := by decide +kernel
theorem dX3_allMarks_19 : decode cX3_allMarks 19 = .ok (.getfield 145, 3) := by decide +kernel
theorem dX3_allMarks_22 : decode cX3_allMarks 22 = .ok (.iadd, 1) := by decide +kernel
theorem dX3_allMarks_23 : decode cX3_allMarks 23 = .ok (.istore_n 1, 1) := by decide +kernel
theorem dX3_allMarks_24 : decode cX3_allMarks 24 = .ok (.iinc 2 1, 3) := by decide +kernel
theorem dX3_allMarks_27 : decode cX3_allMarks 27 = .ok (.goto (-23), 3) := by decide +kernel
theorem dX3_allMarks_30 : decode cX3_allMarks 30 = .ok (.iload_n 1, 1) := by decide +kernel
theorem dX3_allMarks_31 : decode cX3_allMarks 31 = .ok (.ireturn, 1) := by decide +kernel
theorem dX3_pupilOn_0 : decode cX3_pupilOn 0 = .ok (.iconst 0, 1) := by decide +kernel
theorem dX3_pupilOn_1 : decode cX3_pupilOn 1 = .ok (.istore_n 3, 1) := by decide +kernel
theorem dX3_pupilOn_2 : decode cX3_pupilOn 2 = .ok (.iload_n 3, 1) := by decide +kernel
theorem dX3_pupilOn_3 : decode cX3_pupilOn 3 = .ok (.aload_n 0, 1) := by decide +kernel
theorem dX3_pupilOn_4 : decode cX3_pupilOn 4 = .ok (.getfield 31, 3) := by decide +kernel
theorem dX3_pupilOn_7 : decode cX3_pupilOn 7 = .ok (.if_icmp .ge 37, 3) := by decide +kernel
theorem dX3_pupilOn_10 : decode cX3_pupilOn 10 = .ok (.aload_n 0, 1) := by decide +kernel
theorem dX3_pupilOn_11 : decode cX3_pupilOn 11 = .ok (.getfield 11, 3) := by decide +kernel
theorem dX3_pupilOn_14 : decode cX3_pupilOn 14 = .ok (.iload_n 3, 1) := by decide +kernel
theorem dX3_pupilOn_15 : decode cX3_pupilOn 15 = .ok (.aaload, 1) := by decide +kernel
theorem dX3_pupilOn_16 : decode cX3_pupilOn 16 = .ok (.getfield 148, 3) := by decide +kernel
theorem dX3_pupilOn_19 : decode cX3_pupilOn 19 = .ok (.iload_n 1, 1) := by decide +kernel
theorem dX3_pupilOn_20 : decode cX3_pupilOn 20 = .ok (.if_icmp .ne 18, 3) := by decide +kernel
theorem dX3_pupilOn_23 : decode cX3_pupilOn 23 = .ok (.aload_n 0, 1) := by decide +kernel
theorem dX3_pupilOn_24 : decode cX3_pupilOn 24 = .ok (.getfield 11, 3) := by decide +kernel
theorem dX3_pupilOn_27 : decode cX3_pupilOn 27 = .ok (.iload_n 3, 1) := by decide +kernel
theorem dX3_pupilOn_28 : decode cX3_pupilOn 28 = .ok (.aaload, 1) := by decide +kernel
theorem dX3_pupilOn_29 : decode cX3_pupilOn 29 = .ok (.getfield 151, 3) := by decide +kernel
theorem dX3_pupilOn_32 : decode cX3_pupilOn 32 = .ok (.iload_n 2, 1) := by decide +kernel
theorem dX3_pupilOn_33 : decode cX3_pupilOn 33 = .ok (.if_icmp .ne 5, 3) := by decide +kernel
theorem dX3_pupilOn_36 : decode cX3_pupilOn 36 = .ok (.iload_n 3, 1) := by decide +kernel
theorem dX3_pupilOn_37 : decode cX3_pupilOn 37 = .ok (.ireturn, 1) := by decide +kernel
theorem dX3_pupilOn_38 : decode cX3_pupilOn 38 = .ok (.iinc 3 1, 3) := by decide +kernel
theorem dX3_pupilOn_41 : decode cX3_pupilOn 41 = .ok (.goto (-39), 3) := by decide +kernel
theorem dX3_pupilOn_44 : decode cX3_pupilOn 44 = .ok (.iconst (-1), 1) := by decide +kernel
theorem dX3_pupilOn_45 : decode cX3_pupilOn 45 = .ok (.ireturn, 1) := by decide +kernel
theorem dX3_pupilsNear_0 : decode cX3_pupilsNear 0 = .ok (.aload_n 0, 1) := by decide +kernel
theorem dX3_pupilsNear_1 : decode cX3_pupilsNear 1 = .ok (.getfield 11, 3) := by decide +kernel
theorem dX3_pupilsNear_4 : decode cX3_pupilsNear 4 = .ok (.iload_n 1, 1) := by decide +kernel
theorem dX3_pupilsNear_5 : decode cX3_pupilsNear 5 = .ok (.aaload, 1) := by decide +kernel
theorem dX3_pupilsNear_6 : decode cX3_pupilsNear 6 = .ok (.astore_n 2, 1) := by decide +kernel
theorem dX3_pupilsNear_7 : decode cX3_pupilsNear 7 = .ok (.iconst 0, 1) := by decide +kernel
theorem dX3_pupilsNear_8 : decode cX3_pupilsNear 8 = .ok (.istore_n 3, 1) := by decide +kernel
theorem dX3_pupilsNear_9 : decode cX3_pupilsNear 9 = .ok (.iconst 0, 1) := by decide +kernel
theorem dX3_pupilsNear_10 : decode cX3_pupilsNear 10 = .ok (.istore 4, 2) := by decide +kernel
theorem dX3_pupilsNear_12 : decode cX3_pupilsNear 12 = .ok (.iload 4, 2) := by decide +kernel
theorem dX3_pupilsNear_14 : decode cX3_pupilsNear 14 = .ok (.aload_n 0, 1) := by decide +kernel
theorem dX3_pupilsNear_15 : decode cX3_pupilsNear 15 = .ok (.getfield 31, 3) := by decide +kernel
theorem dX3_pupilsNear_18 : decode cX3_pupilsNear 18 = .ok (.if_icmp .ge 43, 3) := by decide +kernel
theorem dX3_pupilsNear_21 : decode cX3_pupilsNear 21 = .ok (.iload 4, 2) := by decide +kernel
theorem dX3_pupilsNear_23 : decode cX3_pupilsNear 23 = .ok (.iload_n 1, 1) := by decide +kernel
theorem dX3_pupilsNear_24 : decode cX3_pupilsNear 24 = .ok (.if_icmp .eq 31, 3) := by decide +kernel
theorem dX3_pupilsNear_27 : decode cX3_pupilsNear 27 = .ok (.aload_n 0, 1) := by decide +kernel
theorem dX3_pupilsNear_28 : decode cX3_pupilsNear 28 = .ok (.getfield 11, 3) := by decide +kernel
theorem dX3_pupilsNear_31 : decode cX3_pupilsNear 31 = .ok (.iload 4, 2) := by decide +kernel
theorem dX3_pupilsNear_33 : decode cX3_pupilsNear 33 = .ok (.aaload, 1) := by decide +kernel
theorem dX3_pupilsNear_34 : decode cX3_pupilsNear 34 = .ok (.aload_n 2, 1) := by decide +kernel
theorem dX3_pupilsNear_35 : decode cX3_pupilsNear 35 = .ok (.getfield 148, 3) := by decide +kernel
theorem dX3_pupilsNear_38 : decode cX3_pupilsNear 38 = .ok (.aload_n 2, 1) := by decide +kernel
theorem dX3_pupilsNear_39 : decode cX3_pupilsNear 39 = .ok (.getfield 151, 3) := by decide +kernel
theorem dX3_pupilsNear_42 : decode cX3_pupilsNear 42 = .ok (.invokevirtual 154, 3) := by decide +kernel
theorem dX3_pupilsNear_45 : decode cX3_pupilsNear 45 = .ok (.ifCond .eq 10, 3) := by decide +kernel
theorem dX3_pupilsNear_48 : decode cX3_pupilsNear 48 = .ok (.iload_n 3, 1) := by decide +kernel
theorem dX3_pupilsNear_49 : decode cX3_pupilsNear 49 = .ok (.iconst 1, 1) := by decide +kernel
theorem dX3_pupilsNear_50 : decode cX3_pupilsNear 50 = .ok (.iload 4, 2) := by decide +kernel
theorem dX3_pupilsNear_52 : decode cX3_pupilsNear 52 = .ok (.ishl, 1) := by decide +kernel
theorem dX3_pupilsNear_53 : decode cX3_pupilsNear 53 = .ok (.ior, 1) := by decide +kernel
theorem dX3_pupilsNear_54 : decode cX3_pupilsNear 54 = .ok (.istore_n 3, 1) := by decide +kernel
theorem dX3_pupilsNear_55 : decode cX3_pupilsNear 55 = .ok (.iinc 4 1, 3) := by decide +kernel
theorem dX3_pupilsNear_58 : decode cX3_pupilsNear 58 = .ok (.goto (-46), 3) := by decide +kernel
theorem dX3_pupilsNear_61 : decode cX3_pupilsNear 61 = .ok (.iload_n 3, 1) := by decide +kernel
theorem dX3_pupilsNear_62 : decode cX3_pupilsNear 62 = .ok (.ireturn, 1) := by decide +kernel
theorem dX3_rank_0 : decode cX3_rank 0 = .ok (.aload_n 0, 1) := by decide +kernel
theorem dX3_rank_1 : decode cX3_rank 1 = .ok (.getfield 11, 3) := by decide +kernel
theorem dX3_rank_4 : decode cX3_rank 4 = .ok (.iload_n 1, 1) := by decide +kernel
theorem dX3_rank_5 : decode cX3_rank 5 = .ok (.aaload, 1) := by decide +kernel
theorem dX3_rank_6 : decode cX3_rank 6 = .ok (.iload_n 2, 1) := by decide +kernel
theorem dX3_rank_7 : decode cX3_rank 7 = .ok (.invokevirtual 158, 3) := by decide +kernel
theorem dX3_rank_10 : decode cX3_rank 10 = .ok (.istore_n 3, 1) := by decide +kernel
theorem dX3_rank_11 : decode cX3_rank 11 = .ok (.iconst 0, 1) := by decide +kernel
theorem dX3_rank_12 : decode cX3_rank 12 = .ok (.istore 4, 2) := by decide +kernel
theorem dX3_rank_14 : decode cX3_rank 14 = .ok (.iconst 0, 1) := by decide +kernel
theorem dX3_rank_15 : decode cX3_rank 15 = .ok (.istore 5, 2) := by decide +kernel
theorem dX3_rank_17 : decode cX3_rank 17 = .ok (.iload 5, 2) := by decide +kernel
theorem dX3_rank_19 : decode cX3_rank 19 = .ok (.aload_n 0, 1) := by decide +kernel
theorem dX3_rank_20 : decode cX3_rank 20 = .ok (.getfield 31, 3) := by decide +kernel
theorem dX3_rank_23 : decode cX3_rank 23 = .ok (.if_icmp .ge 43, 3) := by decide +kernel
theorem dX3_rank_26 : decode cX3_rank 26 = .ok (.aload_n 0, 1) := by decide +kernel
theorem dX3_rank_27 : decode cX3_rank 27 = .ok (.getfield 11, 3) := by decide +kernel
theorem dX3_rank_30 : decode cX3_rank 30 = .ok (.iload 5, 2) := by decide +kernel
theorem dX3_rank_32 : decode cX3_rank 32 = .ok (.aaload, 1) := by decide +kernel
theorem dX3_rank_33 : decode cX3_rank 33 = .ok (.iload_n 2, 1) := by decide +kernel
theorem dX3_rank_34 : decode cX3_rank 34 = .ok (.invokevirtual 158, 3) := by decide +kernel
theorem dX3_rank_37 : decode cX3_rank 37 = .ok (.istore 6, 2) := by decide +kernel
theorem dX3_rank_39 : decode cX3_rank 39 = .ok (.iload 6, 2) := by decide +kernel
theorem dX3_rank_41 : decode cX3_rank 41 = .ok (.iload_n 3, 1) := by decide +kernel
theorem dX3_rank_42 : decode cX3_rank 42 = .ok (.if_icmp .gt 15, 3) := by decide +kernel
theorem dX3_rank_45 : decode cX3_rank 45 = .ok (.iload 6, 2) := by decide +kernel
theorem dX3_rank_47 : decode cX3_rank 47 = .ok (.iload_n 3, 1) := by decide +kernel
theorem dX3_rank_48 : decode cX3_rank 48 = .ok (.if_icmp .ne 12, 3) := by decide +kernel
theorem dX3_rank_51 : decode cX3_rank 51 = .ok (.iload 5, 2) := by decide +kernel
theorem dX3_rank_53 : decode cX3_rank 53 = .ok (.iload_n 1, 1) := by decide +kernel
theorem dX3_rank_54 : decode cX3_rank 54 = .ok (.if_icmp .ge 6, 3) := by decide +kernel
theorem dX3_rank_57 : decode cX3_rank 57 = .ok (.iinc 4 1, 3) := by decide +kernel
theorem dX3_rank_60 : decode cX3_rank 60 = .ok (.iinc 5 1, 3) := by decide +kernel
theorem dX3_rank_63 : decode cX3_rank 63 = .ok (.goto (-46), 3) := by decide +kernel
theorem dX3_rank_66 : decode cX3_rank 66 = .ok (.iload 4, 2) := by decide +kernel
theorem dX3_rank_68 : decode cX3_rank 68 = .ok (.ireturn, 1) := by decide +kernel
theorem dX3_spiesWhoSee_0 : decode cX3_spiesWhoSee 0 = .ok (.aload_n 0, 1) := by decide +kernel
theorem dX3_spiesWhoSee_1 : decode cX3_spiesWhoSee 1 = .ok (.getfield 11, 3) := by decide +kernel
theorem dX3_spiesWhoSee_4 : decode cX3_spiesWhoSee 4 = .ok (.iload_n 1, 1) := by decide +kernel
theorem dX3_spiesWhoSee_5 : decode cX3_spiesWhoSee 5 = .ok (.aaload, 1) := by decide +kernel
theorem dX3_spiesWhoSee_6 : decode cX3_spiesWhoSee 6 = .ok (.astore_n 3, 1) := by decide +kernel
theorem dX3_spiesWhoSee_7 : decode cX3_spiesWhoSee 7 = .ok (.aload_n 0, 1) := by decide +kernel
theorem dX3_spiesWhoSee_8 : decode cX3_spiesWhoSee 8 = .ok (.getfield 11, 3) := by decide +kernel
theorem dX3_spiesWhoSee_11 : decode cX3_spiesWhoSee 11 = .ok (.iload_n 2, 1) := by decide +kernel
theorem dX3_spiesWhoSee_12 : decode cX3_spiesWhoSee 12 = .ok (.aaload, 1) := by decide +kernel
theorem dX3_spiesWhoSee_13 : decode cX3_spiesWhoSee 13 = .ok (.astore 4, 2) := by decide +kernel
theorem dX3_spiesWhoSee_15 : decode cX3_spiesWhoSee 15 = .ok (.iconst 0, 1) := by decide +kernel
theorem dX3_spiesWhoSee_16 : decode cX3_spiesWhoSee 16 = .ok (.istore 5, 2) := by decide +kernel
theorem dX3_spiesWhoSee_18 : decode cX3_spiesWhoSee 18 = .ok (.iconst 0, 1) := by decide +kernel
theorem dX3_spiesWhoSee_19 : decode cX3_spiesWhoSee 19 = .ok (.istore 6, 2) := by decide +kernel
theorem dX3_spiesWhoSee_21 : decode cX3_spiesWhoSee 21 = .ok (.iload 6, 2) := by decide +kernel
theorem dX3_spiesWhoSee_23 : decode cX3_spiesWhoSee 23 = .ok (.aload_n 0, 1) := by decide +kernel
theorem dX3_spiesWhoSee_24 : decode cX3_spiesWhoSee 24 = .ok (.getfield 31, 3) := by decide +kernel
theorem dX3_spiesWhoSee_27 : decode cX3_spiesWhoSee 27 = .ok (.if_icmp .ge 84, 3) := by decide +kernel
theorem dX3_spiesWhoSee_30 : decode cX3_spiesWhoSee 30 = .ok (.aload_n 0, 1) := by decide +kernel
theorem dX3_spiesWhoSee_31 : decode cX3_spiesWhoSee 31 = .ok (.getfield 11, 3) := by decide +kernel
theorem dX3_spiesWhoSee_34 : decode cX3_spiesWhoSee 34 = .ok (.iload 6, 2) := by decide +kernel
theorem dX3_spiesWhoSee_36 : decode cX3_spiesWhoSee 36 = .ok (.aaload, 1) := by decide +kernel
theorem dX3_spiesWhoSee_37 : decode cX3_spiesWhoSee 37 = .ok (.astore 7, 2) := by decide +kernel
