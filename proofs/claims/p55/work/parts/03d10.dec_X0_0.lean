theorem dX0_init_0 : decode cX0_init 0 = .ok (.aload_n 0, 1) := by decide +kernel
theorem dX0_init_1 : decode cX0_init 1 = .ok (.invokespecial 3, 3) := by decide +kernel
theorem dX0_init_4 : decode cX0_init 4 = .ok (.aload_n 0, 1) := by decide +kernel
theorem dX0_init_5 : decode cX0_init 5 = .ok (.bipush 30, 2) := by decide +kernel
theorem dX0_init_7 : decode cX0_init 7 = .ok (.newarray .int, 2) := by decide +kernel
theorem dX0_init_9 : decode cX0_init 9 = .ok (.putfield 9, 3) := by decide +kernel
theorem dX0_init_12 : decode cX0_init 12 = .ok (.aload_n 0, 1) := by decide +kernel
theorem dX0_init_13 : decode cX0_init 13 = .ok (.bipush 30, 2) := by decide +kernel
theorem dX0_init_15 : decode cX0_init 15 = .ok (.newarray .int, 2) := by decide +kernel
theorem dX0_init_17 : decode cX0_init 17 = .ok (.putfield 15, 3) := by decide +kernel
theorem dX0_init_20 : decode cX0_init 20 = .ok (.aload_n 0, 1) := by decide +kernel
theorem dX0_init_21 : decode cX0_init 21 = .ok (.bipush 30, 2) := by decide +kernel
theorem dX0_init_23 : decode cX0_init 23 = .ok (.newarray .int, 2) := by decide +kernel
theorem dX0_init_25 : decode cX0_init 25 = .ok (.putfield 18, 3) := by decide +kernel
theorem dX0_init_28 : decode cX0_init 28 = .ok (.aload_n 0, 1) := by decide +kernel
theorem dX0_init_29 : decode cX0_init 29 = .ok (.bipush 30, 2) := by decide +kernel
theorem dX0_init_31 : decode cX0_init 31 = .ok (.newarray .int, 2) := by decide +kernel
theorem dX0_init_33 : decode cX0_init 33 = .ok (.putfield 21, 3) := by decide +kernel
theorem dX0_init_36 : decode cX0_init 36 = .ok (.return_, 1) := by decide +kernel
theorem dX0_copyFrom_0 : decode cX0_copyFrom 0 = .ok (.aload_n 1, 1) := by decide +kernel
theorem dX0_copyFrom_1 : decode cX0_copyFrom 1 = .ok (.getfield 9, 3) := by decide +kernel
theorem dX0_copyFrom_4 : decode cX0_copyFrom 4 = .ok (.iconst 0, 1) := by decide +kernel
theorem dX0_copyFrom_5 : decode cX0_copyFrom 5 = .ok (.aload_n 0, 1) := by decide +kernel
theorem dX0_copyFrom_6 : decode cX0_copyFrom 6 = .ok (.getfield 9, 3) := by decide +kernel
theorem dX0_copyFrom_9 : decode cX0_copyFrom 9 = .ok (.iconst 0, 1) := by decide +kernel
theorem dX0_copyFrom_10 : decode cX0_copyFrom 10 = .ok (.bipush 30, 2) := by decide +kernel
theorem dX0_copyFrom_12 : decode cX0_copyFrom 12 = .ok (.invokestatic 24, 3) := by decide +kernel
theorem dX0_copyFrom_15 : decode cX0_copyFrom 15 = .ok (.aload_n 1, 1) := by decide +kernel
theorem dX0_copyFrom_16 : decode cX0_copyFrom 16 = .ok (.getfield 15, 3) := by decide +kernel
theorem dX0_copyFrom_19 : decode cX0_copyFrom 19 = .ok (.iconst 0, 1) := by decide +kernel
theorem dX0_copyFrom_20 : decode cX0_copyFrom 20 = .ok (.aload_n 0, 1) := by decide +kernel
theorem dX0_copyFrom_21 : decode cX0_copyFrom 21 = .ok (.getfield 15, 3) := by decide +kernel
theorem dX0_copyFrom_24 : decode cX0_copyFrom 24 = .ok (.iconst 0, 1) := by decide +kernel
theorem dX0_copyFrom_25 : decode cX0_copyFrom 25 = .ok (.bipush 30, 2) := by decide +kernel
theorem dX0_copyFrom_27 : decode cX0_copyFrom 27 = .ok (.invokestatic 24, 3) := by decide +kernel
theorem dX0_copyFrom_30 : decode cX0_copyFrom 30 = .ok (.aload_n 1, 1) := by decide +kernel
theorem dX0_copyFrom_31 : decode cX0_copyFrom 31 = .ok (.getfield 18, 3) := by decide +kernel
theorem dX0_copyFrom_34 : decode cX0_copyFrom 34 = .ok (.iconst 0, 1) := by decide +kernel
theorem dX0_copyFrom_35 : decode cX0_copyFrom 35 = .ok (.aload_n 0, 1) := by decide +kernel
theorem dX0_copyFrom_36 : decode cX0_copyFrom 36 = .ok (.getfield 18, 3) := by decide +kernel
theorem dX0_copyFrom_39 : decode cX0_copyFrom 39 = .ok (.iconst 0, 1) := by decide +kernel
theorem dX0_copyFrom_40 : decode cX0_copyFrom 40 = .ok (.bipush 30, 2) := by decide +kernel
theorem dX0_copyFrom_42 : decode cX0_copyFrom 42 = .ok (.invokestatic 24, 3) := by decide +kernel
theorem dX0_copyFrom_45 : decode cX0_copyFrom 45 = .ok (.aload_n 1, 1) := by decide +kernel
theorem dX0_copyFrom_46 : decode cX0_copyFrom 46 = .ok (.getfield 21, 3) := by decide +kernel
theorem dX0_copyFrom_49 : decode cX0_copyFrom 49 = .ok (.iconst 0, 1) := by decide +kernel
theorem dX0_copyFrom_50 : decode cX0_copyFrom 50 = .ok (.aload_n 0, 1) := by decide +kernel
theorem dX0_copyFrom_51 : decode cX0_copyFrom 51 = .ok (.getfield 21, 3) := by decide +kernel
theorem dX0_copyFrom_54 : decode cX0_copyFrom 54 = .ok (.iconst 0, 1) := by decide +kernel
theorem dX0_copyFrom_55 : decode cX0_copyFrom 55 = .ok (.bipush 30, 2) := by decide +kernel
theorem dX0_copyFrom_57 : decode cX0_copyFrom 57 = .ok (.invokestatic 24, 3) := by decide +kernel
theorem dX0_copyFrom_60 : decode cX0_copyFrom 60 = .ok (.aload_n 0, 1) := by decide +kernel
theorem dX0_copyFrom_61 : decode cX0_copyFrom 61 = .ok (.aload_n 1, 1) := by decide +kernel
theorem dX0_copyFrom_62 : decode cX0_copyFrom 62 = .ok (.getfield 30, 3) := by decide +kernel
theorem dX0_copyFrom_65 : decode cX0_copyFrom 65 = .ok (.putfield 30, 3) := by decide +kernel
theorem dX0_copyFrom_68 : decode cX0_copyFrom 68 = .ok (.return_, 1) := by decide +kernel
theorem dX0_find_0 : decode cX0_find 0 = .ok (.iconst 0, 1) := by decide +kernel
theorem dX0_find_1 : decode cX0_find 1 = .ok (.istore 4, 2) := by decide +kernel
theorem dX0_find_3 : decode cX0_find 3 = .ok (.iload 4, 2) := by decide +kernel
theorem dX0_find_5 : decode cX0_find 5 = .ok (.aload_n 0, 1) := by decide +kernel
theorem dX0_find_6 : decode cX0_find 6 = .ok (.getfield 30, 3) := by decide +kernel
theorem dX0_find_9 : decode cX0_find 9 = .ok (.if_icmp .ge 45, 3) := by decide +kernel
theorem dX0_find_12 : decode cX0_find 12 = .ok (.aload_n 0, 1) := by decide +kernel
theorem dX0_find_13 : decode cX0_find 13 = .ok (.getfield 9, 3) := by decide +kernel
theorem dX0_find_16 : decode cX0_find 16 = .ok (.iload 4, 2) := by decide +kernel
theorem dX0_find_18 : decode cX0_find 18 = .ok (.iaload, 1) := by decide +kernel
theorem dX0_find_19 : decode cX0_find 19 = .ok (.iload_n 1, 1) := by decide +kernel
theorem dX0_find_20 : decode cX0_find 20 = .ok (.if_icmp .ne 28, 3) := by decide +kernel
theorem dX0_find_23 : decode cX0_find 23 = .ok (.aload_n 0, 1) := by decide +kernel
theorem dX0_find_24 : decode cX0_find 24 = .ok (.getfield 15, 3) := by decide +kernel
theorem dX0_find_27 : decode cX0_find 27 = .ok (.iload 4, 2) := by decide +kernel
theorem dX0_find_29 : decode cX0_find 29 = .ok (.iaload, 1) := by decide +kernel
theorem dX0_find_30 : decode cX0_find 30 = .ok (.iload_n 2, 1) := by decide +kernel
theorem dX0_find_31 : decode cX0_find 31 = .ok (.if_icmp .ne 17, 3) := by decide +kernel
theorem dX0_find_34 : decode cX0_find 34 = .ok (.aload_n 0, 1) := by decide +kernel
theorem dX0_find_35 : decode cX0_find 35 = .ok (.getfield 18, 3) := by decide +kernel
theorem dX0_find_38 : decode cX0_find 38 = .ok (.iload 4, 2) := by decide +kernel
theorem dX0_find_40 : decode cX0_find 40 = .ok (.iaload, 1) := by decide +kernel
theorem dX0_find_41 : decode cX0_find 41 = .ok (.iload_n 3, 1) := by decide +kernel
theorem dX0_find_42 : decode cX0_find 42 = .ok (.if_icmp .ne 6, 3) := by decide +kernel
theorem dX0_find_45 : decode cX0_find 45 = .ok (.iload 4, 2) := by decide +kernel
theorem dX0_find_47 : decode cX0_find 47 = .ok (.ireturn, 1) := by decide +kernel
theorem dX0_find_48 : decode cX0_find 48 = .ok (.iinc 4 1, 3) := by decide +kernel
theorem dX0_find_51 : decode cX0_find 51 = .ok (.goto (-48), 3) := by decide +kernel
theorem dX0_find_54 : decode cX0_find 54 = .ok (.iconst (-1), 1) := by decide +kernel
theorem dX0_find_55 : decode cX0_find 55 = .ok (.ireturn, 1) := by decide +kernel
theorem dX0_owed_0 : decode cX0_owed 0 = .ok (.aload_n 0, 1) := by decide +kernel
theorem dX0_owed_1 : decode cX0_owed 1 = .ok (.iload_n 1, 1) := by decide +kernel
theorem dX0_owed_2 : decode cX0_owed 2 = .ok (.iload_n 2, 1) := by decide +kernel
theorem dX0_owed_3 : decode cX0_owed 3 = .ok (.iload_n 3, 1) := by decide +kernel
theorem dX0_owed_4 : decode cX0_owed 4 = .ok (.invokevirtual 34, 3) := by decide +kernel
theorem dX0_owed_7 : decode cX0_owed 7 = .ok (.istore 4, 2) := by decide +kernel
theorem dX0_owed_9 : decode cX0_owed 9 = .ok (.iload 4, 2) := by decide +kernel
theorem dX0_owed_11 : decode cX0_owed 11 = .ok (.iconst (-1), 1) := by decide +kernel
theorem dX0_owed_12 : decode cX0_owed 12 = .ok (.if_icmp .ne 7, 3) := by decide +kernel
theorem dX0_owed_15 : decode cX0_owed 15 = .ok (.iconst 0, 1) := by decide +kernel
theorem dX0_owed_16 : decode cX0_owed 16 = .ok (.goto 10, 3) := by decide +kernel
theorem dX0_owed_19 : decode cX0_owed 19 = .ok (.aload_n 0, 1) := by decide +kernel
theorem dX0_owed_20 : decode cX0_owed 20 = .ok (.getfield 21, 3) := by decide +kernel
theorem dX0_owed_23 : decode cX0_owed 23 = .ok (.iload 4, 2) := by decide +kernel
theorem dX0_owed_25 : decode cX0_owed 25 = .ok (.iaload, 1) := by decide +kernel
theorem dX0_owed_26 : decode cX0_owed 26 = .ok (.ireturn, 1) := by decide +kernel
theorem dX0_canGrow_0 : decode cX0_canGrow 0 = .ok (.aload_n 0, 1) := by decide +kernel
theorem dX0_canGrow_1 : decode cX0_canGrow 1 = .ok (.iload_n 1, 1) := by decide +kernel
theorem dX0_canGrow_2 : decode cX0_canGrow 2 = .ok (.iload_n 2, 1) := by decide +kernel
theorem dX0_canGrow_3 : decode cX0_canGrow 3 = .ok (.iload_n 3, 1) := by decide +kernel
theorem dX0_canGrow_4 : decode cX0_canGrow 4 = .ok (.invokevirtual 34, 3) := by decide +kernel
theorem dX0_canGrow_7 : decode cX0_canGrow 7 = .ok (.istore 5, 2) := by decide +kernel
theorem dX0_canGrow_9 : decode cX0_canGrow 9 = .ok (.iload 5, 2) := by decide +kernel
theorem dX0_canGrow_11 : decode cX0_canGrow 11 = .ok (.iconst (-1), 1) := by decide +kernel
theorem dX0_canGrow_12 : decode cX0_canGrow 12 = .ok (.if_icmp .ne 20, 3) := by decide +kernel
theorem dX0_canGrow_15 : decode cX0_canGrow 15 = .ok (.aload_n 0, 1) := by decide +kernel
theorem dX0_canGrow_16 : decode cX0_canGrow 16 = .ok (.getfield 30, 3) := by decide +kernel
theorem dX0_canGrow_19 : decode cX0_canGrow 19 = .ok (.bipush 30, 2) := by decide +kernel
theorem dX0_canGrow_21 : decode cX0_canGrow 21 = .ok (.if_icmp .ge 7, 3) := by decide +kernel
theorem dX0_canGrow_24 : decode cX0_canGrow 24 = .ok (.iconst 1, 1) := by decide +kernel
theorem dX0_canGrow_25 : decode cX0_canGrow 25 = .ok (.goto 27, 3) := by decide +kernel
theorem dX0_canGrow_28 : decode cX0_canGrow 28 = .ok (.iconst 0, 1) := by decide +kernel
theorem dX0_canGrow_29 : decode cX0_canGrow 29 = .ok (.goto 23, 3) := by decide +kernel
theorem dX0_canGrow_32 : decode cX0_canGrow 32 = .ok (.aload_n 0, 1) := by decide +kernel
theorem dX0_canGrow_33 : decode cX0_canGrow 33 = .ok (.getfield 21, 3) := by decide +kernel
theorem dX0_canGrow_36 : decode cX0_canGrow 36 = .ok (.iload 5, 2) := by decide +kernel
theorem dX0_canGrow_38 : decode cX0_canGrow 38 = .ok (.iaload, 1) := by decide +kernel
theorem dX0_canGrow_39 : decode cX0_canGrow 39 = .ok (.iload 4, 2) := by decide +kernel
theorem dX0_canGrow_41 : decode cX0_canGrow 41 = .ok (.iadd, 1) := by decide +kernel
theorem dX0_canGrow_42 : decode cX0_canGrow 42 = .ok (.bipush 99, 2) := by decide +kernel
theorem dX0_canGrow_44 : decode cX0_canGrow 44 = .ok (.if_icmp .gt 7, 3) := by decide +kernel
theorem dX0_canGrow_47 : decode cX0_canGrow 47 = .ok (.iconst 1, 1) := by decide +kernel
theorem dX0_canGrow_48 : decode cX0_canGrow 48 = .ok (.goto 4, 3) := by decide +kernel
theorem dX0_canGrow_51 : decode cX0_canGrow 51 = .ok (.iconst 0, 1) := by decide +kernel
theorem dX0_canGrow_52 : decode cX0_canGrow 52 = .ok (.ireturn, 1) := by decide +kernel
theorem dX0_growOne_0 : decode cX0_growOne 0 = .ok (.aload_n 0, 1) := by decide +kernel
theorem dX0_growOne_1 : decode cX0_growOne 1 = .ok (.iload_n 1, 1) := by decide +kernel
theorem dX0_growOne_2 : decode cX0_growOne 2 = .ok (.iload_n 2, 1) := by decide +kernel
theorem dX0_growOne_3 : decode cX0_growOne 3 = .ok (.iload_n 3, 1) := by decide +kernel
theorem dX0_growOne_4 : decode cX0_growOne 4 = .ok (.invokevirtual 34, 3) := by decide +kernel
theorem dX0_growOne_7 : decode cX0_growOne 7 = .ok (.istore 5, 2) := by decide +kernel
theorem dX0_growOne_9 : decode cX0_growOne 9 = .ok (.iload 5, 2) := by decide +kernel
theorem dX0_growOne_11 : decode cX0_growOne 11 = .ok (.iconst (-1), 1) := by decide +kernel
theorem dX0_growOne_12 : decode cX0_growOne 12 = .ok (.if_icmp .ne 12, 3) := by decide +kernel
theorem dX0_growOne_15 : decode cX0_growOne 15 = .ok (.aload_n 0, 1) := by decide +kernel
theorem dX0_growOne_16 : decode cX0_growOne 16 = .ok (.iload_n 1, 1) := by decide +kernel
theorem dX0_growOne_17 : decode cX0_growOne 17 = .ok (.iload_n 2, 1) := by decide +kernel
theorem dX0_growOne_18 : decode cX0_growOne 18 = .ok (.iload_n 3, 1) := by decide +kernel
theorem dX0_growOne_19 : decode cX0_growOne 19 = .ok (.invokevirtual 38, 3) := by decide +kernel
theorem dX0_growOne_22 : decode cX0_growOne 22 = .ok (.istore 5, 2) := by decide +kernel
theorem dX0_growOne_24 : decode cX0_growOne 24 = .ok (.iload 5, 2) := by decide +kernel
theorem dX0_growOne_26 : decode cX0_growOne 26 = .ok (.iconst (-1), 1) := by decide +kernel
theorem dX0_growOne_27 : decode cX0_growOne 27 = .ok (.if_icmp .ne 5, 3) := by decide +kernel
theorem dX0_growOne_30 : decode cX0_growOne 30 = .ok (.iconst 0, 1) := by decide +kernel
theorem dX0_growOne_31 : decode cX0_growOne 31 = .ok (.ireturn, 1) := by decide +kernel
theorem dX0_growOne_32 : decode cX0_growOne 32 = .ok (.aload_n 0, 1) := by decide +kernel
theorem dX0_growOne_33 : decode cX0_growOne 33 = .ok (.getfield 21, 3) := by decide +kernel
theorem dX0_growOne_36 : decode cX0_growOne 36 = .ok (.iload 5, 2) := by decide +kernel
theorem dX0_growOne_38 : decode cX0_growOne 38 = .ok (.dup2, 1) := by decide +kernel
theorem dX0_growOne_39 : decode cX0_growOne 39 = .ok (.iaload, 1) := by decide +kernel
theorem dX0_growOne_40 : decode cX0_growOne 40 = .ok (.iload 4, 2) := by decide +kernel
theorem dX0_growOne_42 : decode cX0_growOne 42 = .ok (.iadd, 1) := by decide +kernel
theorem dX0_growOne_43 : decode cX0_growOne 43 = .ok (.iastore, 1) := by decide +kernel
theorem dX0_growOne_44 : decode cX0_growOne 44 = .ok (.aload_n 0, 1) := by decide +kernel
theorem dX0_growOne_45 : decode cX0_growOne 45 = .ok (.getfield 21, 3) := by decide +kernel
theorem dX0_growOne_48 : decode cX0_growOne 48 = .ok (.iload 5, 2) := by decide +kernel
theorem dX0_growOne_50 : decode cX0_growOne 50 = .ok (.iaload, 1) := by decide +kernel
theorem dX0_growOne_51 : decode cX0_growOne 51 = .ok (.ireturn, 1) := by decide +kernel
theorem dX0_open_0 : decode cX0_open 0 = .ok (.aload_n 0, 1) := by decide +kernel
theorem dX0_open_1 : decode cX0_open 1 = .ok (.getfield 30, 3) := by decide +kernel
theorem dX0_open_4 : decode cX0_open 4 = .ok (.bipush 30, 2) := by decide +kernel
theorem dX0_open_6 : decode cX0_open 6 = .ok (.if_icmp .lt 5, 3) := by decide +kernel
theorem dX0_open_9 : decode cX0_open 9 = .ok (.iconst (-1), 1) := by decide +kernel
theorem dX0_open_10 : decode cX0_open 10 = .ok (.ireturn, 1) := by decide +kernel
theorem dX0_open_11 : decode cX0_open 11 = .ok (.aload_n 0, 1) := by decide +kernel
theorem dX0_open_12 : decode cX0_open 12 = .ok (.getfield 9, 3) := by decide +kernel
theorem dX0_open_15 : decode cX0_open 15 = .ok (.aload_n 0, 1) := by decide +kernel
theorem dX0_open_16 : decode cX0_open 16 = .ok (.getfield 30, 3) := by decide +kernel
theorem dX0_open_19 : decode cX0_open 19 = .ok (.iload_n 1, 1) := by decide +kernel
theorem dX0_open_20 : decode cX0_open 20 = .ok (.iastore, 1) := by decide +kernel
theorem dX0_open_21 : decode cX0_open 21 = .ok (.aload_n 0, 1) := by decide +kernel
theorem dX0_open_22 : decode cX0_open 22 = .ok (.getfield 15, 3) := by decide +kernel
theorem dX0_open_25 : decode cX0_open 25 = .ok (.aload_n 0, 1) := by decide +kernel
theorem dX0_open_26 : decode cX0_open 26 = .ok (.getfield 30, 3) := by decide +kernel
theorem dX0_open_29 : decode cX0_open 29 = .ok (.iload_n 2, 1) := by decide +kernel
theorem dX0_open_30 : decode cX0_open 30 = .ok (.iastore, 1) := by decide +kernel
theorem dX0_open_31 : decode cX0_open 31 = .ok (.aload_n 0, 1) := by decide +kernel
theorem dX0_open_32 : decode cX0_open 32 = .ok (.getfield 18, 3) := by decide +kernel
theorem dX0_open_35 : decode cX0_open 35 = .ok (.aload_n 0, 1) := by decide +kernel
theorem dX0_open_36 : decode cX0_open 36 = .ok (.getfield 30, 3) := by decide +kernel
theorem dX0_open_39 : decode cX0_open 39 = .ok (.iload_n 3, 1) := by decide +kernel
theorem dX0_open_40 : decode cX0_open 40 = .ok (.iastore, 1) := by decide +kernel
theorem dX0_open_41 : decode cX0_open 41 = .ok (.aload_n 0, 1) := by decide +kernel
theorem dX0_open_42 : decode cX0_open 42 = .ok (.getfield 21, 3) := by decide +kernel
theorem dX0_open_45 : decode cX0_open 45 = .ok (.aload_n 0, 1) := by decide +kernel
theorem dX0_open_46 : decode cX0_open 46 = .ok (.getfield 30, 3) := by decide +kernel
theorem dX0_open_49 : decode cX0_open 49 = .ok (.iconst 0, 1) := by decide +kernel
theorem dX0_open_50 : decode cX0_open 50 = .ok (.iastore, 1) := by decide +kernel
theorem dX0_open_51 : decode cX0_open 51 = .ok (.aload_n 0, 1) := by decide +kernel
theorem dX0_open_52 : decode cX0_open 52 = .ok (.dup, 1) := by decide +kernel
theorem dX0_open_53 : decode cX0_open 53 = .ok (.getfield 30, 3) := by decide +kernel
theorem dX0_open_56 : decode cX0_open 56 = .ok (.iconst 1, 1) := by decide +kernel
theorem dX0_open_57 : decode cX0_open 57 = .ok (.iadd, 1) := by decide +kernel
theorem dX0_open_58 : decode cX0_open 58 = .ok (.putfield 30, 3) := by decide +kernel
theorem dX0_open_61 : decode cX0_open 61 = .ok (.aload_n 0, 1) := by decide +kernel
theorem dX0_open_62 : decode cX0_open 62 = .ok (.getfield 30, 3) := by decide +kernel
theorem dX0_open_65 : decode cX0_open 65 = .ok (.iconst 1, 1) := by decide +kernel
theorem dX0_open_66 : decode cX0_open 66 = .ok (.isub, 1) := by decide +kernel
theorem dX0_open_67 : decode cX0_open 67 = .ok (.ireturn, 1) := by decide +kernel
theorem dX0_shrinkOne_0 : decode cX0_shrinkOne 0 = .ok (.aload_n 0, 1) := by decide +kernel
theorem dX0_shrinkOne_1 : decode cX0_shrinkOne 1 = .ok (.iload_n 1, 1) := by decide +kernel
theorem dX0_shrinkOne_2 : decode cX0_shrinkOne 2 = .ok (.iload_n 2, 1) := by decide +kernel
theorem dX0_shrinkOne_3 : decode cX0_shrinkOne 3 = .ok (.iload_n 3, 1) := by decide +kernel
theorem dX0_shrinkOne_4 : decode cX0_shrinkOne 4 = .ok (.invokevirtual 34, 3) := by decide +kernel
theorem dX0_shrinkOne_7 : decode cX0_shrinkOne 7 = .ok (.istore 5, 2) := by decide +kernel
theorem dX0_shrinkOne_9 : decode cX0_shrinkOne 9 = .ok (.iload 5, 2) := by decide +kernel
theorem dX0_shrinkOne_11 : decode cX0_shrinkOne 11 = .ok (.iconst (-1), 1) := by decide +kernel
theorem dX0_shrinkOne_12 : decode cX0_shrinkOne 12 = .ok (.if_icmp .ne 5, 3) := by decide +kernel
theorem dX0_shrinkOne_15 : decode cX0_shrinkOne 15 = .ok (.iconst 0, 1) := by decide +kernel
theorem dX0_shrinkOne_16 : decode cX0_shrinkOne 16 = .ok (.ireturn, 1) := by decide +kernel
theorem dX0_shrinkOne_17 : decode cX0_shrinkOne 17 = .ok (.aload_n 0, 1) := by decide +kernel
theorem dX0_shrinkOne_18 : decode cX0_shrinkOne 18 = .ok (.getfield 21, 3) := by decide +kernel
theorem dX0_shrinkOne_21 : decode cX0_shrinkOne 21 = .ok (.iload 5, 2) := by decide +kernel
theorem dX0_shrinkOne_23 : decode cX0_shrinkOne 23 = .ok (.iaload, 1) := by decide +kernel
theorem dX0_shrinkOne_24 : decode cX0_shrinkOne 24 = .ok (.iload 4, 2) := by decide +kernel
theorem dX0_shrinkOne_26 : decode cX0_shrinkOne 26 = .ok (.isub, 1) := by decide +kernel
theorem dX0_shrinkOne_27 : decode cX0_shrinkOne 27 = .ok (.istore 6, 2) := by decide +kernel
theorem dX0_shrinkOne_29 : decode cX0_shrinkOne 29 = .ok (.aload_n 0, 1) := by decide +kernel
theorem dX0_shrinkOne_30 : decode cX0_shrinkOne 30 = .ok (.getfield 21, 3) := by decide +kernel
theorem dX0_shrinkOne_33 : decode cX0_shrinkOne 33 = .ok (.iload 5, 2) := by decide +kernel
theorem dX0_shrinkOne_35 : decode cX0_shrinkOne 35 = .ok (.iload 6, 2) := by decide +kernel
theorem dX0_shrinkOne_37 : decode cX0_shrinkOne 37 = .ok (.iastore, 1) := by decide +kernel
theorem dX0_shrinkOne_38 : decode cX0_shrinkOne 38 = .ok (.iload 6, 2) := by decide +kernel
theorem dX0_shrinkOne_40 : decode cX0_shrinkOne 40 = .ok (.ifCond .gt 9, 3) := by decide +kernel
theorem dX0_shrinkOne_43 : decode cX0_shrinkOne 43 = .ok (.aload_n 0, 1) := by decide +kernel
theorem dX0_shrinkOne_44 : decode cX0_shrinkOne 44 = .ok (.iload 5, 2) := by decide +kernel
theorem dX0_shrinkOne_46 : decode cX0_shrinkOne 46 = .ok (.invokevirtual 41, 3) := by decide +kernel
theorem dX0_shrinkOne_49 : decode cX0_shrinkOne 49 = .ok (.iload 6, 2) := by decide +kernel
theorem dX0_shrinkOne_51 : decode cX0_shrinkOne 51 = .ok (.ireturn, 1) := by decide +kernel
theorem dX0_close_0 : decode cX0_close 0 = .ok (.aload_n 0, 1) := by decide +kernel
theorem dX0_close_1 : decode cX0_close 1 = .ok (.dup, 1) := by decide +kernel
theorem dX0_close_2 : decode cX0_close 2 = .ok (.getfield 30, 3) := by decide +kernel
theorem dX0_close_5 : decode cX0_close 5 = .ok (.iconst 1, 1) := by decide +kernel
theorem dX0_close_6 : decode cX0_close 6 = .ok (.isub, 1) := by decide +kernel
theorem dX0_close_7 : decode cX0_close 7 = .ok (.putfield 30, 3) := by decide +kernel
theorem dX0_close_10 : decode cX0_close 10 = .ok (.iload_n 1, 1) := by decide +kernel
theorem dX0_close_11 : decode cX0_close 11 = .ok (.istore_n 2, 1) := by decide +kernel
theorem dX0_close_12 : decode cX0_close 12 = .ok (.iload_n 2, 1) := by decide +kernel
theorem dX0_close_13 : decode cX0_close 13 = .ok (.aload_n 0, 1) := by decide +kernel
theorem dX0_close_14 : decode cX0_close 14 = .ok (.getfield 30, 3) := by decide +kernel
theorem dX0_close_17 : decode cX0_close 17 = .ok (.if_icmp .ge 65, 3) := by decide +kernel
theorem dX0_close_20 : decode cX0_close 20 = .ok (.aload_n 0, 1) := by decide +kernel
theorem dX0_close_21 : decode cX0_close 21 = .ok (.getfield 9, 3) := by decide +kernel
theorem dX0_close_24 : decode cX0_close 24 = .ok (.iload_n 2, 1) := by decide +kernel
theorem dX0_close_25 : decode cX0_close 25 = .ok (.aload_n 0, 1) := by decide +kernel
theorem dX0_close_26 : decode cX0_close 26 = .ok (.getfield 9, 3) := by decide +kernel
theorem dX0_close_29 : decode cX0_close 29 = .ok (.iload_n 2, 1) := by decide +kernel
theorem dX0_close_30 : decode cX0_close 30 = .ok (.iconst 1, 1) := by decide +kernel
theorem dX0_close_31 : decode cX0_close 31 = .ok (.iadd, 1) := by decide +kernel
theorem dX0_close_32 : decode cX0_close 32 = .ok (.iaload, 1) := by decide +kernel
theorem dX0_close_33 : decode cX0_close 33 = .ok (.iastore, 1) := by decide +kernel
theorem dX0_close_34 : decode cX0_close 34 = .ok (.aload_n 0, 1) := by decide +kernel
theorem dX0_close_35 : decode cX0_close 35 = .ok (.getfield 15, 3) := by decide +kernel
theorem dX0_close_38 : decode cX0_close 38 = .ok (.iload_n 2, 1) := by decide +kernel
theorem dX0_close_39 : decode cX0_close 39 = .ok (.aload_n 0, 1) := by decide +kernel
theorem dX0_close_40 : decode cX0_close 40 = .ok (.getfield 15, 3) := by decide +kernel
theorem dX0_close_43 : decode cX0_close 43 = .ok (.iload_n 2, 1) := by decide +kernel
theorem dX0_close_44 : decode cX0_close 44 = .ok (.iconst 1, 1) := by decide +kernel
theorem dX0_close_45 : decode cX0_close 45 = .ok (.iadd, 1) := by decide +kernel
theorem dX0_close_46 : decode cX0_close 46 = .ok (.iaload, 1) := by decide +kernel
theorem dX0_close_47 : decode cX0_close 47 = .ok (.iastore, 1) := by decide +kernel
theorem dX0_close_48 : decode cX0_close 48 = .ok (.aload_n 0, 1) := by decide +kernel
theorem dX0_close_49 : decode cX0_close 49 = .ok (.getfield 18, 3) := by decide +kernel
theorem dX0_close_52 : decode cX0_close 52 = .ok (.iload_n 2, 1) := by decide +kernel
theorem dX0_close_53 : decode cX0_close 53 = .ok (.aload_n 0, 1) := by decide +kernel
theorem dX0_close_54 : decode cX0_close 54 = .ok (.getfield 18, 3) := by decide +kernel
theorem dX0_close_57 : decode cX0_close 57 = .ok (.iload_n 2, 1) := by decide +kernel
theorem dX0_close_58 : decode cX0_close 58 = .ok (.iconst 1, 1) := by decide +kernel
theorem dX0_close_59 : decode cX0_close 59 = .ok (.iadd, 1) := by decide +kernel
theorem dX0_close_60 : decode cX0_close 60 = .ok (.iaload, 1) := by decide +kernel
theorem dX0_close_61 : decode cX0_close 61 = .ok (.iastore, 1) := by decide +kernel
theorem dX0_close_62 : decode cX0_close 62 = .ok (.aload_n 0, 1) := by decide +kernel
theorem dX0_close_63 : decode cX0_close 63 = .ok (.getfield 21, 3) := by decide +kernel
theorem dX0_close_66 : decode cX0_close 66 = .ok (.iload_n 2, 1) := by decide +kernel
theorem dX0_close_67 : decode cX0_close 67 = .ok (.aload_n 0, 1) := by decide +kernel
theorem dX0_close_68 : decode cX0_close 68 = .ok (.getfield 21, 3) := by decide +kernel
theorem dX0_close_71 : decode cX0_close 71 = .ok (.iload_n 2, 1) := by decide +kernel
theorem dX0_close_72 : decode cX0_close 72 = .ok (.iconst 1, 1) := by decide +kernel
theorem dX0_close_73 : decode cX0_close 73 = .ok (.iadd, 1) := by decide +kernel
theorem dX0_close_74 : decode cX0_close 74 = .ok (.iaload, 1) := by decide +kernel
theorem dX0_close_75 : decode cX0_close 75 = .ok (.iastore, 1) := by decide +kernel
theorem dX0_close_76 : decode cX0_close 76 = .ok (.iinc 2 1, 3) := by decide +kernel
theorem dX0_close_79 : decode cX0_close 79 = .ok (.goto (-67), 3) := by decide +kernel
theorem dX0_close_82 : decode cX0_close 82 = .ok (.return_, 1) := by decide +kernel
theorem dX0_growAll_0 : decode cX0_growAll 0 = .ok (.iconst 0, 1) := by decide +kernel
theorem dX0_growAll_1 : decode cX0_growAll 1 = .ok (.istore_n 1, 1) := by decide +kernel
theorem dX0_growAll_2 : decode cX0_growAll 2 = .ok (.iconst 0, 1) := by decide +kernel
theorem dX0_growAll_3 : decode cX0_growAll 3 = .ok (.istore_n 2, 1) := by decide +kernel
theorem dX0_growAll_4 : decode cX0_growAll 4 = .ok (.iload_n 2, 1) := by decide +kernel
theorem dX0_growAll_5 : decode cX0_growAll 5 = .ok (.aload_n 0, 1) := by decide +kernel
theorem dX0_growAll_6 : decode cX0_growAll 6 = .ok (.getfield 30, 3) := by decide +kernel
theorem dX0_growAll_9 : decode cX0_growAll 9 = .ok (.if_icmp .ge 36, 3) := by decide +kernel
theorem dX0_growAll_12 : decode cX0_growAll 12 = .ok (.aload_n 0, 1) := by decide +kernel
theorem dX0_growAll_13 : decode cX0_growAll 13 = .ok (.getfield 21, 3) := by decide +kernel
theorem dX0_growAll_16 : decode cX0_growAll 16 = .ok (.iload_n 2, 1) := by decide +kernel
theorem dX0_growAll_17 : decode cX0_growAll 17 = .ok (.iaload, 1) := by decide +kernel
theorem dX0_growAll_18 : decode cX0_growAll 18 = .ok (.bipush 99, 2) := by decide +kernel
theorem dX0_growAll_20 : decode cX0_growAll 20 = .ok (.if_icmp .lt 6, 3) := by decide +kernel
theorem dX0_growAll_23 : decode cX0_growAll 23 = .ok (.goto 16, 3) := by decide +kernel
theorem dX0_growAll_26 : decode cX0_growAll 26 = .ok (.aload_n 0, 1) := by decide +kernel
theorem dX0_growAll_27 : decode cX0_growAll 27 = .ok (.getfield 21, 3) := by decide +kernel
theorem dX0_growAll_30 : decode cX0_growAll 30 = .ok (.iload_n 2, 1) := by decide +kernel
theorem dX0_growAll_31 : decode cX0_growAll 31 = .ok (.dup2, 1) := by decide +kernel
theorem dX0_growAll_32 : decode cX0_growAll 32 = .ok (.iaload, 1) := by decide +kernel
theorem dX0_growAll_33 : decode cX0_growAll 33 = .ok (.iconst 1, 1) := by decide +kernel
theorem dX0_growAll_34 : decode cX0_growAll 34 = .ok (.iadd, 1) := by decide +kernel
theorem dX0_growAll_35 : decode cX0_growAll 35 = .ok (.iastore, 1) := by decide +kernel
theorem dX0_growAll_36 : decode cX0_growAll 36 = .ok (.iinc 1 1, 3) := by decide +kernel
theorem dX0_growAll_39 : decode cX0_growAll 39 = .ok (.iinc 2 1, 3) := by decide +kernel
theorem dX0_growAll_42 : decode cX0_growAll 42 = .ok (.goto (-38), 3) := by decide +kernel
theorem dX0_growAll_45 : decode cX0_growAll 45 = .ok (.iload_n 1, 1) := by decide +kernel
theorem dX0_growAll_46 : decode cX0_growAll 46 = .ok (.ireturn, 1) := by decide +kernel
theorem dX0_piecesOwed_0 : decode cX0_piecesOwed 0 = .ok (.iconst 0, 1) := by decide +kernel
theorem dX0_piecesOwed_1 : decode cX0_piecesOwed 1 = .ok (.istore_n 1, 1) := by decide +kernel
theorem dX0_piecesOwed_2 : decode cX0_piecesOwed 2 = .ok (.iconst 0, 1) := by decide +kernel
theorem dX0_piecesOwed_3 : decode cX0_piecesOwed 3 = .ok (.istore_n 2, 1) := by decide +kernel
theorem dX0_piecesOwed_4 : decode cX0_piecesOwed 4 = .ok (.iload_n 2, 1) := by decide +kernel
theorem dX0_piecesOwed_5 : decode cX0_piecesOwed 5 = .ok (.aload_n 0, 1) := by decide +kernel
theorem dX0_piecesOwed_6 : decode cX0_piecesOwed 6 = .ok (.getfield 30, 3) := by decide +kernel
theorem dX0_piecesOwed_9 : decode cX0_piecesOwed 9 = .ok (.if_icmp .ge 18, 3) := by decide +kernel
theorem dX0_piecesOwed_12 : decode cX0_piecesOwed 12 = .ok (.iload_n 1, 1) := by decide +kernel
theorem dX0_piecesOwed_13 : decode cX0_piecesOwed 13 = .ok (.aload_n 0, 1) := by decide +kernel
theorem dX0_piecesOwed_14 : decode cX0_piecesOwed 14 = .ok (.getfield 21, 3) := by decide +kernel
theorem dX0_piecesOwed_17 : decode cX0_piecesOwed 17 = .ok (.iload_n 2, 1) := by decide +kernel
theorem dX0_piecesOwed_18 : decode cX0_piecesOwed 18 = .ok (.iaload, 1) := by decide +kernel
theorem dX0_piecesOwed_19 : decode cX0_piecesOwed 19 = .ok (.iadd, 1) := by decide +kernel
theorem dX0_piecesOwed_20 : decode cX0_piecesOwed 20 = .ok (.istore_n 1, 1) := by decide +kernel
theorem dX0_piecesOwed_21 : decode cX0_piecesOwed 21 = .ok (.iinc 2 1, 3) := by decide +kernel
theorem dX0_piecesOwed_24 : decode cX0_piecesOwed 24 = .ok (.goto (-20), 3) := by decide +kernel
theorem dX0_piecesOwed_27 : decode cX0_piecesOwed 27 = .ok (.iload_n 1, 1) := by decide +kernel
theorem dX0_piecesOwed_28 : decode cX0_piecesOwed 28 = .ok (.ireturn, 1) := by decide +kernel
theorem dX0_owedBy_0 : decode cX0_owedBy 0 = .ok (.iconst 0, 1) := by decide +kernel
theorem dX0_owedBy_1 : decode cX0_owedBy 1 = .ok (.istore_n 2, 1) := by decide +kernel
theorem dX0_owedBy_2 : decode cX0_owedBy 2 = .ok (.iconst 0, 1) := by decide +kernel
theorem dX0_owedBy_3 : decode cX0_owedBy 3 = .ok (.istore_n 3, 1) := by decide +kernel
theorem dX0_owedBy_4 : decode cX0_owedBy 4 = .ok (.iload_n 3, 1) := by decide +kernel
theorem dX0_owedBy_5 : decode cX0_owedBy 5 = .ok (.aload_n 0, 1) := by decide +kernel
theorem dX0_owedBy_6 : decode cX0_owedBy 6 = .ok (.getfield 30, 3) := by decide +kernel
theorem dX0_owedBy_9 : decode cX0_owedBy 9 = .ok (.if_icmp .ge 28, 3) := by decide +kernel
theorem dX0_owedBy_12 : decode cX0_owedBy 12 = .ok (.aload_n 0, 1) := by decide +kernel
theorem dX0_owedBy_13 : decode cX0_owedBy 13 = .ok (.getfield 9, 3) := by decide +kernel
theorem dX0_owedBy_16 : decode cX0_owedBy 16 = .ok (.iload_n 3, 1) := by decide +kernel
theorem dX0_owedBy_17 : decode cX0_owedBy 17 = .ok (.iaload, 1) := by decide +kernel
theorem dX0_owedBy_18 : decode cX0_owedBy 18 = .ok (.iload_n 1, 1) := by decide +kernel
theorem dX0_owedBy_19 : decode cX0_owedBy 19 = .ok (.if_icmp .ne 12, 3) := by decide +kernel
theorem dX0_owedBy_22 : decode cX0_owedBy 22 = .ok (.iload_n 2, 1) := by decide +kernel
theorem dX0_owedBy_23 : decode cX0_owedBy 23 = .ok (.aload_n 0, 1) := by decide +kernel
theorem dX0_owedBy_24 : decode cX0_owedBy 24 = .ok (.getfield 21, 3) := by decide +kernel
theorem dX0_owedBy_27 : decode cX0_owedBy 27 = .ok (.iload_n 3, 1) := by decide +kernel
theorem dX0_owedBy_28 : decode cX0_owedBy 28 = .ok (.iaload, 1) := by decide +kernel
theorem dX0_owedBy_29 : decode cX0_owedBy 29 = .ok (.iadd, 1) := by decide +kernel
theorem dX0_owedBy_30 : decode cX0_owedBy 30 = .ok (.istore_n 2, 1) := by decide +kernel
theorem dX0_owedBy_31 : decode cX0_owedBy 31 = .ok (.iinc 3 1, 3) := by decide +kernel
theorem dX0_owedBy_34 : decode cX0_owedBy 34 = .ok (.goto (-30), 3) := by decide +kernel
theorem dX0_owedBy_37 : decode cX0_owedBy 37 = .ok (.iload_n 2, 1) := by decide +kernel
theorem dX0_owedBy_38 : decode cX0_owedBy 38 = .ok (.ireturn, 1) := by decide +kernel
theorem dX0_owedTo_0 : decode cX0_owedTo 0 = .ok (.iconst 0, 1) := by decide +kernel
theorem dX0_owedTo_1 : decode cX0_owedTo 1 = .ok (.istore_n 2, 1) := by decide +kernel
theorem dX0_owedTo_2 : decode cX0_owedTo 2 = .ok (.iconst 0, 1) := by decide +kernel
theorem dX0_owedTo_3 : decode cX0_owedTo 3 = .ok (.istore_n 3, 1) := by decide +kernel
theorem dX0_owedTo_4 : decode cX0_owedTo 4 = .ok (.iload_n 3, 1) := by decide +kernel
theorem dX0_owedTo_5 : decode cX0_owedTo 5 = .ok (.aload_n 0, 1) := by decide +kernel
theorem dX0_owedTo_6 : decode cX0_owedTo 6 = .ok (.getfield 30, 3) := by decide +kernel
theorem dX0_owedTo_9 : decode cX0_owedTo 9 = .ok (.if_icmp .ge 28, 3) := by decide +kernel
theorem dX0_owedTo_12 : decode cX0_owedTo 12 = .ok (.aload_n 0, 1) := by decide +kernel
theorem dX0_owedTo_13 : decode cX0_owedTo 13 = .ok (.getfield 15, 3) := by decide +kernel
theorem dX0_owedTo_16 : decode cX0_owedTo 16 = .ok (.iload_n 3, 1) := by decide +kernel
theorem dX0_owedTo_17 : decode cX0_owedTo 17 = .ok (.iaload, 1) := by decide +kernel
theorem dX0_owedTo_18 : decode cX0_owedTo 18 = .ok (.iload_n 1, 1) := by decide +kernel
theorem dX0_owedTo_19 : decode cX0_owedTo 19 = .ok (.if_icmp .ne 12, 3) := by decide +kernel
theorem dX0_owedTo_22 : decode cX0_owedTo 22 = .ok (.iload_n 2, 1) := by decide +kernel
theorem dX0_owedTo_23 : decode cX0_owedTo 23 = .ok (.aload_n 0, 1) := by decide +kernel
theorem dX0_owedTo_24 : decode cX0_owedTo 24 = .ok (.getfield 21, 3) := by decide +kernel
theorem dX0_owedTo_27 : decode cX0_owedTo 27 = .ok (.iload_n 3, 1) := by decide +kernel
theorem dX0_owedTo_28 : decode cX0_owedTo 28 = .ok (.iaload, 1) := by decide +kernel
theorem dX0_owedTo_29 : decode cX0_owedTo 29 = .ok (.iadd, 1) := by decide +kernel
theorem dX0_owedTo_30 : decode cX0_owedTo 30 = .ok (.istore_n 2, 1) := by decide +kernel
theorem dX0_owedTo_31 : decode cX0_owedTo 31 = .ok (.iinc 3 1, 3) := by decide +kernel
theorem dX0_owedTo_34 : decode cX0_owedTo 34 = .ok (.goto (-30), 3) := by decide +kernel
theorem dX0_owedTo_37 : decode cX0_owedTo 37 = .ok (.iload_n 2, 1) := by decide +kernel
theorem dX0_owedTo_38 : decode cX0_owedTo 38 = .ok (.ireturn, 1) := by decide +kernel
theorem dX0_debtOwedBy_0 : decode cX0_debtOwedBy 0 = .ok (.iload_n 2, 1) := by decide +kernel
theorem dX0_debtOwedBy_1 : decode cX0_debtOwedBy 1 = .ok (.istore_n 3, 1) := by decide +kernel
theorem dX0_debtOwedBy_2 : decode cX0_debtOwedBy 2 = .ok (.iconst 0, 1) := by decide +kernel
theorem dX0_debtOwedBy_3 : decode cX0_debtOwedBy 3 = .ok (.istore 4, 2) := by decide +kernel
theorem dX0_debtOwedBy_5 : decode cX0_debtOwedBy 5 = .ok (.iload 4, 2) := by decide +kernel
theorem dX0_debtOwedBy_7 : decode cX0_debtOwedBy 7 = .ok (.aload_n 0, 1) := by decide +kernel
theorem dX0_debtOwedBy_8 : decode cX0_debtOwedBy 8 = .ok (.getfield 30, 3) := by decide +kernel
theorem dX0_debtOwedBy_11 : decode cX0_debtOwedBy 11 = .ok (.if_icmp .ge 33, 3) := by decide +kernel
theorem dX0_debtOwedBy_14 : decode cX0_debtOwedBy 14 = .ok (.aload_n 0, 1) := by decide +kernel
theorem dX0_debtOwedBy_15 : decode cX0_debtOwedBy 15 = .ok (.getfield 9, 3) := by decide +kernel
theorem dX0_debtOwedBy_18 : decode cX0_debtOwedBy 18 = .ok (.iload 4, 2) := by decide +kernel
theorem dX0_debtOwedBy_20 : decode cX0_debtOwedBy 20 = .ok (.iaload, 1) := by decide +kernel
theorem dX0_debtOwedBy_21 : decode cX0_debtOwedBy 21 = .ok (.iload_n 1, 1) := by decide +kernel
theorem dX0_debtOwedBy_22 : decode cX0_debtOwedBy 22 = .ok (.if_icmp .eq 6, 3) := by decide +kernel
theorem dX0_debtOwedBy_25 : decode cX0_debtOwedBy 25 = .ok (.goto 13, 3) := by decide +kernel
theorem dX0_debtOwedBy_28 : decode cX0_debtOwedBy 28 = .ok (.iload_n 3, 1) := by decide +kernel
theorem dX0_debtOwedBy_29 : decode cX0_debtOwedBy 29 = .ok (.ifCond .ne 6, 3) := by decide +kernel
theorem dX0_debtOwedBy_32 : decode cX0_debtOwedBy 32 = .ok (.iload 4, 2) := by decide +kernel
theorem dX0_debtOwedBy_34 : decode cX0_debtOwedBy 34 = .ok (.ireturn, 1) := by decide +kernel
theorem dX0_debtOwedBy_35 : decode cX0_debtOwedBy 35 = .ok (.iinc 3 (-1), 3) := by decide +kernel
theorem dX0_debtOwedBy_38 : decode cX0_debtOwedBy 38 = .ok (.iinc 4 1, 3) := by decide +kernel
theorem dX0_debtOwedBy_41 : decode cX0_debtOwedBy 41 = .ok (.goto (-36), 3) := by decide +kernel
theorem dX0_debtOwedBy_44 : decode cX0_debtOwedBy 44 = .ok (.iconst (-1), 1) := by decide +kernel
theorem dX0_debtOwedBy_45 : decode cX0_debtOwedBy 45 = .ok (.ireturn, 1) := by decide +kernel
