theorem dX3_spiesWhoSee_39 : decode cX3_spiesWhoSee 39 = .ok (.iload 6, 2) := by decide +kernel
theorem dX3_spiesWhoSee_41 : decode cX3_spiesWhoSee 41 = .ok (.iload_n 1, 1) := by decide +kernel
theorem dX3_spiesWhoSee_42 : decode cX3_spiesWhoSee 42 = .ok (.if_icmp .eq 63, 3) := by decide +kernel
theorem dX3_spiesWhoSee_45 : decode cX3_spiesWhoSee 45 = .ok (.iload 6, 2) := by decide +kernel
theorem dX3_spiesWhoSee_47 : decode cX3_spiesWhoSee 47 = .ok (.iload_n 2, 1) := by decide +kernel
theorem dX3_spiesWhoSee_48 : decode cX3_spiesWhoSee 48 = .ok (.if_icmp .eq 57, 3) := by decide +kernel
theorem dX3_spiesWhoSee_51 : decode cX3_spiesWhoSee 51 = .ok (.aload 7, 2) := by decide +kernel
theorem dX3_spiesWhoSee_53 : decode cX3_spiesWhoSee 53 = .ok (.invokevirtual 162, 3) := by decide +kernel
theorem dX3_spiesWhoSee_56 : decode cX3_spiesWhoSee 56 = .ok (.ifCond .ne 6, 3) := by decide +kernel
theorem dX3_spiesWhoSee_59 : decode cX3_spiesWhoSee 59 = .ok (.goto 46, 3) := by decide +kernel
theorem dX3_spiesWhoSee_62 : decode cX3_spiesWhoSee 62 = .ok (.aload 7, 2) := by decide +kernel
theorem dX3_spiesWhoSee_64 : decode cX3_spiesWhoSee 64 = .ok (.aload_n 3, 1) := by decide +kernel
theorem dX3_spiesWhoSee_65 : decode cX3_spiesWhoSee 65 = .ok (.getfield 148, 3) := by decide +kernel
theorem dX3_spiesWhoSee_68 : decode cX3_spiesWhoSee 68 = .ok (.aload_n 3, 1) := by decide +kernel
theorem dX3_spiesWhoSee_69 : decode cX3_spiesWhoSee 69 = .ok (.getfield 151, 3) := by decide +kernel
theorem dX3_spiesWhoSee_72 : decode cX3_spiesWhoSee 72 = .ok (.invokevirtual 154, 3) := by decide +kernel
theorem dX3_spiesWhoSee_75 : decode cX3_spiesWhoSee 75 = .ok (.ifCond .ne 21, 3) := by decide +kernel
theorem dX3_spiesWhoSee_78 : decode cX3_spiesWhoSee 78 = .ok (.aload 7, 2) := by decide +kernel
theorem dX3_spiesWhoSee_80 : decode cX3_spiesWhoSee 80 = .ok (.aload 4, 2) := by decide +kernel
theorem dX3_spiesWhoSee_82 : decode cX3_spiesWhoSee 82 = .ok (.getfield 148, 3) := by decide +kernel
theorem dX3_spiesWhoSee_85 : decode cX3_spiesWhoSee 85 = .ok (.aload 4, 2) := by decide +kernel
theorem dX3_spiesWhoSee_87 : decode cX3_spiesWhoSee 87 = .ok (.getfield 151, 3) := by decide +kernel
theorem dX3_spiesWhoSee_90 : decode cX3_spiesWhoSee 90 = .ok (.invokevirtual 154, 3) := by decide +kernel
theorem dX3_spiesWhoSee_93 : decode cX3_spiesWhoSee 93 = .ok (.ifCond .eq 12, 3) := by decide +kernel
theorem dX3_spiesWhoSee_96 : decode cX3_spiesWhoSee 96 = .ok (.iload 5, 2) := by decide +kernel
theorem dX3_spiesWhoSee_98 : decode cX3_spiesWhoSee 98 = .ok (.iconst 1, 1) := by decide +kernel
theorem dX3_spiesWhoSee_99 : decode cX3_spiesWhoSee 99 = .ok (.iload 6, 2) := by decide +kernel
theorem dX3_spiesWhoSee_101 : decode cX3_spiesWhoSee 101 = .ok (.ishl, 1) := by decide +kernel
theorem dX3_spiesWhoSee_102 : decode cX3_spiesWhoSee 102 = .ok (.ior, 1) := by decide +kernel
theorem dX3_spiesWhoSee_103 : decode cX3_spiesWhoSee 103 = .ok (.istore 5, 2) := by decide +kernel
theorem dX3_spiesWhoSee_105 : decode cX3_spiesWhoSee 105 = .ok (.iinc 6 1, 3) := by decide +kernel
theorem dX3_spiesWhoSee_108 : decode cX3_spiesWhoSee 108 = .ok (.goto (-87), 3) := by decide +kernel
theorem dX3_spiesWhoSee_111 : decode cX3_spiesWhoSee 111 = .ok (.iload 5, 2) := by decide +kernel
theorem dX3_spiesWhoSee_113 : decode cX3_spiesWhoSee 113 = .ok (.ireturn, 1) := by decide +kernel
theorem dX3_spiesNearBench_0 : decode cX3_spiesNearBench 0 = .ok (.iconst 0, 1) := by decide +kernel
theorem dX3_spiesNearBench_1 : decode cX3_spiesNearBench 1 = .ok (.istore 4, 2) := by decide +kernel
theorem dX3_spiesNearBench_3 : decode cX3_spiesNearBench 3 = .ok (.iconst 0, 1) := by decide +kernel
theorem dX3_spiesNearBench_4 : decode cX3_spiesNearBench 4 = .ok (.istore 5, 2) := by decide +kernel
theorem dX3_spiesNearBench_6 : decode cX3_spiesNearBench 6 = .ok (.iload 5, 2) := by decide +kernel
theorem dX3_spiesNearBench_8 : decode cX3_spiesNearBench 8 = .ok (.aload_n 0, 1) := by decide +kernel
theorem dX3_spiesNearBench_9 : decode cX3_spiesNearBench 9 = .ok (.getfield 31, 3) := by decide +kernel
theorem dX3_spiesNearBench_12 : decode cX3_spiesNearBench 12 = .ok (.if_icmp .ge 46, 3) := by decide +kernel
theorem dX3_spiesNearBench_15 : decode cX3_spiesNearBench 15 = .ok (.iload 5, 2) := by decide +kernel
theorem dX3_spiesNearBench_17 : decode cX3_spiesNearBench 17 = .ok (.iload_n 1, 1) := by decide +kernel
theorem dX3_spiesNearBench_18 : decode cX3_spiesNearBench 18 = .ok (.if_icmp .eq 34, 3) := by decide +kernel
theorem dX3_spiesNearBench_21 : decode cX3_spiesNearBench 21 = .ok (.aload_n 0, 1) := by decide +kernel
theorem dX3_spiesNearBench_22 : decode cX3_spiesNearBench 22 = .ok (.getfield 11, 3) := by decide +kernel
theorem dX3_spiesNearBench_25 : decode cX3_spiesNearBench 25 = .ok (.iload 5, 2) := by decide +kernel
theorem dX3_spiesNearBench_27 : decode cX3_spiesNearBench 27 = .ok (.aaload, 1) := by decide +kernel
theorem dX3_spiesNearBench_28 : decode cX3_spiesNearBench 28 = .ok (.invokevirtual 162, 3) := by decide +kernel
theorem dX3_spiesNearBench_31 : decode cX3_spiesNearBench 31 = .ok (.ifCond .eq 21, 3) := by decide +kernel
theorem dX3_spiesNearBench_34 : decode cX3_spiesNearBench 34 = .ok (.aload_n 0, 1) := by decide +kernel
theorem dX3_spiesNearBench_35 : decode cX3_spiesNearBench 35 = .ok (.getfield 11, 3) := by decide +kernel
theorem dX3_spiesNearBench_38 : decode cX3_spiesNearBench 38 = .ok (.iload 5, 2) := by decide +kernel
theorem dX3_spiesNearBench_40 : decode cX3_spiesNearBench 40 = .ok (.aaload, 1) := by decide +kernel
theorem dX3_spiesNearBench_41 : decode cX3_spiesNearBench 41 = .ok (.iload_n 2, 1) := by decide +kernel
theorem dX3_spiesNearBench_42 : decode cX3_spiesNearBench 42 = .ok (.iload_n 3, 1) := by decide +kernel
theorem dX3_spiesNearBench_43 : decode cX3_spiesNearBench 43 = .ok (.invokevirtual 154, 3) := by decide +kernel
theorem dX3_spiesNearBench_46 : decode cX3_spiesNearBench 46 = .ok (.ifCond .eq 6, 3) := by decide +kernel
theorem dX3_spiesNearBench_49 : decode cX3_spiesNearBench 49 = .ok (.iinc 4 1, 3) := by decide +kernel
theorem dX3_spiesNearBench_52 : decode cX3_spiesNearBench 52 = .ok (.iinc 5 1, 3) := by decide +kernel
theorem dX3_spiesNearBench_55 : decode cX3_spiesNearBench 55 = .ok (.goto (-49), 3) := by decide +kernel
theorem dX3_spiesNearBench_58 : decode cX3_spiesNearBench 58 = .ok (.iload 4, 2) := by decide +kernel
theorem dX3_spiesNearBench_60 : decode cX3_spiesNearBench 60 = .ok (.ireturn, 1) := by decide +kernel
theorem dX3_letSpiesSee_0 : decode cX3_letSpiesSee 0 = .ok (.aload_n 0, 1) := by decide +kernel
theorem dX3_letSpiesSee_1 : decode cX3_letSpiesSee 1 = .ok (.iload_n 1, 1) := by decide +kernel
theorem dX3_letSpiesSee_2 : decode cX3_letSpiesSee 2 = .ok (.iload_n 2, 1) := by decide +kernel
theorem dX3_letSpiesSee_3 : decode cX3_letSpiesSee 3 = .ok (.invokevirtual 165, 3) := by decide +kernel
theorem dX3_letSpiesSee_6 : decode cX3_letSpiesSee 6 = .ok (.istore_n 3, 1) := by decide +kernel
theorem dX3_letSpiesSee_7 : decode cX3_letSpiesSee 7 = .ok (.aload_n 0, 1) := by decide +kernel
theorem dX3_letSpiesSee_8 : decode cX3_letSpiesSee 8 = .ok (.getfield 11, 3) := by decide +kernel
theorem dX3_letSpiesSee_11 : decode cX3_letSpiesSee 11 = .ok (.iload_n 1, 1) := by decide +kernel
theorem dX3_letSpiesSee_12 : decode cX3_letSpiesSee 12 = .ok (.aaload, 1) := by decide +kernel
theorem dX3_letSpiesSee_13 : decode cX3_letSpiesSee 13 = .ok (.iload_n 3, 1) := by decide +kernel
theorem dX3_letSpiesSee_14 : decode cX3_letSpiesSee 14 = .ok (.invokevirtual 168, 3) := by decide +kernel
theorem dX3_letSpiesSee_17 : decode cX3_letSpiesSee 17 = .ok (.aload_n 0, 1) := by decide +kernel
theorem dX3_letSpiesSee_18 : decode cX3_letSpiesSee 18 = .ok (.getfield 11, 3) := by decide +kernel
theorem dX3_letSpiesSee_21 : decode cX3_letSpiesSee 21 = .ok (.iload_n 2, 1) := by decide +kernel
theorem dX3_letSpiesSee_22 : decode cX3_letSpiesSee 22 = .ok (.aaload, 1) := by decide +kernel
theorem dX3_letSpiesSee_23 : decode cX3_letSpiesSee 23 = .ok (.iload_n 3, 1) := by decide +kernel
theorem dX3_letSpiesSee_24 : decode cX3_letSpiesSee 24 = .ok (.invokevirtual 168, 3) := by decide +kernel
theorem dX3_letSpiesSee_27 : decode cX3_letSpiesSee 27 = .ok (.iload_n 3, 1) := by decide +kernel
theorem dX3_letSpiesSee_28 : decode cX3_letSpiesSee 28 = .ok (.invokestatic 171, 3) := by decide +kernel
theorem dX3_letSpiesSee_31 : decode cX3_letSpiesSee 31 = .ok (.istore 4, 2) := by decide +kernel
theorem dX3_letSpiesSee_33 : decode cX3_letSpiesSee 33 = .ok (.aload_n 0, 1) := by decide +kernel
theorem dX3_letSpiesSee_34 : decode cX3_letSpiesSee 34 = .ok (.getfield 24, 3) := by decide +kernel
theorem dX3_letSpiesSee_37 : decode cX3_letSpiesSee 37 = .ok (.bipush 7, 2) := by decide +kernel
theorem dX3_letSpiesSee_39 : decode cX3_letSpiesSee 39 = .ok (.dup2, 1) := by decide +kernel
theorem dX3_letSpiesSee_40 : decode cX3_letSpiesSee 40 = .ok (.iaload, 1) := by decide +kernel
theorem dX3_letSpiesSee_41 : decode cX3_letSpiesSee 41 = .ok (.iload 4, 2) := by decide +kernel
theorem dX3_letSpiesSee_43 : decode cX3_letSpiesSee 43 = .ok (.iadd, 1) := by decide +kernel
theorem dX3_letSpiesSee_44 : decode cX3_letSpiesSee 44 = .ok (.iastore, 1) := by decide +kernel
theorem dX3_letSpiesSee_45 : decode cX3_letSpiesSee 45 = .ok (.iload 4, 2) := by decide +kernel
theorem dX3_letSpiesSee_47 : decode cX3_letSpiesSee 47 = .ok (.ireturn, 1) := by decide +kernel
theorem dX3_reasonAgainstMaking_0 : decode cX3_reasonAgainstMaking 0 = .ok (.aload_n 0, 1) := by decide +kernel
theorem dX3_reasonAgainstMaking_1 : decode cX3_reasonAgainstMaking 1 = .ok (.getfield 11, 3) := by decide +kernel
theorem dX3_reasonAgainstMaking_4 : decode cX3_reasonAgainstMaking 4 = .ok (.iload_n 1, 1) := by decide +kernel
theorem dX3_reasonAgainstMaking_5 : decode cX3_reasonAgainstMaking 5 = .ok (.aaload, 1) := by decide +kernel
theorem dX3_reasonAgainstMaking_6 : decode cX3_reasonAgainstMaking 6 = .ok (.astore 4, 2) := by decide +kernel
theorem dX3_reasonAgainstMaking_8 : decode cX3_reasonAgainstMaking 8 = .ok (.iload_n 3, 1) := by decide +kernel
theorem dX3_reasonAgainstMaking_9 : decode cX3_reasonAgainstMaking 9 = .ok (.aload 4, 2) := by decide +kernel
theorem dX3_reasonAgainstMaking_11 : decode cX3_reasonAgainstMaking 11 = .ok (.iload_n 2, 1) := by decide +kernel
theorem dX3_reasonAgainstMaking_12 : decode cX3_reasonAgainstMaking 12 = .ok (.invokevirtual 176, 3) := by decide +kernel
theorem dX3_reasonAgainstMaking_15 : decode cX3_reasonAgainstMaking 15 = .ok (.imul, 1) := by decide +kernel
theorem dX3_reasonAgainstMaking_16 : decode cX3_reasonAgainstMaking 16 = .ok (.aload 4, 2) := by decide +kernel
theorem dX3_reasonAgainstMaking_18 : decode cX3_reasonAgainstMaking 18 = .ok (.getfield 179, 3) := by decide +kernel
theorem dX3_reasonAgainstMaking_21 : decode cX3_reasonAgainstMaking 21 = .ok (.if_icmp .le 5, 3) := by decide +kernel
theorem dX3_reasonAgainstMaking_24 : decode cX3_reasonAgainstMaking 24 = .ok (.iconst 2, 1) := by decide +kernel
theorem dX3_reasonAgainstMaking_25 : decode cX3_reasonAgainstMaking 25 = .ok (.ireturn, 1) := by decide +kernel
theorem dX3_reasonAgainstMaking_26 : decode cX3_reasonAgainstMaking 26 = .ok (.aload 4, 2) := by decide +kernel
theorem dX3_reasonAgainstMaking_28 : decode cX3_reasonAgainstMaking 28 = .ok (.iload_n 2, 1) := by decide +kernel
theorem dX3_reasonAgainstMaking_29 : decode cX3_reasonAgainstMaking 29 = .ok (.invokevirtual 135, 3) := by decide +kernel
theorem dX3_reasonAgainstMaking_32 : decode cX3_reasonAgainstMaking 32 = .ok (.iload_n 3, 1) := by decide +kernel
theorem dX3_reasonAgainstMaking_33 : decode cX3_reasonAgainstMaking 33 = .ok (.invokevirtual 182, 3) := by decide +kernel
theorem dX3_reasonAgainstMaking_36 : decode cX3_reasonAgainstMaking 36 = .ok (.ifCond .eq 7, 3) := by decide +kernel
theorem dX3_reasonAgainstMaking_39 : decode cX3_reasonAgainstMaking 39 = .ok (.iconst 0, 1) := by decide +kernel
theorem dX3_reasonAgainstMaking_40 : decode cX3_reasonAgainstMaking 40 = .ok (.goto 4, 3) := by decide +kernel
theorem dX3_reasonAgainstMaking_43 : decode cX3_reasonAgainstMaking 43 = .ok (.iconst 3, 1) := by decide +kernel
theorem dX3_reasonAgainstMaking_44 : decode cX3_reasonAgainstMaking 44 = .ok (.ireturn, 1) := by decide +kernel
theorem dX3_reasonAgainstSwapping_0 : decode cX3_reasonAgainstSwapping 0 = .ok (.aload_n 0, 1) := by decide +kernel
theorem dX3_reasonAgainstSwapping_1 : decode cX3_reasonAgainstSwapping 1 = .ok (.getfield 11, 3) := by decide +kernel
theorem dX3_reasonAgainstSwapping_4 : decode cX3_reasonAgainstSwapping 4 = .ok (.iload_n 1, 1) := by decide +kernel
theorem dX3_reasonAgainstSwapping_5 : decode cX3_reasonAgainstSwapping 5 = .ok (.aaload, 1) := by decide +kernel
theorem dX3_reasonAgainstSwapping_6 : decode cX3_reasonAgainstSwapping 6 = .ok (.astore 5, 2) := by decide +kernel
theorem dX3_reasonAgainstSwapping_8 : decode cX3_reasonAgainstSwapping 8 = .ok (.aload_n 0, 1) := by decide +kernel
theorem dX3_reasonAgainstSwapping_9 : decode cX3_reasonAgainstSwapping 9 = .ok (.getfield 11, 3) := by decide +kernel
theorem dX3_reasonAgainstSwapping_12 : decode cX3_reasonAgainstSwapping 12 = .ok (.iload_n 2, 1) := by decide +kernel
theorem dX3_reasonAgainstSwapping_13 : decode cX3_reasonAgainstSwapping 13 = .ok (.aaload, 1) := by decide +kernel
theorem dX3_reasonAgainstSwapping_14 : decode cX3_reasonAgainstSwapping 14 = .ok (.astore 6, 2) := by decide +kernel
theorem dX3_reasonAgainstSwapping_16 : decode cX3_reasonAgainstSwapping 16 = .ok (.iload_n 1, 1) := by decide +kernel
theorem dX3_reasonAgainstSwapping_17 : decode cX3_reasonAgainstSwapping 17 = .ok (.iload_n 2, 1) := by decide +kernel
theorem dX3_reasonAgainstSwapping_18 : decode cX3_reasonAgainstSwapping 18 = .ok (.if_icmp .ne 5, 3) := by decide +kernel
theorem dX3_reasonAgainstSwapping_21 : decode cX3_reasonAgainstSwapping 21 = .ok (.iconst 5, 1) := by decide +kernel
theorem dX3_reasonAgainstSwapping_22 : decode cX3_reasonAgainstSwapping 22 = .ok (.ireturn, 1) := by decide +kernel
theorem dX3_reasonAgainstSwapping_23 : decode cX3_reasonAgainstSwapping 23 = .ok (.aload 5, 2) := by decide +kernel
theorem dX3_reasonAgainstSwapping_25 : decode cX3_reasonAgainstSwapping 25 = .ok (.invokevirtual 142, 3) := by decide +kernel
theorem dX3_reasonAgainstSwapping_28 : decode cX3_reasonAgainstSwapping 28 = .ok (.ifCond .ne 11, 3) := by decide +kernel
theorem dX3_reasonAgainstSwapping_31 : decode cX3_reasonAgainstSwapping 31 = .ok (.aload 6, 2) := by decide +kernel
theorem dX3_reasonAgainstSwapping_33 : decode cX3_reasonAgainstSwapping 33 = .ok (.invokevirtual 142, 3) := by decide +kernel
theorem dX3_reasonAgainstSwapping_36 : decode cX3_reasonAgainstSwapping 36 = .ok (.ifCond .eq 5, 3) := by decide +kernel
theorem dX3_reasonAgainstSwapping_39 : decode cX3_reasonAgainstSwapping 39 = .ok (.iconst 1, 1) := by decide +kernel
theorem dX3_reasonAgainstSwapping_40 : decode cX3_reasonAgainstSwapping 40 = .ok (.ireturn, 1) := by decide +kernel
theorem dX3_reasonAgainstSwapping_41 : decode cX3_reasonAgainstSwapping 41 = .ok (.aload 5, 2) := by decide +kernel
theorem dX3_reasonAgainstSwapping_43 : decode cX3_reasonAgainstSwapping 43 = .ok (.getfield 186, 3) := by decide +kernel
theorem dX3_reasonAgainstSwapping_46 : decode cX3_reasonAgainstSwapping 46 = .ok (.getfield 139, 3) := by decide +kernel
theorem dX3_reasonAgainstSwapping_49 : decode cX3_reasonAgainstSwapping 49 = .ok (.iload_n 3, 1) := by decide +kernel
theorem dX3_reasonAgainstSwapping_50 : decode cX3_reasonAgainstSwapping 50 = .ok (.if_icmp .lt 16, 3) := by decide +kernel
theorem dX3_reasonAgainstSwapping_53 : decode cX3_reasonAgainstSwapping 53 = .ok (.aload 6, 2) := by decide +kernel
theorem dX3_reasonAgainstSwapping_55 : decode cX3_reasonAgainstSwapping 55 = .ok (.getfield 190, 3) := by decide +kernel
theorem dX3_reasonAgainstSwapping_58 : decode cX3_reasonAgainstSwapping 58 = .ok (.getfield 139, 3) := by decide +kernel
theorem dX3_reasonAgainstSwapping_61 : decode cX3_reasonAgainstSwapping 61 = .ok (.iload 4, 2) := by decide +kernel
theorem dX3_reasonAgainstSwapping_63 : decode cX3_reasonAgainstSwapping 63 = .ok (.if_icmp .ge 5, 3) := by decide +kernel
theorem dX3_reasonAgainstSwapping_66 : decode cX3_reasonAgainstSwapping 66 = .ok (.iconst 4, 1) := by decide +kernel
theorem dX3_reasonAgainstSwapping_67 : decode cX3_reasonAgainstSwapping 67 = .ok (.ireturn, 1) := by decide +kernel
theorem dX3_reasonAgainstSwapping_68 : decode cX3_reasonAgainstSwapping 68 = .ok (.aload 6, 2) := by decide +kernel
theorem dX3_reasonAgainstSwapping_70 : decode cX3_reasonAgainstSwapping 70 = .ok (.getfield 186, 3) := by decide +kernel
theorem dX3_reasonAgainstSwapping_73 : decode cX3_reasonAgainstSwapping 73 = .ok (.iload_n 3, 1) := by decide +kernel
theorem dX3_reasonAgainstSwapping_74 : decode cX3_reasonAgainstSwapping 74 = .ok (.invokevirtual 182, 3) := by decide +kernel
theorem dX3_reasonAgainstSwapping_77 : decode cX3_reasonAgainstSwapping 77 = .ok (.ifCond .eq 20, 3) := by decide +kernel
theorem dX3_reasonAgainstSwapping_80 : decode cX3_reasonAgainstSwapping 80 = .ok (.aload 5, 2) := by decide +kernel
theorem dX3_reasonAgainstSwapping_82 : decode cX3_reasonAgainstSwapping 82 = .ok (.getfield 190, 3) := by decide +kernel
theorem dX3_reasonAgainstSwapping_85 : decode cX3_reasonAgainstSwapping 85 = .ok (.iload 4, 2) := by decide +kernel
theorem dX3_reasonAgainstSwapping_87 : decode cX3_reasonAgainstSwapping 87 = .ok (.invokevirtual 182, 3) := by decide +kernel
theorem dX3_reasonAgainstSwapping_90 : decode cX3_reasonAgainstSwapping 90 = .ok (.ifCond .eq 7, 3) := by decide +kernel
theorem dX3_reasonAgainstSwapping_93 : decode cX3_reasonAgainstSwapping 93 = .ok (.iconst 0, 1) := by decide +kernel
theorem dX3_reasonAgainstSwapping_94 : decode cX3_reasonAgainstSwapping 94 = .ok (.goto 4, 3) := by decide +kernel
theorem dX3_reasonAgainstSwapping_97 : decode cX3_reasonAgainstSwapping 97 = .ok (.iconst 3, 1) := by decide +kernel
theorem dX3_reasonAgainstSwapping_98 : decode cX3_reasonAgainstSwapping 98 = .ok (.ireturn, 1) := by decide +kernel
theorem dX3_reasonAgainstLending_0 : decode cX3_reasonAgainstLending 0 = .ok (.iload_n 1, 1) := by decide +kernel
theorem dX3_reasonAgainstLending_1 : decode cX3_reasonAgainstLending 1 = .ok (.iload_n 2, 1) := by decide +kernel
theorem dX3_reasonAgainstLending_2 : decode cX3_reasonAgainstLending 2 = .ok (.if_icmp .ne 5, 3) := by decide +kernel
theorem dX3_reasonAgainstLending_5 : decode cX3_reasonAgainstLending 5 = .ok (.iconst 5, 1) := by decide +kernel
theorem dX3_reasonAgainstLending_6 : decode cX3_reasonAgainstLending 6 = .ok (.ireturn, 1) := by decide +kernel
theorem dX3_reasonAgainstLending_7 : decode cX3_reasonAgainstLending 7 = .ok (.aload_n 0, 1) := by decide +kernel
theorem dX3_reasonAgainstLending_8 : decode cX3_reasonAgainstLending 8 = .ok (.iload_n 1, 1) := by decide +kernel
theorem dX3_reasonAgainstLending_9 : decode cX3_reasonAgainstLending 9 = .ok (.iload_n 2, 1) := by decide +kernel
theorem dX3_reasonAgainstLending_10 : decode cX3_reasonAgainstLending 10 = .ok (.iload_n 3, 1) := by decide +kernel
theorem dX3_reasonAgainstLending_11 : decode cX3_reasonAgainstLending 11 = .ok (.iload 4, 2) := by decide +kernel
theorem dX3_reasonAgainstLending_13 : decode cX3_reasonAgainstLending 13 = .ok (.invokevirtual 193, 3) := by decide +kernel
theorem dX3_reasonAgainstLending_16 : decode cX3_reasonAgainstLending 16 = .ok (.istore 5, 2) := by decide +kernel
theorem dX3_reasonAgainstLending_18 : decode cX3_reasonAgainstLending 18 = .ok (.iload 5, 2) := by decide +kernel
theorem dX3_reasonAgainstLending_20 : decode cX3_reasonAgainstLending 20 = .ok (.ifCond .eq 6, 3) := by decide +kernel
theorem dX3_reasonAgainstLending_23 : decode cX3_reasonAgainstLending 23 = .ok (.iload 5, 2) := by decide +kernel
theorem dX3_reasonAgainstLending_25 : decode cX3_reasonAgainstLending 25 = .ok (.ireturn, 1) := by decide +kernel
theorem dX3_reasonAgainstLending_26 : decode cX3_reasonAgainstLending 26 = .ok (.aload_n 0, 1) := by decide +kernel
theorem dX3_reasonAgainstLending_27 : decode cX3_reasonAgainstLending 27 = .ok (.getfield 20, 3) := by decide +kernel
theorem dX3_reasonAgainstLending_30 : decode cX3_reasonAgainstLending 30 = .ok (.iload_n 2, 1) := by decide +kernel
theorem dX3_reasonAgainstLending_31 : decode cX3_reasonAgainstLending 31 = .ok (.iload_n 1, 1) := by decide +kernel
theorem dX3_reasonAgainstLending_32 : decode cX3_reasonAgainstLending 32 = .ok (.iload_n 3, 1) := by decide +kernel
theorem dX3_reasonAgainstLending_33 : decode cX3_reasonAgainstLending 33 = .ok (.invokestatic 197, 3) := by decide +kernel
theorem dX3_reasonAgainstLending_36 : decode cX3_reasonAgainstLending 36 = .ok (.iload 4, 2) := by decide +kernel
theorem dX3_reasonAgainstLending_38 : decode cX3_reasonAgainstLending 38 = .ok (.invokevirtual 200, 3) := by decide +kernel
theorem dX3_reasonAgainstLending_41 : decode cX3_reasonAgainstLending 41 = .ok (.ifCond .eq 7, 3) := by decide +kernel
theorem dX3_reasonAgainstLending_44 : decode cX3_reasonAgainstLending 44 = .ok (.iconst 0, 1) := by decide +kernel
theorem dX3_reasonAgainstLending_45 : decode cX3_reasonAgainstLending 45 = .ok (.goto 5, 3) := by decide +kernel
theorem dX3_reasonAgainstLending_48 : decode cX3_reasonAgainstLending 48 = .ok (.bipush 9, 2) := by decide +kernel
theorem dX3_reasonAgainstLending_50 : decode cX3_reasonAgainstLending 50 = .ok (.ireturn, 1) := by decide +kernel
theorem dX3_reasonAgainstPaying_0 : decode cX3_reasonAgainstPaying 0 = .ok (.iload_n 1, 1) := by decide +kernel
theorem dX3_reasonAgainstPaying_1 : decode cX3_reasonAgainstPaying 1 = .ok (.iload_n 2, 1) := by decide +kernel
theorem dX3_reasonAgainstPaying_2 : decode cX3_reasonAgainstPaying 2 = .ok (.if_icmp .ne 5, 3) := by decide +kernel
theorem dX3_reasonAgainstPaying_5 : decode cX3_reasonAgainstPaying 5 = .ok (.iconst 5, 1) := by decide +kernel
theorem dX3_reasonAgainstPaying_6 : decode cX3_reasonAgainstPaying 6 = .ok (.ireturn, 1) := by decide +kernel
theorem dX3_reasonAgainstPaying_7 : decode cX3_reasonAgainstPaying 7 = .ok (.aload_n 0, 1) := by decide +kernel
theorem dX3_reasonAgainstPaying_8 : decode cX3_reasonAgainstPaying 8 = .ok (.getfield 20, 3) := by decide +kernel
theorem dX3_reasonAgainstPaying_11 : decode cX3_reasonAgainstPaying 11 = .ok (.iload_n 1, 1) := by decide +kernel
theorem dX3_reasonAgainstPaying_12 : decode cX3_reasonAgainstPaying 12 = .ok (.iload_n 2, 1) := by decide +kernel
theorem dX3_reasonAgainstPaying_13 : decode cX3_reasonAgainstPaying 13 = .ok (.iload_n 3, 1) := by decide +kernel
theorem dX3_reasonAgainstPaying_14 : decode cX3_reasonAgainstPaying 14 = .ok (.invokevirtual 204, 3) := by decide +kernel
theorem dX3_reasonAgainstPaying_17 : decode cX3_reasonAgainstPaying 17 = .ok (.iload 4, 2) := by decide +kernel
theorem dX3_reasonAgainstPaying_19 : decode cX3_reasonAgainstPaying 19 = .ok (.if_icmp .ge 6, 3) := by decide +kernel
theorem dX3_reasonAgainstPaying_22 : decode cX3_reasonAgainstPaying 22 = .ok (.bipush 6, 2) := by decide +kernel
theorem dX3_reasonAgainstPaying_24 : decode cX3_reasonAgainstPaying 24 = .ok (.ireturn, 1) := by decide +kernel
theorem dX3_reasonAgainstPaying_25 : decode cX3_reasonAgainstPaying 25 = .ok (.aload_n 0, 1) := by decide +kernel
theorem dX3_reasonAgainstPaying_26 : decode cX3_reasonAgainstPaying 26 = .ok (.iload_n 1, 1) := by decide +kernel
theorem dX3_reasonAgainstPaying_27 : decode cX3_reasonAgainstPaying 27 = .ok (.iload_n 2, 1) := by decide +kernel
theorem dX3_reasonAgainstPaying_28 : decode cX3_reasonAgainstPaying 28 = .ok (.iload_n 3, 1) := by decide +kernel
theorem dX3_reasonAgainstPaying_29 : decode cX3_reasonAgainstPaying 29 = .ok (.iload 4, 2) := by decide +kernel
theorem dX3_reasonAgainstPaying_31 : decode cX3_reasonAgainstPaying 31 = .ok (.invokevirtual 193, 3) := by decide +kernel
theorem dX3_reasonAgainstPaying_34 : decode cX3_reasonAgainstPaying 34 = .ok (.ireturn, 1) := by decide +kernel
theorem dX3_reasonAgainstGiving_0 : decode cX3_reasonAgainstGiving 0 = .ok (.aload_n 0, 1) := by decide +kernel
theorem dX3_reasonAgainstGiving_1 : decode cX3_reasonAgainstGiving 1 = .ok (.getfield 11, 3) := by decide +kernel
theorem dX3_reasonAgainstGiving_4 : decode cX3_reasonAgainstGiving 4 = .ok (.iload_n 1, 1) := by decide +kernel
theorem dX3_reasonAgainstGiving_5 : decode cX3_reasonAgainstGiving 5 = .ok (.aaload, 1) := by decide +kernel
theorem dX3_reasonAgainstGiving_6 : decode cX3_reasonAgainstGiving 6 = .ok (.astore 5, 2) := by decide +kernel
theorem dX3_reasonAgainstGiving_8 : decode cX3_reasonAgainstGiving 8 = .ok (.aload_n 0, 1) := by decide +kernel
theorem dX3_reasonAgainstGiving_9 : decode cX3_reasonAgainstGiving 9 = .ok (.getfield 11, 3) := by decide +kernel
theorem dX3_reasonAgainstGiving_12 : decode cX3_reasonAgainstGiving 12 = .ok (.iload_n 2, 1) := by decide +kernel
theorem dX3_reasonAgainstGiving_13 : decode cX3_reasonAgainstGiving 13 = .ok (.aaload, 1) := by decide +kernel
theorem dX3_reasonAgainstGiving_14 : decode cX3_reasonAgainstGiving 14 = .ok (.astore 6, 2) := by decide +kernel
theorem dX3_reasonAgainstGiving_16 : decode cX3_reasonAgainstGiving 16 = .ok (.aload 5, 2) := by decide +kernel
theorem dX3_reasonAgainstGiving_18 : decode cX3_reasonAgainstGiving 18 = .ok (.invokevirtual 142, 3) := by decide +kernel
theorem dX3_reasonAgainstGiving_21 : decode cX3_reasonAgainstGiving 21 = .ok (.ifCond .ne 11, 3) := by decide +kernel
theorem dX3_reasonAgainstGiving_24 : decode cX3_reasonAgainstGiving 24 = .ok (.aload 6, 2) := by decide +kernel
theorem dX3_reasonAgainstGiving_26 : decode cX3_reasonAgainstGiving 26 = .ok (.invokevirtual 142, 3) := by decide +kernel
theorem dX3_reasonAgainstGiving_29 : decode cX3_reasonAgainstGiving 29 = .ok (.ifCond .eq 5, 3) := by decide +kernel
theorem dX3_reasonAgainstGiving_32 : decode cX3_reasonAgainstGiving 32 = .ok (.iconst 1, 1) := by decide +kernel
theorem dX3_reasonAgainstGiving_33 : decode cX3_reasonAgainstGiving 33 = .ok (.ireturn, 1) := by decide +kernel
theorem dX3_reasonAgainstGiving_34 : decode cX3_reasonAgainstGiving 34 = .ok (.aload 5, 2) := by decide +kernel
theorem dX3_reasonAgainstGiving_36 : decode cX3_reasonAgainstGiving 36 = .ok (.iload_n 3, 1) := by decide +kernel
theorem dX3_reasonAgainstGiving_37 : decode cX3_reasonAgainstGiving 37 = .ok (.invokevirtual 135, 3) := by decide +kernel
theorem dX3_reasonAgainstGiving_40 : decode cX3_reasonAgainstGiving 40 = .ok (.getfield 139, 3) := by decide +kernel
theorem dX3_reasonAgainstGiving_43 : decode cX3_reasonAgainstGiving 43 = .ok (.iload 4, 2) := by decide +kernel
theorem dX3_reasonAgainstGiving_45 : decode cX3_reasonAgainstGiving 45 = .ok (.if_icmp .ge 5, 3) := by decide +kernel
theorem dX3_reasonAgainstGiving_48 : decode cX3_reasonAgainstGiving 48 = .ok (.iconst 4, 1) := by decide +kernel
theorem dX3_reasonAgainstGiving_49 : decode cX3_reasonAgainstGiving 49 = .ok (.ireturn, 1) := by decide +kernel
theorem dX3_reasonAgainstGiving_50 : decode cX3_reasonAgainstGiving 50 = .ok (.aload 6, 2) := by decide +kernel
theorem dX3_reasonAgainstGiving_52 : decode cX3_reasonAgainstGiving 52 = .ok (.iload_n 3, 1) := by decide +kernel
theorem dX3_reasonAgainstGiving_53 : decode cX3_reasonAgainstGiving 53 = .ok (.invokevirtual 135, 3) := by decide +kernel
theorem dX3_reasonAgainstGiving_56 : decode cX3_reasonAgainstGiving 56 = .ok (.iload 4, 2) := by decide +kernel
theorem dX3_reasonAgainstGiving_58 : decode cX3_reasonAgainstGiving 58 = .ok (.invokevirtual 182, 3) := by decide +kernel
theorem dX3_reasonAgainstGiving_61 : decode cX3_reasonAgainstGiving 61 = .ok (.ifCond .eq 7, 3) := by decide +kernel
theorem dX3_reasonAgainstGiving_64 : decode cX3_reasonAgainstGiving 64 = .ok (.iconst 0, 1) := by decide +kernel
theorem dX3_reasonAgainstGiving_65 : decode cX3_reasonAgainstGiving 65 = .ok (.goto 4, 3) := by decide +kernel
theorem dX3_reasonAgainstGiving_68 : decode cX3_reasonAgainstGiving 68 = .ok (.iconst 3, 1) := by decide +kernel
theorem dX3_reasonAgainstGiving_69 : decode cX3_reasonAgainstGiving 69 = .ok (.ireturn, 1) := by decide +kernel
theorem dX3_reasonAgainstMoving_0 : decode cX3_reasonAgainstMoving 0 = .ok (.aload_n 0, 1) := by decide +kernel
theorem dX3_reasonAgainstMoving_1 : decode cX3_reasonAgainstMoving 1 = .ok (.getfield 11, 3) := by decide +kernel
theorem dX3_reasonAgainstMoving_4 : decode cX3_reasonAgainstMoving 4 = .ok (.iload_n 1, 1) := by decide +kernel
theorem dX3_reasonAgainstMoving_5 : decode cX3_reasonAgainstMoving 5 = .ok (.aaload, 1) := by decide +kernel
theorem dX3_reasonAgainstMoving_6 : decode cX3_reasonAgainstMoving 6 = .ok (.invokevirtual 142, 3) := by decide +kernel
theorem dX3_reasonAgainstMoving_9 : decode cX3_reasonAgainstMoving 9 = .ok (.ifCond .eq 5, 3) := by decide +kernel
theorem dX3_reasonAgainstMoving_12 : decode cX3_reasonAgainstMoving 12 = .ok (.iconst 1, 1) := by decide +kernel
theorem dX3_reasonAgainstMoving_13 : decode cX3_reasonAgainstMoving 13 = .ok (.ireturn, 1) := by decide +kernel
theorem dX3_reasonAgainstMoving_14 : decode cX3_reasonAgainstMoving 14 = .ok (.aload_n 0, 1) := by decide +kernel
theorem dX3_reasonAgainstMoving_15 : decode cX3_reasonAgainstMoving 15 = .ok (.iload_n 2, 1) := by decide +kernel
theorem dX3_reasonAgainstMoving_16 : decode cX3_reasonAgainstMoving 16 = .ok (.iload_n 3, 1) := by decide +kernel
theorem dX3_reasonAgainstMoving_17 : decode cX3_reasonAgainstMoving 17 = .ok (.invokevirtual 109, 3) := by decide +kernel
theorem dX3_reasonAgainstMoving_20 : decode cX3_reasonAgainstMoving 20 = .ok (.iconst (-1), 1) := by decide +kernel
theorem dX3_reasonAgainstMoving_21 : decode cX3_reasonAgainstMoving 21 = .ok (.if_icmp .ne 7, 3) := by decide +kernel
theorem dX3_reasonAgainstMoving_24 : decode cX3_reasonAgainstMoving 24 = .ok (.iconst 0, 1) := by decide +kernel
theorem dX3_reasonAgainstMoving_25 : decode cX3_reasonAgainstMoving 25 = .ok (.goto 5, 3) := by decide +kernel
theorem dX3_reasonAgainstMoving_28 : decode cX3_reasonAgainstMoving 28 = .ok (.bipush 7, 2) := by decide +kernel
theorem dX3_reasonAgainstMoving_30 : decode cX3_reasonAgainstMoving 30 = .ok (.ireturn, 1) := by decide +kernel
theorem dX3_makePieces_0 : decode cX3_makePieces 0 = .ok (.aload_n 0, 1) := by decide +kernel
theorem dX3_makePieces_1 : decode cX3_makePieces 1 = .ok (.getfield 11, 3) := by decide +kernel
theorem dX3_makePieces_4 : decode cX3_makePieces 4 = .ok (.iload_n 1, 1) := by decide +kernel
theorem dX3_makePieces_5 : decode cX3_makePieces 5 = .ok (.aaload, 1) := by decide +kernel
theorem dX3_makePieces_6 : decode cX3_makePieces 6 = .ok (.astore 4, 2) := by decide +kernel
theorem dX3_makePieces_8 : decode cX3_makePieces 8 = .ok (.aload 4, 2) := by decide +kernel
theorem dX3_makePieces_10 : decode cX3_makePieces 10 = .ok (.dup, 1) := by decide +kernel
theorem dX3_makePieces_11 : decode cX3_makePieces 11 = .ok (.getfield 179, 3) := by decide +kernel
theorem dX3_makePieces_14 : decode cX3_makePieces 14 = .ok (.iload_n 3, 1) := by decide +kernel
theorem dX3_makePieces_15 : decode cX3_makePieces 15 = .ok (.aload 4, 2) := by decide +kernel
theorem dX3_makePieces_17 : decode cX3_makePieces 17 = .ok (.iload_n 2, 1) := by decide +kernel
theorem dX3_makePieces_18 : decode cX3_makePieces 18 = .ok (.invokevirtual 176, 3) := by decide +kernel
theorem dX3_makePieces_21 : decode cX3_makePieces 21 = .ok (.imul, 1) := by decide +kernel
theorem dX3_makePieces_22 : decode cX3_makePieces 22 = .ok (.isub, 1) := by decide +kernel
theorem dX3_makePieces_23 : decode cX3_makePieces 23 = .ok (.putfield 179, 3) := by decide +kernel
theorem dX3_makePieces_26 : decode cX3_makePieces 26 = .ok (.aload 4, 2) := by decide +kernel
theorem dX3_makePieces_28 : decode cX3_makePieces 28 = .ok (.iload_n 2, 1) := by decide +kernel
theorem dX3_makePieces_29 : decode cX3_makePieces 29 = .ok (.invokevirtual 135, 3) := by decide +kernel
theorem dX3_makePieces_32 : decode cX3_makePieces 32 = .ok (.iload_n 1, 1) := by decide +kernel
theorem dX3_makePieces_33 : decode cX3_makePieces 33 = .ok (.iload_n 3, 1) := by decide +kernel
theorem dX3_makePieces_34 : decode cX3_makePieces 34 = .ok (.invokevirtual 208, 3) := by decide +kernel
theorem dX3_makePieces_37 : decode cX3_makePieces 37 = .ok (.aload_n 0, 1) := by decide +kernel
theorem dX3_makePieces_38 : decode cX3_makePieces 38 = .ok (.getfield 24, 3) := by decide +kernel
theorem dX3_makePieces_41 : decode cX3_makePieces 41 = .ok (.iload_n 2, 1) := by decide +kernel
theorem dX3_makePieces_42 : decode cX3_makePieces 42 = .ok (.ifCond .ne 7, 3) := by decide +kernel
theorem dX3_makePieces_45 : decode cX3_makePieces 45 = .ok (.iconst 0, 1) := by decide +kernel
theorem dX3_makePieces_46 : decode cX3_makePieces 46 = .ok (.goto 4, 3) := by decide +kernel
theorem dX3_makePieces_49 : decode cX3_makePieces 49 = .ok (.iconst 1, 1) := by decide +kernel
theorem dX3_makePieces_50 : decode cX3_makePieces 50 = .ok (.dup2, 1) := by decide +kernel
theorem dX3_makePieces_51 : decode cX3_makePieces 51 = .ok (.iaload, 1) := by decide +kernel
theorem dX3_makePieces_52 : decode cX3_makePieces 52 = .ok (.iload_n 3, 1) := by decide +kernel
theorem dX3_makePieces_53 : decode cX3_makePieces 53 = .ok (.iadd, 1) := by decide +kernel
theorem dX3_makePieces_54 : decode cX3_makePieces 54 = .ok (.iastore, 1) := by decide +kernel
theorem dX3_makePieces_55 : decode cX3_makePieces 55 = .ok (.aload 4, 2) := by decide +kernel
theorem dX3_makePieces_57 : decode cX3_makePieces 57 = .ok (.getfield 179, 3) := by decide +kernel
theorem dX3_makePieces_60 : decode cX3_makePieces 60 = .ok (.ireturn, 1) := by decide +kernel
theorem dX3_swapPieces_0 : decode cX3_swapPieces 0 = .ok (.aload_n 0, 1) := by decide +kernel
theorem dX3_swapPieces_1 : decode cX3_swapPieces 1 = .ok (.getfield 11, 3) := by decide +kernel
theorem dX3_swapPieces_4 : decode cX3_swapPieces 4 = .ok (.iload_n 1, 1) := by decide +kernel
theorem dX3_swapPieces_5 : decode cX3_swapPieces 5 = .ok (.aaload, 1) := by decide +kernel
theorem dX3_swapPieces_6 : decode cX3_swapPieces 6 = .ok (.getfield 186, 3) := by decide +kernel
theorem dX3_swapPieces_9 : decode cX3_swapPieces 9 = .ok (.aload_n 0, 1) := by decide +kernel
theorem dX3_swapPieces_10 : decode cX3_swapPieces 10 = .ok (.getfield 11, 3) := by decide +kernel
theorem dX3_swapPieces_13 : decode cX3_swapPieces 13 = .ok (.iload_n 2, 1) := by decide +kernel
theorem dX3_swapPieces_14 : decode cX3_swapPieces 14 = .ok (.aaload, 1) := by decide +kernel
theorem dX3_swapPieces_15 : decode cX3_swapPieces 15 = .ok (.getfield 186, 3) := by decide +kernel
theorem dX3_swapPieces_18 : decode cX3_swapPieces 18 = .ok (.iload_n 3, 1) := by decide +kernel
theorem dX3_swapPieces_19 : decode cX3_swapPieces 19 = .ok (.invokevirtual 211, 3) := by decide +kernel
theorem dX3_swapPieces_22 : decode cX3_swapPieces 22 = .ok (.aload_n 0, 1) := by decide +kernel
theorem dX3_swapPieces_23 : decode cX3_swapPieces 23 = .ok (.getfield 11, 3) := by decide +kernel
theorem dX3_swapPieces_26 : decode cX3_swapPieces 26 = .ok (.iload_n 2, 1) := by decide +kernel
theorem dX3_swapPieces_27 : decode cX3_swapPieces 27 = .ok (.aaload, 1) := by decide +kernel
theorem dX3_swapPieces_28 : decode cX3_swapPieces 28 = .ok (.getfield 190, 3) := by decide +kernel
theorem dX3_swapPieces_31 : decode cX3_swapPieces 31 = .ok (.aload_n 0, 1) := by decide +kernel
theorem dX3_swapPieces_32 : decode cX3_swapPieces 32 = .ok (.getfield 11, 3) := by decide +kernel
theorem dX3_swapPieces_35 : decode cX3_swapPieces 35 = .ok (.iload_n 1, 1) := by decide +kernel
theorem dX3_swapPieces_36 : decode cX3_swapPieces 36 = .ok (.aaload, 1) := by decide +kernel
theorem dX3_swapPieces_37 : decode cX3_swapPieces 37 = .ok (.getfield 190, 3) := by decide +kernel
theorem dX3_swapPieces_40 : decode cX3_swapPieces 40 = .ok (.iload 4, 2) := by decide +kernel
theorem dX3_swapPieces_42 : decode cX3_swapPieces 42 = .ok (.invokevirtual 211, 3) := by decide +kernel
theorem dX3_swapPieces_45 : decode cX3_swapPieces 45 = .ok (.aload_n 0, 1) := by decide +kernel
theorem dX3_swapPieces_46 : decode cX3_swapPieces 46 = .ok (.getfield 24, 3) := by decide +kernel
theorem dX3_swapPieces_49 : decode cX3_swapPieces 49 = .ok (.iconst 2, 1) := by decide +kernel
theorem dX3_swapPieces_50 : decode cX3_swapPieces 50 = .ok (.dup2, 1) := by decide +kernel
theorem dX3_swapPieces_51 : decode cX3_swapPieces 51 = .ok (.iaload, 1) := by decide +kernel
theorem dX3_swapPieces_52 : decode cX3_swapPieces 52 = .ok (.iconst 1, 1) := by decide +kernel
theorem dX3_swapPieces_53 : decode cX3_swapPieces 53 = .ok (.iadd, 1) := by decide +kernel
theorem dX3_swapPieces_54 : decode cX3_swapPieces 54 = .ok (.iastore, 1) := by decide +kernel
theorem dX3_swapPieces_55 : decode cX3_swapPieces 55 = .ok (.aload_n 0, 1) := by decide +kernel
theorem dX3_swapPieces_56 : decode cX3_swapPieces 56 = .ok (.iload_n 1, 1) := by decide +kernel
theorem dX3_swapPieces_57 : decode cX3_swapPieces 57 = .ok (.iload_n 2, 1) := by decide +kernel
theorem dX3_swapPieces_58 : decode cX3_swapPieces 58 = .ok (.invokevirtual 215, 3) := by decide +kernel
theorem dX3_swapPieces_61 : decode cX3_swapPieces 61 = .ok (.ireturn, 1) := by decide +kernel
theorem dX3_lendPieces_0 : decode cX3_lendPieces 0 = .ok (.aload_n 0, 1) := by decide +kernel
theorem dX3_lendPieces_1 : decode cX3_lendPieces 1 = .ok (.getfield 11, 3) := by decide +kernel
theorem dX3_lendPieces_4 : decode cX3_lendPieces 4 = .ok (.iload_n 1, 1) := by decide +kernel
theorem dX3_lendPieces_5 : decode cX3_lendPieces 5 = .ok (.aaload, 1) := by decide +kernel
theorem dX3_lendPieces_6 : decode cX3_lendPieces 6 = .ok (.iload_n 3, 1) := by decide +kernel
theorem dX3_lendPieces_7 : decode cX3_lendPieces 7 = .ok (.invokevirtual 135, 3) := by decide +kernel
theorem dX3_lendPieces_10 : decode cX3_lendPieces 10 = .ok (.aload_n 0, 1) := by decide +kernel
theorem dX3_lendPieces_11 : decode cX3_lendPieces 11 = .ok (.getfield 11, 3) := by decide +kernel
theorem dX3_lendPieces_14 : decode cX3_lendPieces 14 = .ok (.iload_n 2, 1) := by decide +kernel
theorem dX3_lendPieces_15 : decode cX3_lendPieces 15 = .ok (.aaload, 1) := by decide +kernel
theorem dX3_lendPieces_16 : decode cX3_lendPieces 16 = .ok (.iload_n 3, 1) := by decide +kernel
theorem dX3_lendPieces_17 : decode cX3_lendPieces 17 = .ok (.invokevirtual 135, 3) := by decide +kernel
theorem dX3_lendPieces_20 : decode cX3_lendPieces 20 = .ok (.iload 4, 2) := by decide +kernel
theorem dX3_lendPieces_22 : decode cX3_lendPieces 22 = .ok (.invokevirtual 211, 3) := by decide +kernel
theorem dX3_lendPieces_25 : decode cX3_lendPieces 25 = .ok (.aload_n 0, 1) := by decide +kernel
theorem dX3_lendPieces_26 : decode cX3_lendPieces 26 = .ok (.getfield 24, 3) := by decide +kernel
theorem dX3_lendPieces_29 : decode cX3_lendPieces 29 = .ok (.iconst 3, 1) := by decide +kernel
theorem dX3_lendPieces_30 : decode cX3_lendPieces 30 = .ok (.dup2, 1) := by decide +kernel
theorem dX3_lendPieces_31 : decode cX3_lendPieces 31 = .ok (.iaload, 1) := by decide +kernel
theorem dX3_lendPieces_32 : decode cX3_lendPieces 32 = .ok (.iconst 1, 1) := by decide +kernel
theorem dX3_lendPieces_33 : decode cX3_lendPieces 33 = .ok (.iadd, 1) := by decide +kernel
theorem dX3_lendPieces_34 : decode cX3_lendPieces 34 = .ok (.iastore, 1) := by decide +kernel
theorem dX3_lendPieces_35 : decode cX3_lendPieces 35 = .ok (.aload_n 0, 1) := by decide +kernel
theorem dX3_lendPieces_36 : decode cX3_lendPieces 36 = .ok (.iload_n 1, 1) := by decide +kernel
theorem dX3_lendPieces_37 : decode cX3_lendPieces 37 = .ok (.iload_n 2, 1) := by decide +kernel
theorem dX3_lendPieces_38 : decode cX3_lendPieces 38 = .ok (.invokevirtual 215, 3) := by decide +kernel
theorem dX3_lendPieces_41 : decode cX3_lendPieces 41 = .ok (.pop, 1) := by decide +kernel
theorem dX3_lendPieces_42 : decode cX3_lendPieces 42 = .ok (.aload_n 0, 1) := by decide +kernel
theorem dX3_lendPieces_43 : decode cX3_lendPieces 43 = .ok (.getfield 20, 3) := by decide +kernel
theorem dX3_lendPieces_46 : decode cX3_lendPieces 46 = .ok (.iload_n 2, 1) := by decide +kernel
theorem dX3_lendPieces_47 : decode cX3_lendPieces 47 = .ok (.iload_n 1, 1) := by decide +kernel
theorem dX3_lendPieces_48 : decode cX3_lendPieces 48 = .ok (.iload_n 3, 1) := by decide +kernel
theorem dX3_lendPieces_49 : decode cX3_lendPieces 49 = .ok (.invokestatic 197, 3) := by decide +kernel
theorem dX3_lendPieces_52 : decode cX3_lendPieces 52 = .ok (.iload 4, 2) := by decide +kernel
theorem dX3_lendPieces_54 : decode cX3_lendPieces 54 = .ok (.invokevirtual 218, 3) := by decide +kernel
theorem dX3_lendPieces_57 : decode cX3_lendPieces 57 = .ok (.ireturn, 1) := by decide +kernel
theorem dX3_payPieces_0 : decode cX3_payPieces 0 = .ok (.aload_n 0, 1) := by decide +kernel
theorem dX3_payPieces_1 : decode cX3_payPieces 1 = .ok (.getfield 11, 3) := by decide +kernel
theorem dX3_payPieces_4 : decode cX3_payPieces 4 = .ok (.iload_n 1, 1) := by decide +kernel
theorem dX3_payPieces_5 : decode cX3_payPieces 5 = .ok (.aaload, 1) := by decide +kernel
theorem dX3_payPieces_6 : decode cX3_payPieces 6 = .ok (.iload_n 3, 1) := by decide +kernel
theorem dX3_payPieces_7 : decode cX3_payPieces 7 = .ok (.invokevirtual 135, 3) := by decide +kernel
theorem dX3_payPieces_10 : decode cX3_payPieces 10 = .ok (.aload_n 0, 1) := by decide +kernel
theorem dX3_payPieces_11 : decode cX3_payPieces 11 = .ok (.getfield 11, 3) := by decide +kernel
theorem dX3_payPieces_14 : decode cX3_payPieces 14 = .ok (.iload_n 2, 1) := by decide +kernel
theorem dX3_payPieces_15 : decode cX3_payPieces 15 = .ok (.aaload, 1) := by decide +kernel
theorem dX3_payPieces_16 : decode cX3_payPieces 16 = .ok (.iload_n 3, 1) := by decide +kernel
theorem dX3_payPieces_17 : decode cX3_payPieces 17 = .ok (.invokevirtual 135, 3) := by decide +kernel
theorem dX3_payPieces_20 : decode cX3_payPieces 20 = .ok (.iload 4, 2) := by decide +kernel
theorem dX3_payPieces_22 : decode cX3_payPieces 22 = .ok (.invokevirtual 211, 3) := by decide +kernel
theorem dX3_payPieces_25 : decode cX3_payPieces 25 = .ok (.aload_n 0, 1) := by decide +kernel
theorem dX3_payPieces_26 : decode cX3_payPieces 26 = .ok (.getfield 24, 3) := by decide +kernel
theorem dX3_payPieces_29 : decode cX3_payPieces 29 = .ok (.iconst 4, 1) := by decide +kernel
theorem dX3_payPieces_30 : decode cX3_payPieces 30 = .ok (.dup2, 1) := by decide +kernel
theorem dX3_payPieces_31 : decode cX3_payPieces 31 = .ok (.iaload, 1) := by decide +kernel
theorem dX3_payPieces_32 : decode cX3_payPieces 32 = .ok (.iload 4, 2) := by decide +kernel
theorem dX3_payPieces_34 : decode cX3_payPieces 34 = .ok (.iadd, 1) := by decide +kernel
theorem dX3_payPieces_35 : decode cX3_payPieces 35 = .ok (.iastore, 1) := by decide +kernel
theorem dX3_payPieces_36 : decode cX3_payPieces 36 = .ok (.aload_n 0, 1) := by decide +kernel
theorem dX3_payPieces_37 : decode cX3_payPieces 37 = .ok (.iload_n 1, 1) := by decide +kernel
theorem dX3_payPieces_38 : decode cX3_payPieces 38 = .ok (.iload_n 2, 1) := by decide +kernel
theorem dX3_payPieces_39 : decode cX3_payPieces 39 = .ok (.invokevirtual 215, 3) := by decide +kernel
theorem dX3_payPieces_42 : decode cX3_payPieces 42 = .ok (.pop, 1) := by decide +kernel
theorem dX3_payPieces_43 : decode cX3_payPieces 43 = .ok (.aload_n 0, 1) := by decide +kernel
theorem dX3_payPieces_44 : decode cX3_payPieces 44 = .ok (.getfield 20, 3) := by decide +kernel
theorem dX3_payPieces_47 : decode cX3_payPieces 47 = .ok (.iload_n 1, 1) := by decide +kernel
theorem dX3_payPieces_48 : decode cX3_payPieces 48 = .ok (.iload_n 2, 1) := by decide +kernel
theorem dX3_payPieces_49 : decode cX3_payPieces 49 = .ok (.iload_n 3, 1) := by decide +kernel
theorem dX3_payPieces_50 : decode cX3_payPieces 50 = .ok (.iload 4, 2) := by decide +kernel
theorem dX3_payPieces_52 : decode cX3_payPieces 52 = .ok (.invokevirtual 221, 3) := by decide +kernel
theorem dX3_payPieces_55 : decode cX3_payPieces 55 = .ok (.ireturn, 1) := by decide +kernel
theorem dX3_seatPupil_0 : decode cX3_seatPupil 0 = .ok (.aload_n 0, 1) := by decide +kernel
theorem dX3_seatPupil_1 : decode cX3_seatPupil 1 = .ok (.getfield 11, 3) := by decide +kernel
theorem dX3_seatPupil_4 : decode cX3_seatPupil 4 = .ok (.iload_n 1, 1) := by decide +kernel
theorem dX3_seatPupil_5 : decode cX3_seatPupil 5 = .ok (.aaload, 1) := by decide +kernel
theorem dX3_seatPupil_6 : decode cX3_seatPupil 6 = .ok (.iload_n 2, 1) := by decide +kernel
theorem dX3_seatPupil_7 : decode cX3_seatPupil 7 = .ok (.iload_n 3, 1) := by decide +kernel
theorem dX3_seatPupil_8 : decode cX3_seatPupil 8 = .ok (.invokevirtual 121, 3) := by decide +kernel
theorem dX3_seatPupil_11 : decode cX3_seatPupil 11 = .ok (.aload_n 0, 1) := by decide +kernel
theorem dX3_seatPupil_12 : decode cX3_seatPupil 12 = .ok (.iload_n 1, 1) := by decide +kernel
theorem dX3_seatPupil_13 : decode cX3_seatPupil 13 = .ok (.invokevirtual 224, 3) := by decide +kernel
theorem dX3_seatPupil_16 : decode cX3_seatPupil 16 = .ok (.invokestatic 171, 3) := by decide +kernel
theorem dX3_seatPupil_19 : decode cX3_seatPupil 19 = .ok (.ireturn, 1) := by decide +kernel
theorem dX3_endWeek_0 : decode cX3_endWeek 0 = .ok (.iconst 0, 1) := by decide +kernel
theorem dX3_endWeek_1 : decode cX3_endWeek 1 = .ok (.istore_n 1, 1) := by decide +kernel
theorem dX3_endWeek_2 : decode cX3_endWeek 2 = .ok (.iconst 0, 1) := by decide +kernel
theorem dX3_endWeek_3 : decode cX3_endWeek 3 = .ok (.istore_n 2, 1) := by decide +kernel
theorem dX3_endWeek_4 : decode cX3_endWeek 4 = .ok (.iload_n 2, 1) := by decide +kernel
theorem dX3_endWeek_5 : decode cX3_endWeek 5 = .ok (.aload_n 0, 1) := by decide +kernel
theorem dX3_endWeek_6 : decode cX3_endWeek 6 = .ok (.getfield 31, 3) := by decide +kernel
theorem dX3_endWeek_9 : decode cX3_endWeek 9 = .ok (.if_icmp .ge 19, 3) := by decide +kernel
theorem dX3_endWeek_12 : decode cX3_endWeek 12 = .ok (.aload_n 0, 1) := by decide +kernel
theorem dX3_endWeek_13 : decode cX3_endWeek 13 = .ok (.aload_n 0, 1) := by decide +kernel
theorem dX3_endWeek_14 : decode cX3_endWeek 14 = .ok (.getfield 11, 3) := by decide +kernel
theorem dX3_endWeek_17 : decode cX3_endWeek 17 = .ok (.iload_n 2, 1) := by decide +kernel
theorem dX3_endWeek_18 : decode cX3_endWeek 18 = .ok (.aaload, 1) := by decide +kernel
theorem dX3_endWeek_19 : decode cX3_endWeek 19 = .ok (.invokevirtual 227, 3) := by decide +kernel
theorem dX3_endWeek_22 : decode cX3_endWeek 22 = .ok (.iinc 2 1, 3) := by decide +kernel
theorem dX3_endWeek_25 : decode cX3_endWeek 25 = .ok (.goto (-21), 3) := by decide +kernel
theorem dX3_endWeek_28 : decode cX3_endWeek 28 = .ok (.iconst 0, 1) := by decide +kernel
theorem dX3_endWeek_29 : decode cX3_endWeek 29 = .ok (.istore_n 2, 1) := by decide +kernel
theorem dX3_endWeek_30 : decode cX3_endWeek 30 = .ok (.iload_n 2, 1) := by decide +kernel
theorem dX3_endWeek_31 : decode cX3_endWeek 31 = .ok (.aload_n 0, 1) := by decide +kernel
theorem dX3_endWeek_32 : decode cX3_endWeek 32 = .ok (.getfield 31, 3) := by decide +kernel
theorem dX3_endWeek_35 : decode cX3_endWeek 35 = .ok (.if_icmp .ge 22, 3) := by decide +kernel
theorem dX3_endWeek_38 : decode cX3_endWeek 38 = .ok (.iload_n 1, 1) := by decide +kernel
theorem dX3_endWeek_39 : decode cX3_endWeek 39 = .ok (.aload_n 0, 1) := by decide +kernel
theorem dX3_endWeek_40 : decode cX3_endWeek 40 = .ok (.aload_n 0, 1) := by decide +kernel
theorem dX3_endWeek_41 : decode cX3_endWeek 41 = .ok (.getfield 11, 3) := by decide +kernel
theorem dX3_endWeek_44 : decode cX3_endWeek 44 = .ok (.iload_n 2, 1) := by decide +kernel
theorem dX3_endWeek_45 : decode cX3_endWeek 45 = .ok (.aaload, 1) := by decide +kernel
theorem dX3_endWeek_46 : decode cX3_endWeek 46 = .ok (.invokevirtual 230, 3) := by decide +kernel
theorem dX3_endWeek_49 : decode cX3_endWeek 49 = .ok (.iadd, 1) := by decide +kernel
theorem dX3_endWeek_50 : decode cX3_endWeek 50 = .ok (.istore_n 1, 1) := by decide +kernel
theorem dX3_endWeek_51 : decode cX3_endWeek 51 = .ok (.iinc 2 1, 3) := by decide +kernel
theorem dX3_endWeek_54 : decode cX3_endWeek 54 = .ok (.goto (-24), 3) := by decide +kernel
theorem dX3_endWeek_57 : decode cX3_endWeek 57 = .ok (.iconst 0, 1) := by decide +kernel
theorem dX3_endWeek_58 : decode cX3_endWeek 58 = .ok (.istore_n 2, 1) := by decide +kernel
theorem dX3_endWeek_59 : decode cX3_endWeek 59 = .ok (.iload_n 2, 1) := by decide +kernel
theorem dX3_endWeek_60 : decode cX3_endWeek 60 = .ok (.aload_n 0, 1) := by decide +kernel
theorem dX3_endWeek_61 : decode cX3_endWeek 61 = .ok (.getfield 31, 3) := by decide +kernel
theorem dX3_endWeek_64 : decode cX3_endWeek 64 = .ok (.if_icmp .ge 43, 3) := by decide +kernel
theorem dX3_endWeek_67 : decode cX3_endWeek 67 = .ok (.aload_n 0, 1) := by decide +kernel
theorem dX3_endWeek_68 : decode cX3_endWeek 68 = .ok (.getfield 11, 3) := by decide +kernel
theorem dX3_endWeek_71 : decode cX3_endWeek 71 = .ok (.iload_n 2, 1) := by decide +kernel
theorem dX3_endWeek_72 : decode cX3_endWeek 72 = .ok (.aaload, 1) := by decide +kernel
theorem dX3_endWeek_73 : decode cX3_endWeek 73 = .ok (.aload_n 0, 1) := by decide +kernel
theorem dX3_endWeek_74 : decode cX3_endWeek 74 = .ok (.getfield 11, 3) := by decide +kernel
theorem dX3_endWeek_77 : decode cX3_endWeek 77 = .ok (.iload_n 2, 1) := by decide +kernel
theorem dX3_endWeek_78 : decode cX3_endWeek 78 = .ok (.aaload, 1) := by decide +kernel
theorem dX3_endWeek_79 : decode cX3_endWeek 79 = .ok (.invokevirtual 142, 3) := by decide +kernel
theorem dX3_endWeek_82 : decode cX3_endWeek 82 = .ok (.ifCond .eq 12, 3) := by decide +kernel
theorem dX3_endWeek_85 : decode cX3_endWeek 85 = .ok (.aload_n 0, 1) := by decide +kernel
theorem dX3_endWeek_86 : decode cX3_endWeek 86 = .ok (.getfield 51, 3) := by decide +kernel
theorem dX3_endWeek_89 : decode cX3_endWeek 89 = .ok (.iconst 2, 1) := by decide +kernel
theorem dX3_endWeek_90 : decode cX3_endWeek 90 = .ok (.idiv, 1) := by decide +kernel
theorem dX3_endWeek_91 : decode cX3_endWeek 91 = .ok (.goto 7, 3) := by decide +kernel
theorem dX3_endWeek_94 : decode cX3_endWeek 94 = .ok (.aload_n 0, 1) := by decide +kernel
theorem dX3_endWeek_95 : decode cX3_endWeek 95 = .ok (.getfield 51, 3) := by decide +kernel
theorem dX3_endWeek_98 : decode cX3_endWeek 98 = .ok (.putfield 179, 3) := by decide +kernel
theorem dX3_endWeek_101 : decode cX3_endWeek 101 = .ok (.iinc 2 1, 3) := by decide +kernel
theorem dX3_endWeek_104 : decode cX3_endWeek 104 = .ok (.goto (-45), 3) := by decide +kernel
theorem dX3_endWeek_107 : decode cX3_endWeek 107 = .ok (.aload_n 0, 1) := by decide +kernel
theorem dX3_endWeek_108 : decode cX3_endWeek 108 = .ok (.getfield 24, 3) := by decide +kernel
theorem dX3_endWeek_111 : decode cX3_endWeek 111 = .ok (.bipush 8, 2) := by decide +kernel
theorem dX3_endWeek_113 : decode cX3_endWeek 113 = .ok (.dup2, 1) := by decide +kernel
theorem dX3_endWeek_114 : decode cX3_endWeek 114 = .ok (.iaload, 1) := by decide +kernel
theorem dX3_endWeek_115 : decode cX3_endWeek 115 = .ok (.iload_n 1, 1) := by decide +kernel
theorem dX3_endWeek_116 : decode cX3_endWeek 116 = .ok (.iadd, 1) := by decide +kernel
theorem dX3_endWeek_117 : decode cX3_endWeek 117 = .ok (.iastore, 1) := by decide +kernel
theorem dX3_endWeek_118 : decode cX3_endWeek 118 = .ok (.aload_n 0, 1) := by decide +kernel
theorem dX3_endWeek_119 : decode cX3_endWeek 119 = .ok (.getfield 24, 3) := by decide +kernel
theorem dX3_endWeek_122 : decode cX3_endWeek 122 = .ok (.bipush 9, 2) := by decide +kernel
theorem dX3_endWeek_124 : decode cX3_endWeek 124 = .ok (.dup2, 1) := by decide +kernel
