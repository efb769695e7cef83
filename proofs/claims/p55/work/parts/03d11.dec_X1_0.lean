theorem dX1_init_0 : decode cX1_init 0 = .ok (.aload_n 0, 1) := by decide +kernel
theorem dX1_init_1 : decode cX1_init 1 = .ok (.invokespecial 3, 3) := by decide +kernel
theorem dX1_init_4 : decode cX1_init 4 = .ok (.aload_n 0, 1) := by decide +kernel
theorem dX1_init_5 : decode cX1_init 5 = .ok (.new 9, 3) := by decide +kernel
theorem dX1_init_8 : decode cX1_init 8 = .ok (.dup, 1) := by decide +kernel
theorem dX1_init_9 : decode cX1_init 9 = .ok (.invokespecial 11, 3) := by decide +kernel
theorem dX1_init_12 : decode cX1_init 12 = .ok (.putfield 12, 3) := by decide +kernel
theorem dX1_init_15 : decode cX1_init 15 = .ok (.aload_n 0, 1) := by decide +kernel
theorem dX1_init_16 : decode cX1_init 16 = .ok (.new 9, 3) := by decide +kernel
theorem dX1_init_19 : decode cX1_init 19 = .ok (.dup, 1) := by decide +kernel
theorem dX1_init_20 : decode cX1_init 20 = .ok (.invokespecial 11, 3) := by decide +kernel
theorem dX1_init_23 : decode cX1_init 23 = .ok (.putfield 18, 3) := by decide +kernel
theorem dX1_init_26 : decode cX1_init 26 = .ok (.aload_n 0, 1) := by decide +kernel
theorem dX1_init_27 : decode cX1_init 27 = .ok (.iload_n 1, 1) := by decide +kernel
theorem dX1_init_28 : decode cX1_init 28 = .ok (.putfield 21, 3) := by decide +kernel
theorem dX1_init_31 : decode cX1_init 31 = .ok (.return_, 1) := by decide +kernel
theorem dX1_copyFrom_0 : decode cX1_copyFrom 0 = .ok (.aload_n 0, 1) := by decide +kernel
theorem dX1_copyFrom_1 : decode cX1_copyFrom 1 = .ok (.getfield 12, 3) := by decide +kernel
theorem dX1_copyFrom_4 : decode cX1_copyFrom 4 = .ok (.aload_n 1, 1) := by decide +kernel
theorem dX1_copyFrom_5 : decode cX1_copyFrom 5 = .ok (.getfield 12, 3) := by decide +kernel
theorem dX1_copyFrom_8 : decode cX1_copyFrom 8 = .ok (.invokevirtual 25, 3) := by decide +kernel
theorem dX1_copyFrom_11 : decode cX1_copyFrom 11 = .ok (.aload_n 0, 1) := by decide +kernel
theorem dX1_copyFrom_12 : decode cX1_copyFrom 12 = .ok (.getfield 18, 3) := by decide +kernel
theorem dX1_copyFrom_15 : decode cX1_copyFrom 15 = .ok (.aload_n 1, 1) := by decide +kernel
theorem dX1_copyFrom_16 : decode cX1_copyFrom 16 = .ok (.getfield 18, 3) := by decide +kernel
theorem dX1_copyFrom_19 : decode cX1_copyFrom 19 = .ok (.invokevirtual 25, 3) := by decide +kernel
theorem dX1_copyFrom_22 : decode cX1_copyFrom 22 = .ok (.aload_n 0, 1) := by decide +kernel
theorem dX1_copyFrom_23 : decode cX1_copyFrom 23 = .ok (.aload_n 1, 1) := by decide +kernel
theorem dX1_copyFrom_24 : decode cX1_copyFrom 24 = .ok (.getfield 29, 3) := by decide +kernel
theorem dX1_copyFrom_27 : decode cX1_copyFrom 27 = .ok (.putfield 29, 3) := by decide +kernel
theorem dX1_copyFrom_30 : decode cX1_copyFrom 30 = .ok (.aload_n 0, 1) := by decide +kernel
theorem dX1_copyFrom_31 : decode cX1_copyFrom 31 = .ok (.aload_n 1, 1) := by decide +kernel
theorem dX1_copyFrom_32 : decode cX1_copyFrom 32 = .ok (.getfield 32, 3) := by decide +kernel
theorem dX1_copyFrom_35 : decode cX1_copyFrom 35 = .ok (.putfield 32, 3) := by decide +kernel
theorem dX1_copyFrom_38 : decode cX1_copyFrom 38 = .ok (.aload_n 0, 1) := by decide +kernel
theorem dX1_copyFrom_39 : decode cX1_copyFrom 39 = .ok (.aload_n 1, 1) := by decide +kernel
theorem dX1_copyFrom_40 : decode cX1_copyFrom 40 = .ok (.getfield 35, 3) := by decide +kernel
theorem dX1_copyFrom_43 : decode cX1_copyFrom 43 = .ok (.putfield 35, 3) := by decide +kernel
theorem dX1_copyFrom_46 : decode cX1_copyFrom 46 = .ok (.aload_n 0, 1) := by decide +kernel
theorem dX1_copyFrom_47 : decode cX1_copyFrom 47 = .ok (.aload_n 1, 1) := by decide +kernel
theorem dX1_copyFrom_48 : decode cX1_copyFrom 48 = .ok (.getfield 39, 3) := by decide +kernel
theorem dX1_copyFrom_51 : decode cX1_copyFrom 51 = .ok (.putfield 39, 3) := by decide +kernel
theorem dX1_copyFrom_54 : decode cX1_copyFrom 54 = .ok (.aload_n 0, 1) := by decide +kernel
theorem dX1_copyFrom_55 : decode cX1_copyFrom 55 = .ok (.aload_n 1, 1) := by decide +kernel
theorem dX1_copyFrom_56 : decode cX1_copyFrom 56 = .ok (.getfield 42, 3) := by decide +kernel
theorem dX1_copyFrom_59 : decode cX1_copyFrom 59 = .ok (.putfield 42, 3) := by decide +kernel
theorem dX1_copyFrom_62 : decode cX1_copyFrom 62 = .ok (.aload_n 0, 1) := by decide +kernel
theorem dX1_copyFrom_63 : decode cX1_copyFrom 63 = .ok (.aload_n 1, 1) := by decide +kernel
theorem dX1_copyFrom_64 : decode cX1_copyFrom 64 = .ok (.getfield 45, 3) := by decide +kernel
theorem dX1_copyFrom_67 : decode cX1_copyFrom 67 = .ok (.putfield 45, 3) := by decide +kernel
theorem dX1_copyFrom_70 : decode cX1_copyFrom 70 = .ok (.aload_n 0, 1) := by decide +kernel
theorem dX1_copyFrom_71 : decode cX1_copyFrom 71 = .ok (.aload_n 1, 1) := by decide +kernel
theorem dX1_copyFrom_72 : decode cX1_copyFrom 72 = .ok (.getfield 48, 3) := by decide +kernel
theorem dX1_copyFrom_75 : decode cX1_copyFrom 75 = .ok (.putfield 48, 3) := by decide +kernel
theorem dX1_copyFrom_78 : decode cX1_copyFrom 78 = .ok (.aload_n 0, 1) := by decide +kernel
theorem dX1_copyFrom_79 : decode cX1_copyFrom 79 = .ok (.aload_n 1, 1) := by decide +kernel
theorem dX1_copyFrom_80 : decode cX1_copyFrom 80 = .ok (.getfield 51, 3) := by decide +kernel
theorem dX1_copyFrom_83 : decode cX1_copyFrom 83 = .ok (.putfield 51, 3) := by decide +kernel
theorem dX1_copyFrom_86 : decode cX1_copyFrom 86 = .ok (.aload_n 0, 1) := by decide +kernel
theorem dX1_copyFrom_87 : decode cX1_copyFrom 87 = .ok (.aload_n 1, 1) := by decide +kernel
theorem dX1_copyFrom_88 : decode cX1_copyFrom 88 = .ok (.getfield 54, 3) := by decide +kernel
theorem dX1_copyFrom_91 : decode cX1_copyFrom 91 = .ok (.putfield 54, 3) := by decide +kernel
theorem dX1_copyFrom_94 : decode cX1_copyFrom 94 = .ok (.aload_n 0, 1) := by decide +kernel
theorem dX1_copyFrom_95 : decode cX1_copyFrom 95 = .ok (.aload_n 1, 1) := by decide +kernel
theorem dX1_copyFrom_96 : decode cX1_copyFrom 96 = .ok (.getfield 57, 3) := by decide +kernel
theorem dX1_copyFrom_99 : decode cX1_copyFrom 99 = .ok (.putfield 57, 3) := by decide +kernel
theorem dX1_copyFrom_102 : decode cX1_copyFrom 102 = .ok (.return_, 1) := by decide +kernel
theorem dX1_beginSchool_0 : decode cX1_beginSchool 0 = .ok (.aload_n 0, 1) := by decide +kernel
theorem dX1_beginSchool_1 : decode cX1_beginSchool 1 = .ok (.iload_n 1, 1) := by decide +kernel
theorem dX1_beginSchool_2 : decode cX1_beginSchool 2 = .ok (.putfield 39, 3) := by decide +kernel
theorem dX1_beginSchool_5 : decode cX1_beginSchool 5 = .ok (.aload_n 0, 1) := by decide +kernel
theorem dX1_beginSchool_6 : decode cX1_beginSchool 6 = .ok (.iconst 0, 1) := by decide +kernel
theorem dX1_beginSchool_7 : decode cX1_beginSchool 7 = .ok (.putfield 42, 3) := by decide +kernel
theorem dX1_beginSchool_10 : decode cX1_beginSchool 10 = .ok (.aload_n 0, 1) := by decide +kernel
theorem dX1_beginSchool_11 : decode cX1_beginSchool 11 = .ok (.iconst 0, 1) := by decide +kernel
theorem dX1_beginSchool_12 : decode cX1_beginSchool 12 = .ok (.putfield 45, 3) := by decide +kernel
theorem dX1_beginSchool_15 : decode cX1_beginSchool 15 = .ok (.aload_n 0, 1) := by decide +kernel
theorem dX1_beginSchool_16 : decode cX1_beginSchool 16 = .ok (.iconst 0, 1) := by decide +kernel
theorem dX1_beginSchool_17 : decode cX1_beginSchool 17 = .ok (.putfield 48, 3) := by decide +kernel
theorem dX1_beginSchool_20 : decode cX1_beginSchool 20 = .ok (.aload_n 0, 1) := by decide +kernel
theorem dX1_beginSchool_21 : decode cX1_beginSchool 21 = .ok (.iconst 0, 1) := by decide +kernel
theorem dX1_beginSchool_22 : decode cX1_beginSchool 22 = .ok (.putfield 51, 3) := by decide +kernel
theorem dX1_beginSchool_25 : decode cX1_beginSchool 25 = .ok (.aload_n 0, 1) := by decide +kernel
theorem dX1_beginSchool_26 : decode cX1_beginSchool 26 = .ok (.invokevirtual 60, 3) := by decide +kernel
theorem dX1_beginSchool_29 : decode cX1_beginSchool 29 = .ok (.return_, 1) := by decide +kernel
theorem dX1_sitOn_0 : decode cX1_sitOn 0 = .ok (.aload_n 0, 1) := by decide +kernel
theorem dX1_sitOn_1 : decode cX1_sitOn 1 = .ok (.iload_n 1, 1) := by decide +kernel
theorem dX1_sitOn_2 : decode cX1_sitOn 2 = .ok (.putfield 29, 3) := by decide +kernel
theorem dX1_sitOn_5 : decode cX1_sitOn 5 = .ok (.aload_n 0, 1) := by decide +kernel
theorem dX1_sitOn_6 : decode cX1_sitOn 6 = .ok (.iload_n 2, 1) := by decide +kernel
theorem dX1_sitOn_7 : decode cX1_sitOn 7 = .ok (.putfield 32, 3) := by decide +kernel
theorem dX1_sitOn_10 : decode cX1_sitOn 10 = .ok (.return_, 1) := by decide +kernel
theorem dX1_learn_0 : decode cX1_learn 0 = .ok (.aload_n 0, 1) := by decide +kernel
theorem dX1_learn_1 : decode cX1_learn 1 = .ok (.iload_n 1, 1) := by decide +kernel
theorem dX1_learn_2 : decode cX1_learn 2 = .ok (.putfield 54, 3) := by decide +kernel
theorem dX1_learn_5 : decode cX1_learn 5 = .ok (.aload_n 0, 1) := by decide +kernel
theorem dX1_learn_6 : decode cX1_learn 6 = .ok (.iload_n 2, 1) := by decide +kernel
theorem dX1_learn_7 : decode cX1_learn 7 = .ok (.putfield 57, 3) := by decide +kernel
theorem dX1_learn_10 : decode cX1_learn 10 = .ok (.return_, 1) := by decide +kernel
theorem dX1_emptySatchels_0 : decode cX1_emptySatchels 0 = .ok (.aload_n 0, 1) := by decide +kernel
theorem dX1_emptySatchels_1 : decode cX1_emptySatchels 1 = .ok (.getfield 12, 3) := by decide +kernel
theorem dX1_emptySatchels_4 : decode cX1_emptySatchels 4 = .ok (.iconst 0, 1) := by decide +kernel
theorem dX1_emptySatchels_5 : decode cX1_emptySatchels 5 = .ok (.putfield 63, 3) := by decide +kernel
theorem dX1_emptySatchels_8 : decode cX1_emptySatchels 8 = .ok (.aload_n 0, 1) := by decide +kernel
theorem dX1_emptySatchels_9 : decode cX1_emptySatchels 9 = .ok (.getfield 18, 3) := by decide +kernel
theorem dX1_emptySatchels_12 : decode cX1_emptySatchels 12 = .ok (.iconst 0, 1) := by decide +kernel
theorem dX1_emptySatchels_13 : decode cX1_emptySatchels 13 = .ok (.putfield 63, 3) := by decide +kernel
theorem dX1_emptySatchels_16 : decode cX1_emptySatchels 16 = .ok (.return_, 1) := by decide +kernel
theorem dX1_satchel_0 : decode cX1_satchel 0 = .ok (.iload_n 1, 1) := by decide +kernel
theorem dX1_satchel_1 : decode cX1_satchel 1 = .ok (.ifCond .ne 10, 3) := by decide +kernel
theorem dX1_satchel_4 : decode cX1_satchel 4 = .ok (.aload_n 0, 1) := by decide +kernel
theorem dX1_satchel_5 : decode cX1_satchel 5 = .ok (.getfield 12, 3) := by decide +kernel
theorem dX1_satchel_8 : decode cX1_satchel 8 = .ok (.goto 7, 3) := by decide +kernel
theorem dX1_satchel_11 : decode cX1_satchel 11 = .ok (.aload_n 0, 1) := by decide +kernel
theorem dX1_satchel_12 : decode cX1_satchel 12 = .ok (.getfield 18, 3) := by decide +kernel
theorem dX1_satchel_15 : decode cX1_satchel 15 = .ok (.areturn, 1) := by decide +kernel
theorem dX1_skill_0 : decode cX1_skill 0 = .ok (.iload_n 1, 1) := by decide +kernel
theorem dX1_skill_1 : decode cX1_skill 1 = .ok (.ifCond .ne 10, 3) := by decide +kernel
theorem dX1_skill_4 : decode cX1_skill 4 = .ok (.aload_n 0, 1) := by decide +kernel
theorem dX1_skill_5 : decode cX1_skill 5 = .ok (.getfield 54, 3) := by decide +kernel
theorem dX1_skill_8 : decode cX1_skill 8 = .ok (.goto 7, 3) := by decide +kernel
theorem dX1_skill_11 : decode cX1_skill 11 = .ok (.aload_n 0, 1) := by decide +kernel
theorem dX1_skill_12 : decode cX1_skill 12 = .ok (.getfield 57, 3) := by decide +kernel
theorem dX1_skill_15 : decode cX1_skill 15 = .ok (.ireturn, 1) := by decide +kernel
theorem dX1_effort_0 : decode cX1_effort 0 = .ok (.bipush 10, 2) := by decide +kernel
theorem dX1_effort_2 : decode cX1_effort 2 = .ok (.aload_n 0, 1) := by decide +kernel
theorem dX1_effort_3 : decode cX1_effort 3 = .ok (.iload_n 1, 1) := by decide +kernel
theorem dX1_effort_4 : decode cX1_effort 4 = .ok (.invokevirtual 66, 3) := by decide +kernel
theorem dX1_effort_7 : decode cX1_effort 7 = .ok (.isub, 1) := by decide +kernel
theorem dX1_effort_8 : decode cX1_effort 8 = .ok (.ireturn, 1) := by decide +kernel
theorem dX1_isDetained_0 : decode cX1_isDetained 0 = .ok (.aload_n 0, 1) := by decide +kernel
theorem dX1_isDetained_1 : decode cX1_isDetained 1 = .ok (.getfield 48, 3) := by decide +kernel
theorem dX1_isDetained_4 : decode cX1_isDetained 4 = .ok (.ifCond .le 7, 3) := by decide +kernel
theorem dX1_isDetained_7 : decode cX1_isDetained 7 = .ok (.iconst 1, 1) := by decide +kernel
theorem dX1_isDetained_8 : decode cX1_isDetained 8 = .ok (.goto 4, 3) := by decide +kernel
theorem dX1_isDetained_11 : decode cX1_isDetained 11 = .ok (.iconst 0, 1) := by decide +kernel
theorem dX1_isDetained_12 : decode cX1_isDetained 12 = .ok (.ireturn, 1) := by decide +kernel
theorem dX1_canSpy_0 : decode cX1_canSpy 0 = .ok (.aload_n 0, 1) := by decide +kernel
theorem dX1_canSpy_1 : decode cX1_canSpy 1 = .ok (.getfield 35, 3) := by decide +kernel
theorem dX1_canSpy_4 : decode cX1_canSpy 4 = .ok (.ifCond .eq 14, 3) := by decide +kernel
theorem dX1_canSpy_7 : decode cX1_canSpy 7 = .ok (.aload_n 0, 1) := by decide +kernel
theorem dX1_canSpy_8 : decode cX1_canSpy 8 = .ok (.getfield 48, 3) := by decide +kernel
theorem dX1_canSpy_11 : decode cX1_canSpy 11 = .ok (.ifCond .ne 7, 3) := by decide +kernel
theorem dX1_canSpy_14 : decode cX1_canSpy 14 = .ok (.iconst 1, 1) := by decide +kernel
theorem dX1_canSpy_15 : decode cX1_canSpy 15 = .ok (.goto 4, 3) := by decide +kernel
theorem dX1_canSpy_18 : decode cX1_canSpy 18 = .ok (.iconst 0, 1) := by decide +kernel
theorem dX1_canSpy_19 : decode cX1_canSpy 19 = .ok (.ireturn, 1) := by decide +kernel
theorem dX1_isNearBench_0 : decode cX1_isNearBench 0 = .ok (.aload_n 0, 1) := by decide +kernel
theorem dX1_isNearBench_1 : decode cX1_isNearBench 1 = .ok (.getfield 29, 3) := by decide +kernel
theorem dX1_isNearBench_4 : decode cX1_isNearBench 4 = .ok (.iload_n 1, 1) := by decide +kernel
theorem dX1_isNearBench_5 : decode cX1_isNearBench 5 = .ok (.isub, 1) := by decide +kernel
theorem dX1_isNearBench_6 : decode cX1_isNearBench 6 = .ok (.invokestatic 70, 3) := by decide +kernel
theorem dX1_isNearBench_9 : decode cX1_isNearBench 9 = .ok (.iconst 1, 1) := by decide +kernel
theorem dX1_isNearBench_10 : decode cX1_isNearBench 10 = .ok (.if_icmp .gt 20, 3) := by decide +kernel
theorem dX1_isNearBench_13 : decode cX1_isNearBench 13 = .ok (.aload_n 0, 1) := by decide +kernel
theorem dX1_isNearBench_14 : decode cX1_isNearBench 14 = .ok (.getfield 32, 3) := by decide +kernel
theorem dX1_isNearBench_17 : decode cX1_isNearBench 17 = .ok (.iload_n 2, 1) := by decide +kernel
theorem dX1_isNearBench_18 : decode cX1_isNearBench 18 = .ok (.isub, 1) := by decide +kernel
theorem dX1_isNearBench_19 : decode cX1_isNearBench 19 = .ok (.invokestatic 70, 3) := by decide +kernel
theorem dX1_isNearBench_22 : decode cX1_isNearBench 22 = .ok (.iconst 1, 1) := by decide +kernel
theorem dX1_isNearBench_23 : decode cX1_isNearBench 23 = .ok (.if_icmp .gt 7, 3) := by decide +kernel
theorem dX1_isNearBench_26 : decode cX1_isNearBench 26 = .ok (.iconst 1, 1) := by decide +kernel
theorem dX1_isNearBench_27 : decode cX1_isNearBench 27 = .ok (.goto 4, 3) := by decide +kernel
theorem dX1_isNearBench_30 : decode cX1_isNearBench 30 = .ok (.iconst 0, 1) := by decide +kernel
theorem dX1_isNearBench_31 : decode cX1_isNearBench 31 = .ok (.ireturn, 1) := by decide +kernel
theorem dX1_proofOf_0 : decode cX1_proofOf 0 = .ok (.aload_n 0, 1) := by decide +kernel
theorem dX1_proofOf_1 : decode cX1_proofOf 1 = .ok (.getfield 18, 3) := by decide +kernel
theorem dX1_proofOf_4 : decode cX1_proofOf 4 = .ok (.iload_n 2, 1) := by decide +kernel
theorem dX1_proofOf_5 : decode cX1_proofOf 5 = .ok (.aload_n 0, 1) := by decide +kernel
theorem dX1_proofOf_6 : decode cX1_proofOf 6 = .ok (.getfield 21, 3) := by decide +kernel
theorem dX1_proofOf_9 : decode cX1_proofOf 9 = .ok (.invokevirtual 75, 3) := by decide +kernel
theorem dX1_proofOf_12 : decode cX1_proofOf 12 = .ok (.istore_n 3, 1) := by decide +kernel
theorem dX1_proofOf_13 : decode cX1_proofOf 13 = .ok (.aload_n 0, 1) := by decide +kernel
theorem dX1_proofOf_14 : decode cX1_proofOf 14 = .ok (.getfield 18, 3) := by decide +kernel
theorem dX1_proofOf_17 : decode cX1_proofOf 17 = .ok (.iload_n 2, 1) := by decide +kernel
theorem dX1_proofOf_18 : decode cX1_proofOf 18 = .ok (.aload_n 0, 1) := by decide +kernel
theorem dX1_proofOf_19 : decode cX1_proofOf 19 = .ok (.getfield 21, 3) := by decide +kernel
theorem dX1_proofOf_22 : decode cX1_proofOf 22 = .ok (.invokevirtual 79, 3) := by decide +kernel
theorem dX1_proofOf_25 : decode cX1_proofOf 25 = .ok (.invokestatic 82, 3) := by decide +kernel
theorem dX1_proofOf_28 : decode cX1_proofOf 28 = .ok (.istore 4, 2) := by decide +kernel
theorem dX1_proofOf_30 : decode cX1_proofOf 30 = .ok (.aload_n 0, 1) := by decide +kernel
theorem dX1_proofOf_31 : decode cX1_proofOf 31 = .ok (.getfield 12, 3) := by decide +kernel
theorem dX1_proofOf_34 : decode cX1_proofOf 34 = .ok (.iload_n 1, 1) := by decide +kernel
theorem dX1_proofOf_35 : decode cX1_proofOf 35 = .ok (.aload_n 0, 1) := by decide +kernel
theorem dX1_proofOf_36 : decode cX1_proofOf 36 = .ok (.getfield 21, 3) := by decide +kernel
theorem dX1_proofOf_39 : decode cX1_proofOf 39 = .ok (.invokevirtual 75, 3) := by decide +kernel
theorem dX1_proofOf_42 : decode cX1_proofOf 42 = .ok (.iconst 3, 1) := by decide +kernel
theorem dX1_proofOf_43 : decode cX1_proofOf 43 = .ok (.idiv, 1) := by decide +kernel
theorem dX1_proofOf_44 : decode cX1_proofOf 44 = .ok (.iload_n 3, 1) := by decide +kernel
theorem dX1_proofOf_45 : decode cX1_proofOf 45 = .ok (.iadd, 1) := by decide +kernel
theorem dX1_proofOf_46 : decode cX1_proofOf 46 = .ok (.iload 4, 2) := by decide +kernel
theorem dX1_proofOf_48 : decode cX1_proofOf 48 = .ok (.isub, 1) := by decide +kernel
theorem dX1_proofOf_49 : decode cX1_proofOf 49 = .ok (.ireturn, 1) := by decide +kernel
theorem dX1_beSeenBy_0 : decode cX1_beSeenBy 0 = .ok (.aload_n 0, 1) := by decide +kernel
theorem dX1_beSeenBy_1 : decode cX1_beSeenBy 1 = .ok (.dup, 1) := by decide +kernel
theorem dX1_beSeenBy_2 : decode cX1_beSeenBy 2 = .ok (.getfield 42, 3) := by decide +kernel
theorem dX1_beSeenBy_5 : decode cX1_beSeenBy 5 = .ok (.iload_n 1, 1) := by decide +kernel
theorem dX1_beSeenBy_6 : decode cX1_beSeenBy 6 = .ok (.invokestatic 82, 3) := by decide +kernel
theorem dX1_beSeenBy_9 : decode cX1_beSeenBy 9 = .ok (.iadd, 1) := by decide +kernel
theorem dX1_beSeenBy_10 : decode cX1_beSeenBy 10 = .ok (.putfield 42, 3) := by decide +kernel
theorem dX1_beSeenBy_13 : decode cX1_beSeenBy 13 = .ok (.aload_n 0, 1) := by decide +kernel
theorem dX1_beSeenBy_14 : decode cX1_beSeenBy 14 = .ok (.dup, 1) := by decide +kernel
theorem dX1_beSeenBy_15 : decode cX1_beSeenBy 15 = .ok (.getfield 51, 3) := by decide +kernel
theorem dX1_beSeenBy_18 : decode cX1_beSeenBy 18 = .ok (.iload_n 1, 1) := by decide +kernel
theorem dX1_beSeenBy_19 : decode cX1_beSeenBy 19 = .ok (.ior, 1) := by decide +kernel
theorem dX1_beSeenBy_20 : decode cX1_beSeenBy 20 = .ok (.putfield 51, 3) := by decide +kernel
theorem dX1_beSeenBy_23 : decode cX1_beSeenBy 23 = .ok (.return_, 1) := by decide +kernel
theorem dX1_admit_0 : decode cX1_admit 0 = .ok (.aload_n 0, 1) := by decide +kernel
theorem dX1_admit_1 : decode cX1_admit 1 = .ok (.aload_n 0, 1) := by decide +kernel
theorem dX1_admit_2 : decode cX1_admit 2 = .ok (.getfield 42, 3) := by decide +kernel
theorem dX1_admit_5 : decode cX1_admit 5 = .ok (.iconst 2, 1) := by decide +kernel
theorem dX1_admit_6 : decode cX1_admit 6 = .ok (.idiv, 1) := by decide +kernel
theorem dX1_admit_7 : decode cX1_admit 7 = .ok (.putfield 42, 3) := by decide +kernel
theorem dX1_admit_10 : decode cX1_admit 10 = .ok (.aload_n 0, 1) := by decide +kernel
theorem dX1_admit_11 : decode cX1_admit 11 = .ok (.iconst 0, 1) := by decide +kernel
theorem dX1_admit_12 : decode cX1_admit 12 = .ok (.putfield 51, 3) := by decide +kernel
theorem dX1_admit_15 : decode cX1_admit 15 = .ok (.aload_n 0, 1) := by decide +kernel
theorem dX1_admit_16 : decode cX1_admit 16 = .ok (.dup, 1) := by decide +kernel
theorem dX1_admit_17 : decode cX1_admit 17 = .ok (.getfield 45, 3) := by decide +kernel
theorem dX1_admit_20 : decode cX1_admit 20 = .ok (.iconst 1, 1) := by decide +kernel
theorem dX1_admit_21 : decode cX1_admit 21 = .ok (.iadd, 1) := by decide +kernel
theorem dX1_admit_22 : decode cX1_admit 22 = .ok (.putfield 45, 3) := by decide +kernel
theorem dX1_admit_25 : decode cX1_admit 25 = .ok (.aload_n 0, 1) := by decide +kernel
theorem dX1_admit_26 : decode cX1_admit 26 = .ok (.getfield 42, 3) := by decide +kernel
theorem dX1_admit_29 : decode cX1_admit 29 = .ok (.ireturn, 1) := by decide +kernel
