theorem dX1_init_0 : decode cX1_init 0 = .ok (.aload_n 0, 1) := by decide +kernel
theorem dX1_init_1 : decode cX1_init 1 = .ok (.invokespecial 3, 3) := by decide +kernel
theorem dX1_init_4 : decode cX1_init 4 = .ok (.aload_n 0, 1) := by decide +kernel
theorem dX1_init_5 : decode cX1_init 5 = .ok (.new 9, 3) := by decide +kernel
theorem dX1_init_8 : decode cX1_init 8 = .ok (.dup, 1) := by decide +kernel
theorem dX1_init_9 : decode cX1_init 9 = .ok (.invokespecial 11, 3) := by decide +kernel
theorem dX1_init_12 : decode cX1_init 12 = .ok (.putfield 12, 3) := by decide +kernel
theorem dX1_init_15 : decode cX1_init 15 = .ok (.aload_n 0, 1) := by decide +kernel
theorem dX1_init_16 : decode cX1_init 16 = .ok (.new 9, 3) := by decide +kernel
theorem dX1_init_19 : decode cX1_init 19 = .ok (.dup, 1) := by decide +kernel
theorem dX1_init_20 : decode cX1_init 20 = .ok (.invokespecial 11, 3) := by decide +kernel
theorem dX1_init_23 : decode cX1_init 23 = .ok (.putfield 18, 3) := by decide +kernel
theorem dX1_init_26 : decode cX1_init 26 = .ok (.aload_n 0, 1) := by decide +kernel
theorem dX1_init_27 : decode cX1_init 27 = .ok (.iload_n 1, 1) := by decide +kernel
theorem dX1_init_28 : decode cX1_init 28 = .ok (.putfield 21, 3) := by decide +kernel
theorem dX1_init_31 : decode cX1_init 31 = .ok (.return_, 1) := by decide +kernel
theorem dX1_copyFrom_0 : decode cX1_copyFrom 0 = .ok (.aload_n 0, 1) := by decide +kernel
theorem dX1_copyFrom_1 : decode cX1_copyFrom 1 = .ok (.getfield 12, 3) := by decide +kernel
theorem dX1_copyFrom_4 : decode cX1_copyFrom 4 = .ok (.aload_n 1, 1) := by decide +kernel
theorem dX1_copyFrom_5 : decode cX1_copyFrom 5 = .ok (.getfield 12, 3) := by decide +kernel
theorem dX1_copyFrom_8 : decode cX1_copyFrom 8 = .ok (.invokevirtual 25, 3) := by decide +kernel
theorem dX1_copyFrom_11 : decode cX1_copyFrom 11 = .ok (.aload_n 0, 1) := by decide +kernel
theorem dX1_copyFrom_12 : decode cX1_copyFrom 12 = .ok (.getfield 18, 3) := by decide +kernel
theorem dX1_copyFrom_15 : decode cX1_copyFrom 15 = .ok (.aload_n 1, 1) := by decide +kernel
theorem dX1_copyFrom_16 : decode cX1_copyFrom 16 = .ok (.getfield 18, 3) := by decide +kernel
theorem dX1_copyFrom_19 : decode cX1_copyFrom 19 = .ok (.invokevirtual 25, 3) := by decide +kernel
theorem dX1_copyFrom_22 : decode cX1_copyFrom 22 = .ok (.aload_n 0, 1) := by decide +kernel
theorem dX1_copyFrom_23 : decode cX1_copyFrom 23 = .ok (.aload_n 1, 1) := by decide +kernel
theorem dX1_copyFrom_24 : decode cX1_copyFrom 24 = .ok (.getfield 29, 3) := by decide +kernel
theorem dX1_copyFrom_27 : decode cX1_copyFrom 27 = .ok (.putfield 29, 3) := by decide +kernel
theorem dX1_copyFrom_30 : decode cX1_copyFrom 30 = .ok (.aload_n 0, 1) := by decide +kernel
theorem dX1_copyFrom_31 : decode cX1_copyFrom 31 = .ok (.aload_n 1, 1) := by decide +kernel
theorem dX1_copyFrom_32 : decode cX1_copyFrom 32 = .ok (.getfield 32, 3) := by decide +kernel
theorem dX1_copyFrom_35 : decode cX1_copyFrom 35 = .ok (.putfield 32, 3) := by decide +kernel
theorem dX1_copyFrom_38 : decode cX1_copyFrom 38 = .ok (.aload_n 0, 1) := by decide +kernel
theorem dX1_copyFrom_39 : decode cX1_copyFrom 39 = .ok (.aload_n 1, 1) := by decide +kernel
theorem dX1_copyFrom_40 : decode cX1_copyFrom 40 = .ok (.getfield 35, 3) := by decide +kernel
theorem dX1_copyFrom_43 : decode cX1_copyFrom 43 = .ok (.putfield 35, 3) := by decide +kernel
theorem dX1_copyFrom_46 : decode cX1_copyFrom 46 = .ok (.aload_n 0, 1) := by decide +kernel
theorem dX1_copyFrom_47 : decode cX1_copyFrom 47 = .ok (.aload_n 1, 1) := by decide +kernel
theorem dX1_copyFrom_48 : decode cX1_copyFrom 48 = .ok (.getfield 39, 3) := by decide +kernel
theorem dX1_copyFrom_51 : decode cX1_copyFrom 51 = .ok (.putfield 39, 3) := by decide +kernel
theorem dX1_copyFrom_54 : decode cX1_copyFrom 54 = .ok (.aload_n 0, 1) := by decide +kernel
theorem dX1_copyFrom_55 : decode cX1_copyFrom 55 = .ok (.aload_n 1, 1) := by decide +kernel
theorem dX1_copyFrom_56 : decode cX1_copyFrom 56 = .ok (.getfield 42, 3) := by decide +kernel
theorem dX1_copyFrom_59 : decode cX1_copyFrom 59 = .ok (.putfield 42, 3) := by decide +kernel
theorem dX1_copyFrom_62 : decode cX1_copyFrom 62 = .ok (.aload_n 0, 1) := by decide +kernel
theorem dX1_copyFrom_63 : decode cX1_copyFrom 63 = .ok (.aload_n 1, 1) := by decide +kernel
theorem dX1_copyFrom_64 : decode cX1_copyFrom 64 = .ok (.getfield 45, 3) := by decide +kernel
theorem dX1_copyFrom_67 : decode cX1_copyFrom 67 = .ok (.putfield 45, 3) := by decide +kernel
theorem dX1_copyFrom_70 : decode cX1_copyFrom 70 = .ok (.aload_n 0, 1) := by decide +kernel
theorem dX1_copyFrom_71 : decode cX1_copyFrom 71 = .ok (.aload_n 1, 1) := by decide +kernel
theorem dX1_copyFrom_72 : decode cX1_copyFrom 72 = .ok (.getfield 48, 3) := by decide +kernel
theorem dX1_copyFrom_75 : decode cX1_copyFrom 75 = .ok (.putfield 48, 3) := by decide +kernel
theorem dX1_copyFrom_78 : decode cX1_copyFrom 78 = .ok (.aload_n 0, 1) := by decide +kernel
theorem dX1_copyFrom_79 : decode cX1_copyFrom 79 = .ok (.aload_n 1, 1) := by decide +kernel
theorem dX1_copyFrom_80 : decode cX1_copyFrom 80 = .ok (.getfield 51, 3) := by decide +kernel
theorem dX1_copyFrom_83 : decode cX1_copyFrom 83 = .ok (.putfield 51, 3) := by decide +kernel
theorem dX1_copyFrom_86 : decode cX1_copyFrom 86 = .ok (.aload_n 0, 1) := by decide +kernel
theorem dX1_copyFrom_87 : decode cX1_copyFrom 87 = .ok (.aload_n 1, 1) := by decide +kernel
theorem dX1_copyFrom_88 : decode cX1_copyFrom 88 = .ok (.getfield 54, 3) := by decide +kernel
theorem dX1_copyFrom_91 : decode cX1_copyFrom 91 = .ok (.putfield 54, 3) := by decide +kernel
theorem dX1_copyFrom_94 : decode cX1_copyFrom 94 = .ok (.aload_n 0, 1) := by decide +kernel
theorem dX1_copyFrom_95 : decode cX1_copyFrom 95 = .ok (.aload_n 1, 1) := by decide +kernel
theorem dX1_copyFrom_96 : decode cX1_copyFrom 96 = .ok (.getfield 57, 3) := by decide +kernel
theorem dX1_copyFrom_99 : decode cX1_copyFrom 99 = .ok (.putfield 57, 3) := by decide +kernel
theorem dX1_copyFrom_102 : decode cX1_copyFrom 102 = .ok (.return_, 1) := by decide +kernel
theorem dX1_beginSchool_0 : decode cX1_beginSchool 0 = .ok (.aload_n 0, 1) := by decide +kernel
theorem dX1_beginSchool_1 : decode cX1_beginSchool 1 = .ok (.iload_n 1, 1) := by decide +kernel
theorem dX1_beginSchool_2 : decode cX1_beginSchool 2 = .ok (.putfield 39, 3) := by decide +kernel
theorem dX1_beginSchool_5 : decode cX1_beginSchool 5 = .ok (.aload_n 0, 1) := by decide +kernel
theorem dX1_beginSchool_6 : decode cX1_beginSchool 6 = .ok (.iconst 0, 1) := by decide +kernel
theorem dX1_beginSchool_7 : decode cX1_beginSchool 7 = .ok (.putfield 42, 3) := by decide +kernel
theorem dX1_beginSchool_10 : decode cX1_beginSchool 10 = .ok (.aload_n 0, 1) := by decide +kernel
theorem dX1_beginSchool_11 : decode cX1_beginSchool 11 = .ok (.iconst 0, 1) := by decide +kernel
theorem dX1_beginSchool_12 : decode cX1_beginSchool 12 = .ok (.putfield 45, 3) := by decide +kernel
theorem dX1_beginSchool_15 : decode cX1_beginSchool 15 = .ok (.aload_n 0, 1) := by decide +kernel
theorem dX1_beginSchool_16 : decode cX1_beginSchool 16 = .ok (.iconst 0, 1) := by decide +kernel
theorem dX1_beginSchool_17 : decode cX1_beginSchool 17 = .ok (.putfield 48, 3) := by decide +kernel
theorem dX1_beginSchool_20 : decode cX1_beginSchool 20 = .ok (.aload_n 0, 1) := by decide +kernel
theorem dX1_beginSchool_21 : decode cX1_beginSchool 21 = .ok (.iconst 0, 1) := by decide +kernel
theorem dX1_beginSchool_22 : decode cX1_beginSchool 22 = .ok (.putfield 51, 3) := by decide +kernel
theorem dX1_beginSchool_25 : decode cX1_beginSchool 25 = .ok (.aload_n 0, 1) := by decide +kernel
theorem dX1_beginSchool_26 : decode cX1_beginSchool 26 = .ok (.invokevirtual 60, 3) := by decide +kernel
theorem dX1_beginSchool_29 : decode cX1_beginSchool 29 = .ok (.return_, 1) := by decide +kernel
theorem dX1_sitOn_0 : decode cX1_sitOn 0 = .ok (.aload_n 0, 1) := by decide +kernel
theorem dX1_sitOn_1 : decode cX1_sitOn 1 = .ok (.iload_n 1, 1) := by decide +kernel
theorem dX1_sitOn_2 : decode cX1_sitOn 2 = .ok (.putfield 29, 3) := by decide +kernel
theorem dX1_sitOn_5 : decode cX1_sitOn 5 = .ok (.aload_n 0, 1) := by decide +kernel
theorem dX1_sitOn_6 : decode cX1_sitOn 6 = .ok (.iload_n 2, 1) := by decide +kernel
theorem dX1_sitOn_7 : decode cX1_sitOn 7 = .ok (.putfield 32, 3) := by decide +kernel
theorem dX1_sitOn_10 : decode cX1_sitOn 10 = .ok (.return_, 1) := by decide +kernel
theorem dX1_learn_0 : decode cX1_learn 0 = .ok (.aload_n 0, 1) := by decide +kernel
theorem dX1_learn_1 : decode cX1_learn 1 = .ok (.iload_n 1, 1) := by decide +kernel
theorem dX1_learn_2 : decode cX1_learn 2 = .ok (.putfield 54, 3) := by decide +kernel
theorem dX1_learn_5 : decode cX1_learn 5 = .ok (.aload_n 0, 1) := by decide +kernel
theorem dX1_learn_6 : decode cX1_learn 6 = .ok (.iload_n 2, 1) := by decide +kernel
theorem dX1_learn_7 : decode cX1_learn 7 = .ok (.putfield 57, 3) := by decide +kernel
theorem dX1_learn_10 : decode cX1_learn 10 = .ok (.return_, 1) := by decide +kernel
theorem dX1_emptySatchels_0 : decode cX1_emptySatchels 0 = .ok (.aload_n 0, 1) := by decide +kernel
theorem dX1_emptySatchels_1 : decode cX1_emptySatchels 1 = .ok (.getfield 12, 3) := by decide +kernel
theorem dX1_emptySatchels_4 : decode cX1_emptySatchels 4 = .ok (.iconst 0, 1) := by decide +kernel
theorem dX1_emptySatchels_5 : decode cX1_emptySatchels 5 = .ok (.putfield 63, 3) := by decide +kernel
theorem dX1_emptySatchels_8 : decode cX1_emptySatchels 8 = .ok (.aload_n 0, 1) := by decide +kernel
theorem dX1_emptySatchels_9 : decode cX1_emptySatchels 9 = .ok (.getfield 18, 3) := by decide +kernel
theorem dX1_emptySatchels_12 : decode cX1_emptySatchels 12 = .ok (.iconst 0, 1) := by decide +kernel
theorem dX1_emptySatchels_13 : decode cX1_emptySatchels 13 = .ok (.putfield 63, 3) := by decide +kernel
theorem dX1_emptySatchels_16 : decode cX1_emptySatchels 16 = .ok (.return_, 1) := by decide +kernel
theorem dX1_satchel_0 : decode cX1_satchel 0 = .ok (.iload_n 1, 1) := by decide +kernel
theorem dX1_satchel_1 : decode cX1_satchel 1 = .ok (.ifCond .ne 10, 3) := by decide +kernel
theorem dX1_satchel_4 : decode cX1_satchel 4 = .ok (.aload_n 0, 1) := by decide +kernel
theorem dX1_satchel_5 : decode cX1_satchel 5 = .ok (.getfield 12, 3) := by decide +kernel
theorem dX1_satchel_8 : decode cX1_satchel 8 = .ok (.goto 7, 3) := by decide +kernel
theorem dX1_satchel_11 : decode cX1_satchel 11 = .ok (.aload_n 0, 1) := by decide +kernel
theorem dX1_satchel_12 : decode cX1_satchel 12 = .ok (.getfield 18, 3) := by decide +kernel
theorem dX1_satchel_15 : decode cX1_satchel 15 = .ok (.areturn, 1) := by decide +kernel
theorem dX1_skill_0 : decode cX1_skill 0 = .ok (.iload_n 1, 1) := by decide +kernel
theorem dX1_skill_1 : decode cX1_skill 1 = .ok (.ifCond .ne 10, 3) := by decide +kernel
theorem dX1_skill_4 : decode cX1_skill 4 = .ok (.aload_n 0, 1) := by decide +kernel
theorem dX1_skill_5 : decode cX1_skill 5 = .ok (.getfield 54, 3) := by decide +kernel
theorem dX1_skill_8 : decode cX1_skill 8 = .ok (.goto 7, 3) := by decide +kernel
theorem dX1_skill_11 : decode cX1_skill 11 = .ok (.aload_n 0, 1) := by decide +kernel
theorem dX1_skill_12 : decode cX1_skill 12 = .ok (.getfield 57, 3) := by decide +kernel
theorem dX1_skill_15 : decode cX1_skill 15 = .ok (.ireturn, 1) := by decide +kernel
theorem dX1_effort_0 : decode cX1_effort 0 = .ok (.bipush 10, 2) := by decide +kernel
theorem dX1_effort_2 : decode cX1_effort 2 = .ok (.aload_n 0, 1) := by decide +kernel
theorem dX1_effort_3 : decode cX1_effort 3 = .ok (.iload_n 1, 1) := by decide +kernel
theorem dX1_effort_4 : decode cX1_effort 4 = .ok (.invokevirtual 66, 3) := by decide +kernel
theorem dX1_effort_7 : decode cX1_effort 7 = .ok (.isub, 1) := by decide +kernel
theorem dX1_effort_8 : decode cX1_effort 8 = .ok (.ireturn, 1) := by decide +kernel
theorem dX1_isDetained_0 : decode cX1_isDetained 0 = .ok (.aload_n 0, 1) := by decide +kernel
theorem dX1_isDetained_1 : decode cX1_isDetained 1 = .ok (.getfield 48, 3) := by decide +kernel
theorem dX1_isDetained_4 : decode cX1_isDetained 4 = .ok (.ifCond .le 7, 3) := by decide +kernel
theorem dX1_isDetained_7 : decode cX1_isDetained 7 = .ok (.iconst 1, 1) := by decide +kernel
theorem dX1_isDetained_8 : decode cX1_isDetained 8 = .ok (.goto 4, 3) := by decide +kernel
theorem dX1_isDetained_11 : decode cX1_isDetained 11 = .ok (.iconst 0, 1) := by decide +kernel
theorem dX1_isDetained_12 : decode cX1_isDetained 12 = .ok (.ireturn, 1) := by decide +kernel
theorem dX1_canSpy_0 : decode cX1_canSpy 0 = .ok (.aload_n 0, 1) := by decide +kernel
theorem dX1_canSpy_1 : decode cX1_canSpy 1 = .ok (.getfield 35, 3) := by decide +kernel
theorem dX1_canSpy_4 : decode cX1_canSpy 4 = .ok (.ifCond .eq 14, 3) := by decide +kernel
theorem dX1_canSpy_7 : decode cX1_canSpy 7 = .ok (.aload_n 0, 1) := by decide +kernel
theorem dX1_canSpy_8 : decode cX1_canSpy 8 = .ok (.getfield 48, 3) := by decide +kernel
theorem dX1_canSpy_11 : decode cX1_canSpy 11 = .ok (.ifCond .ne 7, 3) := by decide +kernel
theorem dX1_canSpy_14 : decode cX1_canSpy 14 = .ok (.iconst 1, 1) := by decide +kernel
theorem dX1_canSpy_15 : decode cX1_canSpy 15 = .ok (.goto 4, 3) := by decide +kernel
theorem dX1_canSpy_18 : decode cX1_canSpy 18 = .ok (.iconst 0, 1) := by decide +kernel
theorem dX1_canSpy_19 : decode cX1_canSpy 19 = .ok (.ireturn, 1) := by decide +kernel
theorem dX1_isNearBench_0 : decode cX1_isNearBench 0 = .ok (.aload_n 0, 1) := by decide +kernel
theorem dX1_isNearBench_1 : decode cX1_isNearBench 1 = .ok (.getfield 29, 3) := by decide +kernel
theorem dX1_isNearBench_4 : decode cX1_isNearBench 4 = .ok (.iload_n 1, 1) := by decide +kernel
theorem dX1_isNearBench_5 : decode cX1_isNearBench 5 = .ok (.isub, 1) := by decide +kernel
theorem dX1_isNearBench_6 : decode cX1_isNearBench 6 = .ok (.invokestatic 70, 3) := by decide +kernel
theorem dX1_isNearBench_9 : decode cX1_isNearBench 9 = .ok (.iconst 1, 1) := by decide +kernel
theorem dX1_isNearBench_10 : decode cX1_isNearBench 10 = .ok (.if_icmp .gt 20, 3) := by decide +kernel
theorem dX1_isNearBench_13 : decode cX1_isNearBench 13 = .ok (.aload_n 0, 1) := by decide +kernel
theorem dX1_isNearBench_14 : decode cX1_isNearBench 14 = .ok (.getfield 32, 3) := by decide +kernel
theorem dX1_isNearBench_17 : decode cX1_isNearBench 17 = .ok (.iload_n 2, 1) := by decide +kernel
theorem dX1_isNearBench_18 : decode cX1_isNearBench 18 = .ok (.isub, 1) := by decide +kernel
theorem dX1_isNearBench_19 : decode cX1_isNearBench 19 = .ok (.invokestatic 70, 3) := by decide +kernel
theorem dX1_isNearBench_22 : decode cX1_isNearBench 22 = .ok (.iconst 1, 1) := by decide +kernel
theorem dX1_isNearBench_23 : decode cX1_isNearBench 23 = .ok (.if_icmp .gt 7, 3) := by decide +kernel
theorem dX1_isNearBench_26 : decode cX1_isNearBench 26 = .ok (.iconst 1, 1) := by decide +kernel
theorem dX1_isNearBench_27 : decode cX1_isNearBench 27 = .ok (.goto 4, 3) := by decide +kernel
theorem dX1_isNearBench_30 : decode cX1_isNearBench 30 = .ok (.iconst 0, 1) := by decide +kernel
theorem dX1_isNearBench_31 : decode cX1_isNearBench 31 = .ok (.ireturn, 1) := by decide +kernel
theorem dX1_proofOf_0 : decode cX1_proofOf 0 = .ok (.aload_n 0, 1) := by decide +kernel
theorem dX1_proofOf_1 : decode cX1_proofOf 1 = .ok (.getfield 18, 3) := by decide +kernel
theorem dX1_proofOf_4 : decode cX1_proofOf 4 = .ok (.iload_n 2, 1) := by decide +kernel
theorem dX1_proofOf_5 : decode cX1_proofOf 5 = .ok (.aload_n 0, 1) := by decide +kernel
theorem dX1_proofOf_6 : decode cX1_proofOf 6 = .ok (.getfield 21, 3) := by decide +kernel
theorem dX1_proofOf_9 : decode cX1_proofOf 9 = .ok (.invokevirtual 75, 3) := by decide +kernel
theorem dX1_proofOf_12 : decode cX1_proofOf 12 = .ok (.istore_n 3, 1) := by decide +kernel
theorem dX1_proofOf_13 : decode cX1_proofOf 13 = .ok (.aload_n 0, 1) := by decide +kernel
theorem dX1_proofOf_14 : decode cX1_proofOf 14 = .ok (.getfield 18, 3) := by decide +kernel
theorem dX1_proofOf_17 : decode cX1_proofOf 17 = .ok (.iload_n 2, 1) := by decide +kernel
theorem dX1_proofOf_18 : decode cX1_proofOf 18 = .ok (.aload_n 0, 1) := by decide +kernel
theorem dX1_proofOf_19 : decode cX1_proofOf 19 = .ok (.getfield 21, 3) := by decide +kernel
theorem dX1_proofOf_22 : decode cX1_proofOf 22 = .ok (.invokevirtual 79, 3) := by decide +kernel
theorem dX1_proofOf_25 : decode cX1_proofOf 25 = .ok (.invokestatic 82, 3) := by decide +kernel
theorem dX1_proofOf_28 : decode cX1_proofOf 28 = .ok (.istore 4, 2) := by decide +kernel
theorem dX1_proofOf_30 : decode cX1_proofOf 30 = .ok (.aload_n 0, 1) := by decide +kernel
theorem dX1_proofOf_31 : decode cX1_proofOf 31 = .ok (.getfield 12, 3) := by decide +kernel
theorem dX1_proofOf_34 : decode cX1_proofOf 34 = .ok (.iload_n 1, 1) := by decide +kernel
theorem dX1_proofOf_35 : decode cX1_proofOf 35 = .ok (.aload_n 0, 1) := by decide +kernel
theorem dX1_proofOf_36 : decode cX1_proofOf 36 = .ok (.getfield 21, 3) := by decide +kernel
theorem dX1_proofOf_39 : decode cX1_proofOf 39 = .ok (.invokevirtual 75, 3) := by decide +kernel
theorem dX1_proofOf_42 : decode cX1_proofOf 42 = .ok (.iconst 3, 1) := by decide +kernel
theorem dX1_proofOf_43 : decode cX1_proofOf 43 = .ok (.idiv, 1) := by decide +kernel
theorem dX1_proofOf_44 : decode cX1_proofOf 44 = .ok (.iload_n 3, 1) := by decide +kernel
theorem dX1_proofOf_45 : decode cX1_proofOf 45 = .ok (.iadd, 1) := by decide +kernel
theorem dX1_proofOf_46 : decode cX1_proofOf 46 = .ok (.iload 4, 2) := by decide +kernel
theorem dX1_proofOf_48 : decode cX1_proofOf 48 = .ok (.isub, 1) := by decide +kernel
theorem dX1_proofOf_49 : decode cX1_proofOf 49 = .ok (.ireturn, 1) := by decide +kernel
theorem dX1_beSeenBy_0 : decode cX1_beSeenBy 0 = .ok (.aload_n 0, 1) := by decide +kernel
theorem dX1_beSeenBy_1 : decode cX1_beSeenBy 1 = .ok (.dup, 1) := by decide +kernel
theorem dX1_beSeenBy_2 : decode cX1_beSeenBy 2 = .ok (.getfield 42, 3) := by decide +kernel
theorem dX1_beSeenBy_5 : decode cX1_beSeenBy 5 = .ok (.iload_n 1, 1) := by decide +kernel
theorem dX1_beSeenBy_6 : decode cX1_beSeenBy 6 = .ok (.invokestatic 82, 3) := by decide +kernel
theorem dX1_beSeenBy_9 : decode cX1_beSeenBy 9 = .ok (.iadd, 1) := by decide +kernel
theorem dX1_beSeenBy_10 : decode cX1_beSeenBy 10 = .ok (.putfield 42, 3) := by decide +kernel
theorem dX1_beSeenBy_13 : decode cX1_beSeenBy 13 = .ok (.aload_n 0, 1) := by decide +kernel
theorem dX1_beSeenBy_14 : decode cX1_beSeenBy 14 = .ok (.dup, 1) := by decide +kernel
theorem dX1_beSeenBy_15 : decode cX1_beSeenBy 15 = .ok (.getfield 51, 3) := by decide +kernel
theorem dX1_beSeenBy_18 : decode cX1_beSeenBy 18 = .ok (.iload_n 1, 1) := by decide +kernel
theorem dX1_beSeenBy_19 : decode cX1_beSeenBy 19 = .ok (.ior, 1) := by decide +kernel
theorem dX1_beSeenBy_20 : decode cX1_beSeenBy 20 = .ok (.putfield 51, 3) := by decide +kernel
theorem dX1_beSeenBy_23 : decode cX1_beSeenBy 23 = .ok (.return_, 1) := by decide +kernel
theorem dX1_admit_0 : decode cX1_admit 0 = .ok (.aload_n 0, 1) := by decide +kernel
theorem dX1_admit_1 : decode cX1_admit 1 = .ok (.aload_n 0, 1) := by decide +kernel
theorem dX1_admit_2 : decode cX1_admit 2 = .ok (.getfield 42, 3) := by decide +kernel
theorem dX1_admit_5 : decode cX1_admit 5 = .ok (.iconst 2, 1) := by decide +kernel
theorem dX1_admit_6 : decode cX1_admit 6 = .ok (.idiv, 1) := by decide +kernel
theorem dX1_admit_7 : decode cX1_admit 7 = .ok (.putfield 42, 3) := by decide +kernel
theorem dX1_admit_10 : decode cX1_admit 10 = .ok (.aload_n 0, 1) := by decide +kernel
theorem dX1_admit_11 : decode cX1_admit 11 = .ok (.iconst 0, 1) := by decide +kernel
theorem dX1_admit_12 : decode cX1_admit 12 = .ok (.putfield 51, 3) := by decide +kernel
theorem dX1_admit_15 : decode cX1_admit 15 = .ok (.aload_n 0, 1) := by decide +kernel
theorem dX1_admit_16 : decode cX1_admit 16 = .ok (.dup, 1) := by decide +kernel
theorem dX1_admit_17 : decode cX1_admit 17 = .ok (.getfield 45, 3) := by decide +kernel
theorem dX1_admit_20 : decode cX1_admit 20 = .ok (.iconst 1, 1) := by decide +kernel
theorem dX1_admit_21 : decode cX1_admit 21 = .ok (.iadd, 1) := by decide +kernel
theorem dX1_admit_22 : decode cX1_admit 22 = .ok (.putfield 45, 3) := by decide +kernel
theorem dX1_admit_25 : decode cX1_admit 25 = .ok (.aload_n 0, 1) := by decide +kernel
theorem dX1_admit_26 : decode cX1_admit 26 = .ok (.getfield 42, 3) := by decide +kernel
theorem dX1_admit_29 : decode cX1_admit 29 = .ok (.ireturn, 1) := by decide +kernel
theorem dX2_init_0 : decode cX2_init 0 = .ok (.aload_n 0, 1) := by decide +kernel
theorem dX2_init_1 : decode cX2_init 1 = .ok (.invokespecial 3, 3) := by decide +kernel
theorem dX2_init_4 : decode cX2_init 4 = .ok (.aload_n 0, 1) := by decide +kernel
theorem dX2_init_5 : decode cX2_init 5 = .ok (.bipush 20, 2) := by decide +kernel
theorem dX2_init_7 : decode cX2_init 7 = .ok (.newarray .int, 2) := by decide +kernel
theorem dX2_init_9 : decode cX2_init 9 = .ok (.putfield 9, 3) := by decide +kernel
theorem dX2_init_12 : decode cX2_init 12 = .ok (.return_, 1) := by decide +kernel
theorem dX2_copyFrom_0 : decode cX2_copyFrom 0 = .ok (.aload_n 1, 1) := by decide +kernel
theorem dX2_copyFrom_1 : decode cX2_copyFrom 1 = .ok (.getfield 9, 3) := by decide +kernel
theorem dX2_copyFrom_4 : decode cX2_copyFrom 4 = .ok (.iconst 0, 1) := by decide +kernel
theorem dX2_copyFrom_5 : decode cX2_copyFrom 5 = .ok (.aload_n 0, 1) := by decide +kernel
theorem dX2_copyFrom_6 : decode cX2_copyFrom 6 = .ok (.getfield 9, 3) := by decide +kernel
theorem dX2_copyFrom_9 : decode cX2_copyFrom 9 = .ok (.iconst 0, 1) := by decide +kernel
theorem dX2_copyFrom_10 : decode cX2_copyFrom 10 = .ok (.bipush 20, 2) := by decide +kernel
theorem dX2_copyFrom_12 : decode cX2_copyFrom 12 = .ok (.invokestatic 15, 3) := by decide +kernel
theorem dX2_copyFrom_15 : decode cX2_copyFrom 15 = .ok (.aload_n 0, 1) := by decide +kernel
theorem dX2_copyFrom_16 : decode cX2_copyFrom 16 = .ok (.aload_n 1, 1) := by decide +kernel
theorem dX2_copyFrom_17 : decode cX2_copyFrom 17 = .ok (.getfield 21, 3) := by decide +kernel
theorem dX2_copyFrom_20 : decode cX2_copyFrom 20 = .ok (.putfield 21, 3) := by decide +kernel
theorem dX2_copyFrom_23 : decode cX2_copyFrom 23 = .ok (.return_, 1) := by decide +kernel
theorem dX2_hasRoomFor_0 : decode cX2_hasRoomFor 0 = .ok (.iload_n 1, 1) := by decide +kernel
theorem dX2_hasRoomFor_1 : decode cX2_hasRoomFor 1 = .ok (.bipush 20, 2) := by decide +kernel
theorem dX2_hasRoomFor_3 : decode cX2_hasRoomFor 3 = .ok (.aload_n 0, 1) := by decide +kernel
theorem dX2_hasRoomFor_4 : decode cX2_hasRoomFor 4 = .ok (.getfield 21, 3) := by decide +kernel
theorem dX2_hasRoomFor_7 : decode cX2_hasRoomFor 7 = .ok (.isub, 1) := by decide +kernel
theorem dX2_hasRoomFor_8 : decode cX2_hasRoomFor 8 = .ok (.if_icmp .gt 7, 3) := by decide +kernel
theorem dX2_hasRoomFor_11 : decode cX2_hasRoomFor 11 = .ok (.iconst 1, 1) := by decide +kernel
theorem dX2_hasRoomFor_12 : decode cX2_hasRoomFor 12 = .ok (.goto 4, 3) := by decide +kernel
theorem dX2_hasRoomFor_15 : decode cX2_hasRoomFor 15 = .ok (.iconst 0, 1) := by decide +kernel
theorem dX2_hasRoomFor_16 : decode cX2_hasRoomFor 16 = .ok (.ireturn, 1) := by decide +kernel
theorem dX2_makerAt_0 : decode cX2_makerAt 0 = .ok (.iload_n 1, 1) := by decide +kernel
theorem dX2_makerAt_1 : decode cX2_makerAt 1 = .ok (.ifCond .lt 20, 3) := by decide +kernel
theorem dX2_makerAt_4 : decode cX2_makerAt 4 = .ok (.iload_n 1, 1) := by decide +kernel
theorem dX2_makerAt_5 : decode cX2_makerAt 5 = .ok (.aload_n 0, 1) := by decide +kernel
theorem dX2_makerAt_6 : decode cX2_makerAt 6 = .ok (.getfield 21, 3) := by decide +kernel
theorem dX2_makerAt_9 : decode cX2_makerAt 9 = .ok (.if_icmp .ge 12, 3) := by decide +kernel
theorem dX2_makerAt_12 : decode cX2_makerAt 12 = .ok (.aload_n 0, 1) := by decide +kernel
theorem dX2_makerAt_13 : decode cX2_makerAt 13 = .ok (.getfield 9, 3) := by decide +kernel
theorem dX2_makerAt_16 : decode cX2_makerAt 16 = .ok (.iload_n 1, 1) := by decide +kernel
theorem dX2_makerAt_17 : decode cX2_makerAt 17 = .ok (.iaload, 1) := by decide +kernel
theorem dX2_makerAt_18 : decode cX2_makerAt 18 = .ok (.goto 4, 3) := by decide +kernel
theorem dX2_makerAt_21 : decode cX2_makerAt 21 = .ok (.iconst (-1), 1) := by decide +kernel
theorem dX2_makerAt_22 : decode cX2_makerAt 22 = .ok (.ireturn, 1) := by decide +kernel
theorem dX2_put_0 : decode cX2_put 0 = .ok (.iconst 0, 1) := by decide +kernel
theorem dX2_put_1 : decode cX2_put 1 = .ok (.istore_n 3, 1) := by decide +kernel
theorem dX2_put_2 : decode cX2_put 2 = .ok (.iload_n 3, 1) := by decide +kernel
theorem dX2_put_3 : decode cX2_put 3 = .ok (.iload_n 2, 1) := by decide +kernel
theorem dX2_put_4 : decode cX2_put 4 = .ok (.if_icmp .ge 38, 3) := by decide +kernel
theorem dX2_put_7 : decode cX2_put 7 = .ok (.aload_n 0, 1) := by decide +kernel
theorem dX2_put_8 : decode cX2_put 8 = .ok (.getfield 21, 3) := by decide +kernel
theorem dX2_put_11 : decode cX2_put 11 = .ok (.bipush 20, 2) := by decide +kernel
theorem dX2_put_13 : decode cX2_put 13 = .ok (.if_icmp .ge 29, 3) := by decide +kernel
theorem dX2_put_16 : decode cX2_put 16 = .ok (.aload_n 0, 1) := by decide +kernel
theorem dX2_put_17 : decode cX2_put 17 = .ok (.getfield 9, 3) := by decide +kernel
theorem dX2_put_20 : decode cX2_put 20 = .ok (.aload_n 0, 1) := by decide +kernel
theorem dX2_put_21 : decode cX2_put 21 = .ok (.getfield 21, 3) := by decide +kernel
theorem dX2_put_24 : decode cX2_put 24 = .ok (.iload_n 1, 1) := by decide +kernel
theorem dX2_put_25 : decode cX2_put 25 = .ok (.iastore, 1) := by decide +kernel
theorem dX2_put_26 : decode cX2_put 26 = .ok (.aload_n 0, 1) := by decide +kernel
theorem dX2_put_27 : decode cX2_put 27 = .ok (.dup, 1) := by decide +kernel
theorem dX2_put_28 : decode cX2_put 28 = .ok (.getfield 21, 3) := by decide +kernel
theorem dX2_put_31 : decode cX2_put 31 = .ok (.iconst 1, 1) := by decide +kernel
theorem dX2_put_32 : decode cX2_put 32 = .ok (.iadd, 1) := by decide +kernel
theorem dX2_put_33 : decode cX2_put 33 = .ok (.putfield 21, 3) := by decide +kernel
theorem dX2_put_36 : decode cX2_put 36 = .ok (.iinc 3 1, 3) := by decide +kernel
theorem dX2_put_39 : decode cX2_put 39 = .ok (.goto (-37), 3) := by decide +kernel
theorem dX2_put_42 : decode cX2_put 42 = .ok (.return_, 1) := by decide +kernel
theorem dX2_giveEldest_0 : decode cX2_giveEldest 0 = .ok (.iconst 0, 1) := by decide +kernel
theorem dX2_giveEldest_1 : decode cX2_giveEldest 1 = .ok (.istore_n 3, 1) := by decide +kernel
theorem dX2_giveEldest_2 : decode cX2_giveEldest 2 = .ok (.iload_n 3, 1) := by decide +kernel
theorem dX2_giveEldest_3 : decode cX2_giveEldest 3 = .ok (.iload_n 2, 1) := by decide +kernel
theorem dX2_giveEldest_4 : decode cX2_giveEldest 4 = .ok (.if_icmp .ge 28, 3) := by decide +kernel
theorem dX2_giveEldest_7 : decode cX2_giveEldest 7 = .ok (.iload_n 3, 1) := by decide +kernel
theorem dX2_giveEldest_8 : decode cX2_giveEldest 8 = .ok (.aload_n 0, 1) := by decide +kernel
theorem dX2_giveEldest_9 : decode cX2_giveEldest 9 = .ok (.getfield 21, 3) := by decide +kernel
theorem dX2_giveEldest_12 : decode cX2_giveEldest 12 = .ok (.if_icmp .ge 20, 3) := by decide +kernel
theorem dX2_giveEldest_15 : decode cX2_giveEldest 15 = .ok (.aload_n 1, 1) := by decide +kernel
theorem dX2_giveEldest_16 : decode cX2_giveEldest 16 = .ok (.aload_n 0, 1) := by decide +kernel
theorem dX2_giveEldest_17 : decode cX2_giveEldest 17 = .ok (.getfield 9, 3) := by decide +kernel
theorem dX2_giveEldest_20 : decode cX2_giveEldest 20 = .ok (.iload_n 3, 1) := by decide +kernel
theorem dX2_giveEldest_21 : decode cX2_giveEldest 21 = .ok (.iaload, 1) := by decide +kernel
theorem dX2_giveEldest_22 : decode cX2_giveEldest 22 = .ok (.iconst 1, 1) := by decide +kernel
theorem dX2_giveEldest_23 : decode cX2_giveEldest 23 = .ok (.invokevirtual 25, 3) := by decide +kernel
theorem dX2_giveEldest_26 : decode cX2_giveEldest 26 = .ok (.iinc 3 1, 3) := by decide +kernel
theorem dX2_giveEldest_29 : decode cX2_giveEldest 29 = .ok (.goto (-27), 3) := by decide +kernel
theorem dX2_giveEldest_32 : decode cX2_giveEldest 32 = .ok (.aload_n 0, 1) := by decide +kernel
theorem dX2_giveEldest_33 : decode cX2_giveEldest 33 = .ok (.iload_n 2, 1) := by decide +kernel
theorem dX2_giveEldest_34 : decode cX2_giveEldest 34 = .ok (.invokevirtual 29, 3) := by decide +kernel
theorem dX2_giveEldest_37 : decode cX2_giveEldest 37 = .ok (.return_, 1) := by decide +kernel
theorem dX2_dropEldest_0 : decode cX2_dropEldest 0 = .ok (.iload_n 1, 1) := by decide +kernel
theorem dX2_dropEldest_1 : decode cX2_dropEldest 1 = .ok (.ifCond .lt 11, 3) := by decide +kernel
theorem dX2_dropEldest_4 : decode cX2_dropEldest 4 = .ok (.iload_n 1, 1) := by decide +kernel
theorem dX2_dropEldest_5 : decode cX2_dropEldest 5 = .ok (.aload_n 0, 1) := by decide +kernel
theorem dX2_dropEldest_6 : decode cX2_dropEldest 6 = .ok (.getfield 21, 3) := by decide +kernel
theorem dX2_dropEldest_9 : decode cX2_dropEldest 9 = .ok (.if_icmp .le 4, 3) := by decide +kernel
theorem dX2_dropEldest_12 : decode cX2_dropEldest 12 = .ok (.return_, 1) := by decide +kernel
theorem dX2_dropEldest_13 : decode cX2_dropEldest 13 = .ok (.aload_n 0, 1) := by decide +kernel
theorem dX2_dropEldest_14 : decode cX2_dropEldest 14 = .ok (.getfield 9, 3) := by decide +kernel
theorem dX2_dropEldest_17 : decode cX2_dropEldest 17 = .ok (.iload_n 1, 1) := by decide +kernel
theorem dX2_dropEldest_18 : decode cX2_dropEldest 18 = .ok (.aload_n 0, 1) := by decide +kernel
theorem dX2_dropEldest_19 : decode cX2_dropEldest 19 = .ok (.getfield 9, 3) := by decide +kernel
theorem dX2_dropEldest_22 : decode cX2_dropEldest 22 = .ok (.iconst 0, 1) := by decide +kernel
theorem dX2_dropEldest_23 : decode cX2_dropEldest 23 = .ok (.aload_n 0, 1) := by decide +kernel
theorem dX2_dropEldest_24 : decode cX2_dropEldest 24 = .ok (.getfield 21, 3) := by decide +kernel
theorem dX2_dropEldest_27 : decode cX2_dropEldest 27 = .ok (.iload_n 1, 1) := by decide +kernel
theorem dX2_dropEldest_28 : decode cX2_dropEldest 28 = .ok (.isub, 1) := by decide +kernel
theorem dX2_dropEldest_29 : decode cX2_dropEldest 29 = .ok (.invokestatic 15, 3) := by decide +kernel
theorem dX2_dropEldest_32 : decode cX2_dropEldest 32 = .ok (.aload_n 0, 1) := by decide +kernel
theorem dX2_dropEldest_33 : decode cX2_dropEldest 33 = .ok (.dup, 1) := by decide +kernel
theorem dX2_dropEldest_34 : decode cX2_dropEldest 34 = .ok (.getfield 21, 3) := by decide +kernel
theorem dX2_dropEldest_37 : decode cX2_dropEldest 37 = .ok (.iload_n 1, 1) := by decide +kernel
theorem dX2_dropEldest_38 : decode cX2_dropEldest 38 = .ok (.isub, 1) := by decide +kernel
theorem dX2_dropEldest_39 : decode cX2_dropEldest 39 = .ok (.putfield 21, 3) := by decide +kernel
theorem dX2_dropEldest_42 : decode cX2_dropEldest 42 = .ok (.return_, 1) := by decide +kernel
theorem dX2_piecesBy_0 : decode cX2_piecesBy 0 = .ok (.iconst 0, 1) := by decide +kernel
theorem dX2_piecesBy_1 : decode cX2_piecesBy 1 = .ok (.istore_n 2, 1) := by decide +kernel
theorem dX2_piecesBy_2 : decode cX2_piecesBy 2 = .ok (.iconst 0, 1) := by decide +kernel
theorem dX2_piecesBy_3 : decode cX2_piecesBy 3 = .ok (.istore_n 3, 1) := by decide +kernel
theorem dX2_piecesBy_4 : decode cX2_piecesBy 4 = .ok (.iload_n 3, 1) := by decide +kernel
theorem dX2_piecesBy_5 : decode cX2_piecesBy 5 = .ok (.aload_n 0, 1) := by decide +kernel
theorem dX2_piecesBy_6 : decode cX2_piecesBy 6 = .ok (.getfield 21, 3) := by decide +kernel
theorem dX2_piecesBy_9 : decode cX2_piecesBy 9 = .ok (.if_icmp .ge 22, 3) := by decide +kernel
theorem dX2_piecesBy_12 : decode cX2_piecesBy 12 = .ok (.aload_n 0, 1) := by decide +kernel
theorem dX2_piecesBy_13 : decode cX2_piecesBy 13 = .ok (.getfield 9, 3) := by decide +kernel
theorem dX2_piecesBy_16 : decode cX2_piecesBy 16 = .ok (.iload_n 3, 1) := by decide +kernel
theorem dX2_piecesBy_17 : decode cX2_piecesBy 17 = .ok (.iaload, 1) := by decide +kernel
theorem dX2_piecesBy_18 : decode cX2_piecesBy 18 = .ok (.iload_n 1, 1) := by decide +kernel
theorem dX2_piecesBy_19 : decode cX2_piecesBy 19 = .ok (.if_icmp .ne 6, 3) := by decide +kernel
theorem dX2_piecesBy_22 : decode cX2_piecesBy 22 = .ok (.iinc 2 1, 3) := by decide +kernel
theorem dX2_piecesBy_25 : decode cX2_piecesBy 25 = .ok (.iinc 3 1, 3) := by decide +kernel
theorem dX2_piecesBy_28 : decode cX2_piecesBy 28 = .ok (.goto (-24), 3) := by decide +kernel
theorem dX2_piecesBy_31 : decode cX2_piecesBy 31 = .ok (.iload_n 2, 1) := by decide +kernel
theorem dX2_piecesBy_32 : decode cX2_piecesBy 32 = .ok (.ireturn, 1) := by decide +kernel
theorem dX2_differentMakers_0 : decode cX2_differentMakers 0 = .ok (.aload_n 0, 1) := by decide +kernel
theorem dX2_differentMakers_1 : decode cX2_differentMakers 1 = .ok (.aload_n 0, 1) := by decide +kernel
theorem dX2_differentMakers_2 : decode cX2_differentMakers 2 = .ok (.getfield 21, 3) := by decide +kernel
theorem dX2_differentMakers_5 : decode cX2_differentMakers 5 = .ok (.iconst (-1), 1) := by decide +kernel
theorem dX2_differentMakers_6 : decode cX2_differentMakers 6 = .ok (.invokevirtual 33, 3) := by decide +kernel
theorem dX2_differentMakers_9 : decode cX2_differentMakers 9 = .ok (.invokestatic 37, 3) := by decide +kernel
theorem dX2_differentMakers_12 : decode cX2_differentMakers 12 = .ok (.ireturn, 1) := by decide +kernel
theorem dX2_foreignPieces_0 : decode cX2_foreignPieces 0 = .ok (.iconst 0, 1) := by decide +kernel
theorem dX2_foreignPieces_1 : decode cX2_foreignPieces 1 = .ok (.istore_n 3, 1) := by decide +kernel
theorem dX2_foreignPieces_2 : decode cX2_foreignPieces 2 = .ok (.iconst 0, 1) := by decide +kernel
theorem dX2_foreignPieces_3 : decode cX2_foreignPieces 3 = .ok (.istore 4, 2) := by decide +kernel
theorem dX2_foreignPieces_5 : decode cX2_foreignPieces 5 = .ok (.iload 4, 2) := by decide +kernel
theorem dX2_foreignPieces_7 : decode cX2_foreignPieces 7 = .ok (.iload_n 1, 1) := by decide +kernel
theorem dX2_foreignPieces_8 : decode cX2_foreignPieces 8 = .ok (.if_icmp .ge 32, 3) := by decide +kernel
theorem dX2_foreignPieces_11 : decode cX2_foreignPieces 11 = .ok (.iload 4, 2) := by decide +kernel
theorem dX2_foreignPieces_13 : decode cX2_foreignPieces 13 = .ok (.aload_n 0, 1) := by decide +kernel
theorem dX2_foreignPieces_14 : decode cX2_foreignPieces 14 = .ok (.getfield 21, 3) := by decide +kernel
theorem dX2_foreignPieces_17 : decode cX2_foreignPieces 17 = .ok (.if_icmp .ge 23, 3) := by decide +kernel
theorem dX2_foreignPieces_20 : decode cX2_foreignPieces 20 = .ok (.aload_n 0, 1) := by decide +kernel
theorem dX2_foreignPieces_21 : decode cX2_foreignPieces 21 = .ok (.getfield 9, 3) := by decide +kernel
theorem dX2_foreignPieces_24 : decode cX2_foreignPieces 24 = .ok (.iload 4, 2) := by decide +kernel
theorem dX2_foreignPieces_26 : decode cX2_foreignPieces 26 = .ok (.iaload, 1) := by decide +kernel
theorem dX2_foreignPieces_27 : decode cX2_foreignPieces 27 = .ok (.iload_n 2, 1) := by decide +kernel
theorem dX2_foreignPieces_28 : decode cX2_foreignPieces 28 = .ok (.if_icmp .eq 6, 3) := by decide +kernel
theorem dX2_foreignPieces_31 : decode cX2_foreignPieces 31 = .ok (.iinc 3 1, 3) := by decide +kernel
theorem dX2_foreignPieces_34 : decode cX2_foreignPieces 34 = .ok (.iinc 4 1, 3) := by decide +kernel
theorem dX2_foreignPieces_37 : decode cX2_foreignPieces 37 = .ok (.goto (-32), 3) := by decide +kernel
theorem dX2_foreignPieces_40 : decode cX2_foreignPieces 40 = .ok (.iload_n 3, 1) := by decide +kernel
theorem dX2_foreignPieces_41 : decode cX2_foreignPieces 41 = .ok (.ireturn, 1) := by decide +kernel
theorem dX2_makersButOne_0 : decode cX2_makersButOne 0 = .ok (.iconst 0, 1) := by decide +kernel
theorem dX2_makersButOne_1 : decode cX2_makersButOne 1 = .ok (.istore_n 3, 1) := by decide +kernel
theorem dX2_makersButOne_2 : decode cX2_makersButOne 2 = .ok (.iconst 0, 1) := by decide +kernel
theorem dX2_makersButOne_3 : decode cX2_makersButOne 3 = .ok (.istore 4, 2) := by decide +kernel
theorem dX2_makersButOne_5 : decode cX2_makersButOne 5 = .ok (.iload 4, 2) := by decide +kernel
theorem dX2_makersButOne_7 : decode cX2_makersButOne 7 = .ok (.iload_n 1, 1) := by decide +kernel
theorem dX2_makersButOne_8 : decode cX2_makersButOne 8 = .ok (.if_icmp .ge 41, 3) := by decide +kernel
theorem dX2_makersButOne_11 : decode cX2_makersButOne 11 = .ok (.iload 4, 2) := by decide +kernel
theorem dX2_makersButOne_13 : decode cX2_makersButOne 13 = .ok (.aload_n 0, 1) := by decide +kernel
theorem dX2_makersButOne_14 : decode cX2_makersButOne 14 = .ok (.getfield 21, 3) := by decide +kernel
theorem dX2_makersButOne_17 : decode cX2_makersButOne 17 = .ok (.if_icmp .ge 32, 3) := by decide +kernel
theorem dX2_makersButOne_20 : decode cX2_makersButOne 20 = .ok (.aload_n 0, 1) := by decide +kernel
theorem dX2_makersButOne_21 : decode cX2_makersButOne 21 = .ok (.getfield 9, 3) := by decide +kernel
theorem dX2_makersButOne_24 : decode cX2_makersButOne 24 = .ok (.iload 4, 2) := by decide +kernel
theorem dX2_makersButOne_26 : decode cX2_makersButOne 26 = .ok (.iaload, 1) := by decide +kernel
theorem dX2_makersButOne_27 : decode cX2_makersButOne 27 = .ok (.iload_n 2, 1) := by decide +kernel
theorem dX2_makersButOne_28 : decode cX2_makersButOne 28 = .ok (.if_icmp .eq 15, 3) := by decide +kernel
theorem dX2_makersButOne_31 : decode cX2_makersButOne 31 = .ok (.iload_n 3, 1) := by decide +kernel
theorem dX2_makersButOne_32 : decode cX2_makersButOne 32 = .ok (.iconst 1, 1) := by decide +kernel
theorem dX2_makersButOne_33 : decode cX2_makersButOne 33 = .ok (.aload_n 0, 1) := by decide +kernel
theorem dX2_makersButOne_34 : decode cX2_makersButOne 34 = .ok (.getfield 9, 3) := by decide +kernel
theorem dX2_makersButOne_37 : decode cX2_makersButOne 37 = .ok (.iload 4, 2) := by decide +kernel
theorem dX2_makersButOne_39 : decode cX2_makersButOne 39 = .ok (.iaload, 1) := by decide +kernel
theorem dX2_makersButOne_40 : decode cX2_makersButOne 40 = .ok (.ishl, 1) := by decide +kernel
theorem dX2_makersButOne_41 : decode cX2_makersButOne 41 = .ok (.ior, 1) := by decide +kernel
theorem dX2_makersButOne_42 : decode cX2_makersButOne 42 = .ok (.istore_n 3, 1) := by decide +kernel
theorem dX2_makersButOne_43 : decode cX2_makersButOne 43 = .ok (.iinc 4 1, 3) := by decide +kernel
theorem dX2_makersButOne_46 : decode cX2_makersButOne 46 = .ok (.goto (-41), 3) := by decide +kernel
theorem dX2_makersButOne_49 : decode cX2_makersButOne 49 = .ok (.iload_n 3, 1) := by decide +kernel
theorem dX2_makersButOne_50 : decode cX2_makersButOne 50 = .ok (.ireturn, 1) := by decide +kernel
theorem dX5_init_0 : decode cX5_init 0 = .ok (.aload_n 0, 1) := by decide +kernel
theorem dX5_init_1 : decode cX5_init 1 = .ok (.invokespecial 3, 3) := by decide +kernel
theorem dX5_init_4 : decode cX5_init 4 = .ok (.aload_n 0, 1) := by decide +kernel
theorem dX5_init_5 : decode cX5_init 5 = .ok (.iload_n 1, 1) := by decide +kernel
theorem dX5_init_6 : decode cX5_init 6 = .ok (.ifCond .le 7, 3) := by decide +kernel
theorem dX5_init_9 : decode cX5_init 9 = .ok (.iload_n 1, 1) := by decide +kernel
theorem dX5_init_10 : decode cX5_init 10 = .ok (.goto 4, 3) := by decide +kernel
theorem dX5_init_13 : decode cX5_init 13 = .ok (.iconst 0, 1) := by decide +kernel
theorem dX5_init_14 : decode cX5_init 14 = .ok (.newarray .byte, 2) := by decide +kernel
theorem dX5_init_16 : decode cX5_init 16 = .ok (.putfield 9, 3) := by decide +kernel
theorem dX5_init_19 : decode cX5_init 19 = .ok (.aload_n 0, 1) := by decide +kernel
theorem dX5_init_20 : decode cX5_init 20 = .ok (.iconst 0, 1) := by decide +kernel
theorem dX5_init_21 : decode cX5_init 21 = .ok (.putfield 15, 3) := by decide +kernel
theorem dX5_init_24 : decode cX5_init 24 = .ok (.return_, 1) := by decide +kernel
theorem dX5_append_0 : decode cX5_append 0 = .ok (.aload_n 0, 1) := by decide +kernel
theorem dX5_append_1 : decode cX5_append 1 = .ok (.getfield 15, 3) := by decide +kernel
theorem dX5_append_4 : decode cX5_append 4 = .ok (.aload_n 0, 1) := by decide +kernel
theorem dX5_append_5 : decode cX5_append 5 = .ok (.getfield 9, 3) := by decide +kernel
theorem dX5_append_8 : decode cX5_append 8 = .ok (.arraylength, 1) := by decide +kernel
theorem dX5_append_9 : decode cX5_append 9 = .ok (.if_icmp .lt 4, 3) := by decide +kernel
theorem dX5_append_12 : decode cX5_append 12 = .ok (.return_, 1) := by decide +kernel
theorem dX5_append_13 : decode cX5_append 13 = .ok (.aload_n 0, 1) := by decide +kernel
theorem dX5_append_14 : decode cX5_append 14 = .ok (.getfield 9, 3) := by decide +kernel
theorem dX5_append_17 : decode cX5_append 17 = .ok (.aload_n 0, 1) := by decide +kernel
theorem dX5_append_18 : decode cX5_append 18 = .ok (.getfield 15, 3) := by decide +kernel
theorem dX5_append_21 : decode cX5_append 21 = .ok (.iload_n 1, 1) := by decide +kernel
theorem dX5_append_22 : decode cX5_append 22 = .ok (.i2b, 1) := by decide +kernel
theorem dX5_append_23 : decode cX5_append 23 = .ok (.bastore, 1) := by decide +kernel
theorem dX5_append_24 : decode cX5_append 24 = .ok (.aload_n 0, 1) := by decide +kernel
theorem dX5_append_25 : decode cX5_append 25 = .ok (.dup, 1) := by decide +kernel
theorem dX5_append_26 : decode cX5_append 26 = .ok (.getfield 15, 3) := by decide +kernel
theorem dX5_append_29 : decode cX5_append 29 = .ok (.iconst 1, 1) := by decide +kernel
theorem dX5_append_30 : decode cX5_append 30 = .ok (.iadd, 1) := by decide +kernel
theorem dX5_append_31 : decode cX5_append 31 = .ok (.putfield 15, 3) := by decide +kernel
theorem dX5_append_34 : decode cX5_append 34 = .ok (.return_, 1) := by decide +kernel
theorem dX5_cut_0 : decode cX5_cut 0 = .ok (.iload_n 1, 1) := by decide +kernel
theorem dX5_cut_1 : decode cX5_cut 1 = .ok (.ifCond .lt 16, 3) := by decide +kernel
theorem dX5_cut_4 : decode cX5_cut 4 = .ok (.iload_n 1, 1) := by decide +kernel
theorem dX5_cut_5 : decode cX5_cut 5 = .ok (.aload_n 0, 1) := by decide +kernel
theorem dX5_cut_6 : decode cX5_cut 6 = .ok (.getfield 15, 3) := by decide +kernel
theorem dX5_cut_9 : decode cX5_cut 9 = .ok (.if_icmp .ge 8, 3) := by decide +kernel
theorem dX5_cut_12 : decode cX5_cut 12 = .ok (.aload_n 0, 1) := by decide +kernel
theorem dX5_cut_13 : decode cX5_cut 13 = .ok (.iload_n 1, 1) := by decide +kernel
theorem dX5_cut_14 : decode cX5_cut 14 = .ok (.putfield 15, 3) := by decide +kernel
theorem dX5_cut_17 : decode cX5_cut 17 = .ok (.return_, 1) := by decide +kernel
theorem dX5_at_0 : decode cX5_at 0 = .ok (.iload_n 1, 1) := by decide +kernel
theorem dX5_at_1 : decode cX5_at 1 = .ok (.ifCond .lt 24, 3) := by decide +kernel
theorem dX5_at_4 : decode cX5_at 4 = .ok (.iload_n 1, 1) := by decide +kernel
theorem dX5_at_5 : decode cX5_at 5 = .ok (.aload_n 0, 1) := by decide +kernel
theorem dX5_at_6 : decode cX5_at 6 = .ok (.getfield 15, 3) := by decide +kernel
theorem dX5_at_9 : decode cX5_at 9 = .ok (.if_icmp .ge 16, 3) := by decide +kernel
theorem dX5_at_12 : decode cX5_at 12 = .ok (.aload_n 0, 1) := by decide +kernel
theorem dX5_at_13 : decode cX5_at 13 = .ok (.getfield 9, 3) := by decide +kernel
theorem dX5_at_16 : decode cX5_at 16 = .ok (.iload_n 1, 1) := by decide +kernel
theorem dX5_at_17 : decode cX5_at 17 = .ok (.baload, 1) := by decide +kernel
theorem dX5_at_18 : decode cX5_at 18 = .ok (.sipush 255, 3) := by decide +kernel
theorem dX5_at_21 : decode cX5_at 21 = .ok (.iand, 1) := by decide +kernel
theorem dX5_at_22 : decode cX5_at 22 = .ok (.goto 4, 3) := by decide +kernel
theorem dX5_at_25 : decode cX5_at 25 = .ok (.iconst (-1), 1) := by decide +kernel
theorem dX5_at_26 : decode cX5_at 26 = .ok (.ireturn, 1) := by decide +kernel
theorem dX7_init_0 : decode cX7_init 0 = .ok (.aload_n 0, 1) := by decide +kernel
theorem dX7_init_1 : decode cX7_init 1 = .ok (.invokespecial 3, 3) := by decide +kernel
theorem dX7_init_4 : decode cX7_init 4 = .ok (.aload_n 0, 1) := by decide +kernel
theorem dX7_init_5 : decode cX7_init 5 = .ok (.bipush 6, 2) := by decide +kernel
theorem dX7_init_7 : decode cX7_init 7 = .ok (.anewarray 9, 3) := by decide +kernel
theorem dX7_init_10 : decode cX7_init 10 = .ok (.putfield 11, 3) := by decide +kernel
theorem dX7_init_13 : decode cX7_init 13 = .ok (.iconst 0, 1) := by decide +kernel
theorem dX7_init_14 : decode cX7_init 14 = .ok (.istore_n 1, 1) := by decide +kernel
theorem dX7_init_15 : decode cX7_init 15 = .ok (.iload_n 1, 1) := by decide +kernel
theorem dX7_init_16 : decode cX7_init 16 = .ok (.bipush 6, 2) := by decide +kernel
theorem dX7_init_18 : decode cX7_init 18 = .ok (.if_icmp .ge 22, 3) := by decide +kernel
theorem dX7_init_21 : decode cX7_init 21 = .ok (.aload_n 0, 1) := by decide +kernel
theorem dX7_init_22 : decode cX7_init 22 = .ok (.getfield 11, 3) := by decide +kernel
theorem dX7_init_25 : decode cX7_init 25 = .ok (.iload_n 1, 1) := by decide +kernel
theorem dX7_init_26 : decode cX7_init 26 = .ok (.new 9, 3) := by decide +kernel
theorem dX7_init_29 : decode cX7_init 29 = .ok (.dup, 1) := by decide +kernel
theorem dX7_init_30 : decode cX7_init 30 = .ok (.invokespecial 17, 3) := by decide +kernel
theorem dX7_init_33 : decode cX7_init 33 = .ok (.aastore, 1) := by decide +kernel
theorem dX7_init_34 : decode cX7_init 34 = .ok (.iinc 1 1, 3) := by decide +kernel
theorem dX7_init_37 : decode cX7_init 37 = .ok (.goto (-22), 3) := by decide +kernel
theorem dX7_init_40 : decode cX7_init 40 = .ok (.return_, 1) := by decide +kernel
theorem dX7_remember_0 : decode cX7_remember 0 = .ok (.aload_n 0, 1) := by decide +kernel
theorem dX7_remember_1 : decode cX7_remember 1 = .ok (.getfield 11, 3) := by decide +kernel
theorem dX7_remember_4 : decode cX7_remember 4 = .ok (.aload_n 0, 1) := by decide +kernel
theorem dX7_remember_5 : decode cX7_remember 5 = .ok (.getfield 18, 3) := by decide +kernel
theorem dX7_remember_8 : decode cX7_remember 8 = .ok (.aaload, 1) := by decide +kernel
theorem dX7_remember_9 : decode cX7_remember 9 = .ok (.aload_n 1, 1) := by decide +kernel
theorem dX7_remember_10 : decode cX7_remember 10 = .ok (.invokevirtual 22, 3) := by decide +kernel
theorem dX7_remember_13 : decode cX7_remember 13 = .ok (.aload_n 0, 1) := by decide +kernel
theorem dX7_remember_14 : decode cX7_remember 14 = .ok (.aload_n 0, 1) := by decide +kernel
theorem dX7_remember_15 : decode cX7_remember 15 = .ok (.getfield 18, 3) := by decide +kernel
theorem dX7_remember_18 : decode cX7_remember 18 = .ok (.iconst 1, 1) := by decide +kernel
theorem dX7_remember_19 : decode cX7_remember 19 = .ok (.iadd, 1) := by decide +kernel
theorem dX7_remember_20 : decode cX7_remember 20 = .ok (.bipush 6, 2) := by decide +kernel
theorem dX7_remember_22 : decode cX7_remember 22 = .ok (.irem, 1) := by decide +kernel
theorem dX7_remember_23 : decode cX7_remember 23 = .ok (.putfield 18, 3) := by decide +kernel
theorem dX7_remember_26 : decode cX7_remember 26 = .ok (.aload_n 0, 1) := by decide +kernel
theorem dX7_remember_27 : decode cX7_remember 27 = .ok (.getfield 26, 3) := by decide +kernel
theorem dX7_remember_30 : decode cX7_remember 30 = .ok (.bipush 6, 2) := by decide +kernel
theorem dX7_remember_32 : decode cX7_remember 32 = .ok (.if_icmp .ge 13, 3) := by decide +kernel
theorem dX7_remember_35 : decode cX7_remember 35 = .ok (.aload_n 0, 1) := by decide +kernel
theorem dX7_remember_36 : decode cX7_remember 36 = .ok (.dup, 1) := by decide +kernel
theorem dX7_remember_37 : decode cX7_remember 37 = .ok (.getfield 26, 3) := by decide +kernel
theorem dX7_remember_40 : decode cX7_remember 40 = .ok (.iconst 1, 1) := by decide +kernel
theorem dX7_remember_41 : decode cX7_remember 41 = .ok (.iadd, 1) := by decide +kernel
theorem dX7_remember_42 : decode cX7_remember 42 = .ok (.putfield 26, 3) := by decide +kernel
theorem dX7_remember_45 : decode cX7_remember 45 = .ok (.return_, 1) := by decide +kernel
theorem dX7_bringBack_0 : decode cX7_bringBack 0 = .ok (.aload_n 0, 1) := by decide +kernel
theorem dX7_bringBack_1 : decode cX7_bringBack 1 = .ok (.getfield 26, 3) := by decide +kernel
theorem dX7_bringBack_4 : decode cX7_bringBack 4 = .ok (.ifCond .ne 4, 3) := by decide +kernel
theorem dX7_bringBack_7 : decode cX7_bringBack 7 = .ok (.return_, 1) := by decide +kernel
theorem dX7_bringBack_8 : decode cX7_bringBack 8 = .ok (.aload_n 0, 1) := by decide +kernel
theorem dX7_bringBack_9 : decode cX7_bringBack 9 = .ok (.aload_n 0, 1) := by decide +kernel
theorem dX7_bringBack_10 : decode cX7_bringBack 10 = .ok (.getfield 18, 3) := by decide +kernel
theorem dX7_bringBack_13 : decode cX7_bringBack 13 = .ok (.bipush 6, 2) := by decide +kernel
theorem dX7_bringBack_15 : decode cX7_bringBack 15 = .ok (.iadd, 1) := by decide +kernel
theorem dX7_bringBack_16 : decode cX7_bringBack 16 = .ok (.iconst 1, 1) := by decide +kernel
theorem dX7_bringBack_17 : decode cX7_bringBack 17 = .ok (.isub, 1) := by decide +kernel
theorem dX7_bringBack_18 : decode cX7_bringBack 18 = .ok (.bipush 6, 2) := by decide +kernel
theorem dX7_bringBack_20 : decode cX7_bringBack 20 = .ok (.irem, 1) := by decide +kernel
theorem dX7_bringBack_21 : decode cX7_bringBack 21 = .ok (.putfield 18, 3) := by decide +kernel
theorem dX7_bringBack_24 : decode cX7_bringBack 24 = .ok (.aload_n 0, 1) := by decide +kernel
theorem dX7_bringBack_25 : decode cX7_bringBack 25 = .ok (.dup, 1) := by decide +kernel
theorem dX7_bringBack_26 : decode cX7_bringBack 26 = .ok (.getfield 26, 3) := by decide +kernel
theorem dX7_bringBack_29 : decode cX7_bringBack 29 = .ok (.iconst 1, 1) := by decide +kernel
theorem dX7_bringBack_30 : decode cX7_bringBack 30 = .ok (.isub, 1) := by decide +kernel
theorem dX7_bringBack_31 : decode cX7_bringBack 31 = .ok (.putfield 26, 3) := by decide +kernel
theorem dX7_bringBack_34 : decode cX7_bringBack 34 = .ok (.aload_n 1, 1) := by decide +kernel
theorem dX7_bringBack_35 : decode cX7_bringBack 35 = .ok (.aload_n 0, 1) := by decide +kernel
theorem dX7_bringBack_36 : decode cX7_bringBack 36 = .ok (.getfield 11, 3) := by decide +kernel
theorem dX7_bringBack_39 : decode cX7_bringBack 39 = .ok (.aload_n 0, 1) := by decide +kernel
theorem dX7_bringBack_40 : decode cX7_bringBack 40 = .ok (.getfield 18, 3) := by decide +kernel
theorem dX7_bringBack_43 : decode cX7_bringBack 43 = .ok (.aaload, 1) := by decide +kernel
theorem dX7_bringBack_44 : decode cX7_bringBack 44 = .ok (.invokevirtual 22, 3) := by decide +kernel
theorem dX7_bringBack_47 : decode cX7_bringBack 47 = .ok (.return_, 1) := by decide +kernel
theorem dX7_forgetAll_0 : decode cX7_forgetAll 0 = .ok (.aload_n 0, 1) := by decide +kernel
theorem dX7_forgetAll_1 : decode cX7_forgetAll 1 = .ok (.iconst 0, 1) := by decide +kernel
theorem dX7_forgetAll_2 : decode cX7_forgetAll 2 = .ok (.putfield 26, 3) := by decide +kernel
theorem dX7_forgetAll_5 : decode cX7_forgetAll 5 = .ok (.return_, 1) := by decide +kernel
theorem dJ6_bitCount_0f7a4_0 : decode cJ6_bitCount_0f7a4 0 = .ok (.iload_n 0, 1) := by decide +kernel
theorem dJ6_bitCount_0f7a4_1 : decode cJ6_bitCount_0f7a4 1 = .ok (.iload_n 0, 1) := by decide +kernel
theorem dJ6_bitCount_0f7a4_2 : decode cJ6_bitCount_0f7a4 2 = .ok (.iconst 1, 1) := by decide +kernel
theorem dJ6_bitCount_0f7a4_3 : decode cJ6_bitCount_0f7a4 3 = .ok (.iushr, 1) := by decide +kernel
theorem dJ6_bitCount_0f7a4_4 : decode cJ6_bitCount_0f7a4 4 = .ok (.ldc_w 265, 3) := by decide +kernel
theorem dJ6_bitCount_0f7a4_7 : decode cJ6_bitCount_0f7a4 7 = .ok (.iand, 1) := by decide +kernel
theorem dJ6_bitCount_0f7a4_8 : decode cJ6_bitCount_0f7a4 8 = .ok (.isub, 1) := by decide +kernel
theorem dJ6_bitCount_0f7a4_9 : decode cJ6_bitCount_0f7a4 9 = .ok (.istore_n 0, 1) := by decide +kernel
theorem dJ6_bitCount_0f7a4_10 : decode cJ6_bitCount_0f7a4 10 = .ok (.iload_n 0, 1) := by decide +kernel
theorem dJ6_bitCount_0f7a4_11 : decode cJ6_bitCount_0f7a4 11 = .ok (.ldc_w 266, 3) := by decide +kernel
theorem dJ6_bitCount_0f7a4_14 : decode cJ6_bitCount_0f7a4 14 = .ok (.iand, 1) := by decide +kernel
theorem dJ6_bitCount_0f7a4_15 : decode cJ6_bitCount_0f7a4 15 = .ok (.iload_n 0, 1) := by decide +kernel
theorem dJ6_bitCount_0f7a4_16 : decode cJ6_bitCount_0f7a4 16 = .ok (.iconst 2, 1) := by decide +kernel
theorem dJ6_bitCount_0f7a4_17 : decode cJ6_bitCount_0f7a4 17 = .ok (.iushr, 1) := by decide +kernel
theorem dJ6_bitCount_0f7a4_18 : decode cJ6_bitCount_0f7a4 18 = .ok (.ldc_w 266, 3) := by decide +kernel
theorem dJ6_bitCount_0f7a4_21 : decode cJ6_bitCount_0f7a4 21 = .ok (.iand, 1) := by decide +kernel
theorem dJ6_bitCount_0f7a4_22 : decode cJ6_bitCount_0f7a4 22 = .ok (.iadd, 1) := by decide +kernel
theorem dJ6_bitCount_0f7a4_23 : decode cJ6_bitCount_0f7a4 23 = .ok (.istore_n 0, 1) := by decide +kernel
theorem dJ6_bitCount_0f7a4_24 : decode cJ6_bitCount_0f7a4 24 = .ok (.iload_n 0, 1) := by decide +kernel
theorem dJ6_bitCount_0f7a4_25 : decode cJ6_bitCount_0f7a4 25 = .ok (.iload_n 0, 1) := by decide +kernel
theorem dJ6_bitCount_0f7a4_26 : decode cJ6_bitCount_0f7a4 26 = .ok (.iconst 4, 1) := by decide +kernel
theorem dJ6_bitCount_0f7a4_27 : decode cJ6_bitCount_0f7a4 27 = .ok (.iushr, 1) := by decide +kernel
theorem dJ6_bitCount_0f7a4_28 : decode cJ6_bitCount_0f7a4 28 = .ok (.iadd, 1) := by decide +kernel
theorem dJ6_bitCount_0f7a4_29 : decode cJ6_bitCount_0f7a4 29 = .ok (.ldc_w 267, 3) := by decide +kernel
theorem dJ6_bitCount_0f7a4_32 : decode cJ6_bitCount_0f7a4 32 = .ok (.iand, 1) := by decide +kernel
theorem dJ6_bitCount_0f7a4_33 : decode cJ6_bitCount_0f7a4 33 = .ok (.istore_n 0, 1) := by decide +kernel
theorem dJ6_bitCount_0f7a4_34 : decode cJ6_bitCount_0f7a4 34 = .ok (.iload_n 0, 1) := by decide +kernel
theorem dJ6_bitCount_0f7a4_35 : decode cJ6_bitCount_0f7a4 35 = .ok (.iload_n 0, 1) := by decide +kernel
theorem dJ6_bitCount_0f7a4_36 : decode cJ6_bitCount_0f7a4 36 = .ok (.bipush 8, 2) := by decide +kernel
theorem dJ6_bitCount_0f7a4_38 : decode cJ6_bitCount_0f7a4 38 = .ok (.iushr, 1) := by decide +kernel
theorem dJ6_bitCount_0f7a4_39 : decode cJ6_bitCount_0f7a4 39 = .ok (.iadd, 1) := by decide +kernel
theorem dJ6_bitCount_0f7a4_40 : decode cJ6_bitCount_0f7a4 40 = .ok (.istore_n 0, 1) := by decide +kernel
theorem dJ6_bitCount_0f7a4_41 : decode cJ6_bitCount_0f7a4 41 = .ok (.iload_n 0, 1) := by decide +kernel
theorem dJ6_bitCount_0f7a4_42 : decode cJ6_bitCount_0f7a4 42 = .ok (.iload_n 0, 1) := by decide +kernel
theorem dJ6_bitCount_0f7a4_43 : decode cJ6_bitCount_0f7a4 43 = .ok (.bipush 16, 2) := by decide +kernel
theorem dJ6_bitCount_0f7a4_45 : decode cJ6_bitCount_0f7a4 45 = .ok (.iushr, 1) := by decide +kernel
theorem dJ6_bitCount_0f7a4_46 : decode cJ6_bitCount_0f7a4 46 = .ok (.iadd, 1) := by decide +kernel
theorem dJ6_bitCount_0f7a4_47 : decode cJ6_bitCount_0f7a4 47 = .ok (.istore_n 0, 1) := by decide +kernel
theorem dJ6_bitCount_0f7a4_48 : decode cJ6_bitCount_0f7a4 48 = .ok (.iload_n 0, 1) := by decide +kernel
theorem dJ6_bitCount_0f7a4_49 : decode cJ6_bitCount_0f7a4 49 = .ok (.bipush 63, 2) := by decide +kernel
theorem dJ6_bitCount_0f7a4_51 : decode cJ6_bitCount_0f7a4 51 = .ok (.iand, 1) := by decide +kernel
theorem dJ6_bitCount_0f7a4_52 : decode cJ6_bitCount_0f7a4 52 = .ok (.ireturn, 1) := by decide +kernel
