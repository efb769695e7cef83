theorem dX9_init_0 : decode cX9_init 0 = .ok (.aload_n 0, 1) := by decide +kernel
theorem dX9_init_1 : decode cX9_init 1 = .ok (.invokespecial 1, 3) := by decide +kernel
theorem dX9_init_4 : decode cX9_init 4 = .ok (.aload_n 0, 1) := by decide +kernel
theorem dX9_init_5 : decode cX9_init 5 = .ok (.sipush 8371, 3) := by decide +kernel
theorem dX9_init_8 : decode cX9_init 8 = .ok (.newarray .int, 2) := by decide +kernel
theorem dX9_init_10 : decode cX9_init 10 = .ok (.putfield 7, 3) := by decide +kernel
theorem dX9_init_13 : decode cX9_init 13 = .ok (.aload_n 0, 1) := by decide +kernel
theorem dX9_init_14 : decode cX9_init 14 = .ok (.iconst 2, 1) := by decide +kernel
theorem dX9_init_15 : decode cX9_init 15 = .ok (.newarray .boolean, 2) := by decide +kernel
theorem dX9_init_17 : decode cX9_init 17 = .ok (.putfield 13, 3) := by decide +kernel
theorem dX9_init_20 : decode cX9_init 20 = .ok (.aload_n 0, 1) := by decide +kernel
theorem dX9_init_21 : decode cX9_init 21 = .ok (.bipush 11, 2) := by decide +kernel
theorem dX9_init_23 : decode cX9_init 23 = .ok (.newarray .int, 2) := by decide +kernel
theorem dX9_init_25 : decode cX9_init 25 = .ok (.putfield 17, 3) := by decide +kernel
theorem dX9_init_28 : decode cX9_init 28 = .ok (.aload_n 0, 1) := by decide +kernel
theorem dX9_init_29 : decode cX9_init 29 = .ok (.sipush 500, 3) := by decide +kernel
theorem dX9_init_32 : decode cX9_init 32 = .ok (.newarray .int, 2) := by decide +kernel
theorem dX9_init_34 : decode cX9_init 34 = .ok (.putfield 20, 3) := by decide +kernel
theorem dX9_init_37 : decode cX9_init 37 = .ok (.aload_n 0, 1) := by decide +kernel
theorem dX9_init_38 : decode cX9_init 38 = .ok (.iconst (-1), 1) := by decide +kernel
theorem dX9_init_39 : decode cX9_init 39 = .ok (.putfield 23, 3) := by decide +kernel
theorem dX9_init_42 : decode cX9_init 42 = .ok (.aload_n 0, 1) := by decide +kernel
theorem dX9_init_43 : decode cX9_init 43 = .ok (.bipush 125, 2) := by decide +kernel
theorem dX9_init_45 : decode cX9_init 45 = .ok (.newarray .int, 2) := by decide +kernel
theorem dX9_init_47 : decode cX9_init 47 = .ok (.putfield 27, 3) := by decide +kernel
theorem dX9_init_50 : decode cX9_init 50 = .ok (.aload_n 0, 1) := by decide +kernel
theorem dX9_init_51 : decode cX9_init 51 = .ok (.sipush 240, 3) := by decide +kernel
theorem dX9_init_54 : decode cX9_init 54 = .ok (.newarray .int, 2) := by decide +kernel
theorem dX9_init_56 : decode cX9_init 56 = .ok (.putfield 30, 3) := by decide +kernel
theorem dX9_init_59 : decode cX9_init 59 = .ok (.aload_n 0, 1) := by decide +kernel
theorem dX9_init_60 : decode cX9_init 60 = .ok (.iconst 2, 1) := by decide +kernel
theorem dX9_init_61 : decode cX9_init 61 = .ok (.bipush 30, 2) := by decide +kernel
theorem dX9_init_63 : decode cX9_init 63 = .ok (.invokevirtual 33, 3) := by decide +kernel
theorem dX9_init_66 : decode cX9_init 66 = .ok (.aload_n 0, 1) := by decide +kernel
theorem dX9_init_67 : decode cX9_init 67 = .ok (.iconst 3, 1) := by decide +kernel
theorem dX9_init_68 : decode cX9_init 68 = .ok (.iconst 4, 1) := by decide +kernel
theorem dX9_init_69 : decode cX9_init 69 = .ok (.invokevirtual 33, 3) := by decide +kernel
theorem dX9_init_72 : decode cX9_init 72 = .ok (.aload_n 0, 1) := by decide +kernel
theorem dX9_init_73 : decode cX9_init 73 = .ok (.iconst 4, 1) := by decide +kernel
theorem dX9_init_74 : decode cX9_init 74 = .ok (.iconst 2, 1) := by decide +kernel
theorem dX9_init_75 : decode cX9_init 75 = .ok (.invokevirtual 33, 3) := by decide +kernel
theorem dX9_init_78 : decode cX9_init 78 = .ok (.aload_n 0, 1) := by decide +kernel
theorem dX9_init_79 : decode cX9_init 79 = .ok (.iconst 5, 1) := by decide +kernel
theorem dX9_init_80 : decode cX9_init 80 = .ok (.iconst 1, 1) := by decide +kernel
theorem dX9_init_81 : decode cX9_init 81 = .ok (.invokevirtual 33, 3) := by decide +kernel
theorem dX9_init_84 : decode cX9_init 84 = .ok (.aload_n 0, 1) := by decide +kernel
theorem dX9_init_85 : decode cX9_init 85 = .ok (.iconst 0, 1) := by decide +kernel
theorem dX9_init_86 : decode cX9_init 86 = .ok (.iconst 0, 1) := by decide +kernel
theorem dX9_init_87 : decode cX9_init 87 = .ok (.bipush 8, 2) := by decide +kernel
theorem dX9_init_89 : decode cX9_init 89 = .ok (.iconst 3, 1) := by decide +kernel
theorem dX9_init_90 : decode cX9_init 90 = .ok (.iconst 0, 1) := by decide +kernel
theorem dX9_init_91 : decode cX9_init 91 = .ok (.invokevirtual 37, 3) := by decide +kernel
theorem dX9_init_94 : decode cX9_init 94 = .ok (.aload_n 0, 1) := by decide +kernel
theorem dX9_init_95 : decode cX9_init 95 = .ok (.iconst 0, 1) := by decide +kernel
theorem dX9_init_96 : decode cX9_init 96 = .ok (.iconst 1, 1) := by decide +kernel
theorem dX9_init_97 : decode cX9_init 97 = .ok (.iconst 2, 1) := by decide +kernel
theorem dX9_init_98 : decode cX9_init 98 = .ok (.bipush 9, 2) := by decide +kernel
theorem dX9_init_100 : decode cX9_init 100 = .ok (.iconst 0, 1) := by decide +kernel
theorem dX9_init_101 : decode cX9_init 101 = .ok (.invokevirtual 37, 3) := by decide +kernel
theorem dX9_init_104 : decode cX9_init 104 = .ok (.aload_n 0, 1) := by decide +kernel
theorem dX9_init_105 : decode cX9_init 105 = .ok (.iconst 1, 1) := by decide +kernel
theorem dX9_init_106 : decode cX9_init 106 = .ok (.iconst 0, 1) := by decide +kernel
theorem dX9_init_107 : decode cX9_init 107 = .ok (.iconst 5, 1) := by decide +kernel
theorem dX9_init_108 : decode cX9_init 108 = .ok (.iconst 5, 1) := by decide +kernel
theorem dX9_init_109 : decode cX9_init 109 = .ok (.iconst 1, 1) := by decide +kernel
theorem dX9_init_110 : decode cX9_init 110 = .ok (.invokevirtual 37, 3) := by decide +kernel
theorem dX9_init_113 : decode cX9_init 113 = .ok (.aload_n 0, 1) := by decide +kernel
theorem dX9_init_114 : decode cX9_init 114 = .ok (.iconst 3, 1) := by decide +kernel
theorem dX9_init_115 : decode cX9_init 115 = .ok (.iconst 3, 1) := by decide +kernel
theorem dX9_init_116 : decode cX9_init 116 = .ok (.bipush 7, 2) := by decide +kernel
theorem dX9_init_118 : decode cX9_init 118 = .ok (.bipush 7, 2) := by decide +kernel
theorem dX9_init_120 : decode cX9_init 120 = .ok (.iconst 0, 1) := by decide +kernel
theorem dX9_init_121 : decode cX9_init 121 = .ok (.invokevirtual 37, 3) := by decide +kernel
theorem dX9_init_124 : decode cX9_init 124 = .ok (.aload_n 0, 1) := by decide +kernel
theorem dX9_init_125 : decode cX9_init 125 = .ok (.iconst 3, 1) := by decide +kernel
theorem dX9_init_126 : decode cX9_init 126 = .ok (.iconst 4, 1) := by decide +kernel
theorem dX9_init_127 : decode cX9_init 127 = .ok (.iconst 1, 1) := by decide +kernel
theorem dX9_init_128 : decode cX9_init 128 = .ok (.bipush 6, 2) := by decide +kernel
theorem dX9_init_130 : decode cX9_init 130 = .ok (.iconst 1, 1) := by decide +kernel
theorem dX9_init_131 : decode cX9_init 131 = .ok (.invokevirtual 37, 3) := by decide +kernel
theorem dX9_init_134 : decode cX9_init 134 = .ok (.return_, 1) := by decide +kernel
theorem dX9_thrown_0 : decode cX9_thrown 0 = .ok (.aload_n 0, 1) := by decide +kernel
theorem dX9_thrown_1 : decode cX9_thrown 1 = .ok (.getfield 41, 3) := by decide +kernel
theorem dX9_thrown_4 : decode cX9_thrown 4 = .ok (.ireturn, 1) := by decide +kernel
theorem dX9_get_0 : decode cX9_get 0 = .ok (.aload_n 0, 1) := by decide +kernel
theorem dX9_get_1 : decode cX9_get 1 = .ok (.getfield 7, 3) := by decide +kernel
theorem dX9_get_4 : decode cX9_get 4 = .ok (.sipush 761, 3) := by decide +kernel
theorem dX9_get_7 : decode cX9_get 7 = .ok (.aload_n 0, 1) := by decide +kernel
theorem dX9_get_8 : decode cX9_get 8 = .ok (.getfield 44, 3) := by decide +kernel
theorem dX9_get_11 : decode cX9_get 11 = .ok (.imul, 1) := by decide +kernel
theorem dX9_get_12 : decode cX9_get 12 = .ok (.iload_n 1, 1) := by decide +kernel
theorem dX9_get_13 : decode cX9_get 13 = .ok (.iadd, 1) := by decide +kernel
theorem dX9_get_14 : decode cX9_get 14 = .ok (.iaload, 1) := by decide +kernel
theorem dX9_get_15 : decode cX9_get 15 = .ok (.ireturn, 1) := by decide +kernel
theorem dX9_lay_0 : decode cX9_lay 0 = .ok (.aload_n 0, 1) := by decide +kernel
theorem dX9_lay_1 : decode cX9_lay 1 = .ok (.getfield 7, 3) := by decide +kernel
theorem dX9_lay_4 : decode cX9_lay 4 = .ok (.sipush 761, 3) := by decide +kernel
theorem dX9_lay_7 : decode cX9_lay 7 = .ok (.aload_n 0, 1) := by decide +kernel
theorem dX9_lay_8 : decode cX9_lay 8 = .ok (.getfield 44, 3) := by decide +kernel
theorem dX9_lay_11 : decode cX9_lay 11 = .ok (.imul, 1) := by decide +kernel
theorem dX9_lay_12 : decode cX9_lay 12 = .ok (.iload_n 1, 1) := by decide +kernel
theorem dX9_lay_13 : decode cX9_lay 13 = .ok (.iadd, 1) := by decide +kernel
theorem dX9_lay_14 : decode cX9_lay 14 = .ok (.iload_n 2, 1) := by decide +kernel
theorem dX9_lay_15 : decode cX9_lay 15 = .ok (.iastore, 1) := by decide +kernel
theorem dX9_lay_16 : decode cX9_lay 16 = .ok (.return_, 1) := by decide +kernel
theorem dX9_adds_0 : decode cX9_adds 0 = .ok (.aload_n 0, 1) := by decide +kernel
theorem dX9_adds_1 : decode cX9_adds 1 = .ok (.getfield 7, 3) := by decide +kernel
theorem dX9_adds_4 : decode cX9_adds 4 = .ok (.sipush 761, 3) := by decide +kernel
theorem dX9_adds_7 : decode cX9_adds 7 = .ok (.aload_n 0, 1) := by decide +kernel
theorem dX9_adds_8 : decode cX9_adds 8 = .ok (.getfield 44, 3) := by decide +kernel
theorem dX9_adds_11 : decode cX9_adds 11 = .ok (.imul, 1) := by decide +kernel
theorem dX9_adds_12 : decode cX9_adds 12 = .ok (.iload_n 1, 1) := by decide +kernel
theorem dX9_adds_13 : decode cX9_adds 13 = .ok (.iadd, 1) := by decide +kernel
theorem dX9_adds_14 : decode cX9_adds 14 = .ok (.dup2, 1) := by decide +kernel
theorem dX9_adds_15 : decode cX9_adds 15 = .ok (.iaload, 1) := by decide +kernel
theorem dX9_adds_16 : decode cX9_adds 16 = .ok (.iload_n 2, 1) := by decide +kernel
theorem dX9_adds_17 : decode cX9_adds 17 = .ok (.iadd, 1) := by decide +kernel
theorem dX9_adds_18 : decode cX9_adds 18 = .ok (.iastore, 1) := by decide +kernel
theorem dX9_adds_19 : decode cX9_adds 19 = .ok (.return_, 1) := by decide +kernel
theorem dX9_tallies_0 : decode cX9_tallies 0 = .ok (.aload_n 0, 1) := by decide +kernel
theorem dX9_tallies_1 : decode cX9_tallies 1 = .ok (.bipush 7, 2) := by decide +kernel
theorem dX9_tallies_3 : decode cX9_tallies 3 = .ok (.iload_n 1, 1) := by decide +kernel
theorem dX9_tallies_4 : decode cX9_tallies 4 = .ok (.iadd, 1) := by decide +kernel
theorem dX9_tallies_5 : decode cX9_tallies 5 = .ok (.iload_n 2, 1) := by decide +kernel
theorem dX9_tallies_6 : decode cX9_tallies 6 = .ok (.invokevirtual 47, 3) := by decide +kernel
theorem dX9_tallies_9 : decode cX9_tallies 9 = .ok (.return_, 1) := by decide +kernel
theorem dX9_copies_0 : decode cX9_copies 0 = .ok (.iconst 0, 1) := by decide +kernel
theorem dX9_copies_1 : decode cX9_copies 1 = .ok (.istore_n 3, 1) := by decide +kernel
theorem dX9_copies_2 : decode cX9_copies 2 = .ok (.iload_n 3, 1) := by decide +kernel
theorem dX9_copies_3 : decode cX9_copies 3 = .ok (.sipush 761, 3) := by decide +kernel
theorem dX9_copies_6 : decode cX9_copies 6 = .ok (.if_icmp .ge 33, 3) := by decide +kernel
theorem dX9_copies_9 : decode cX9_copies 9 = .ok (.aload_n 0, 1) := by decide +kernel
theorem dX9_copies_10 : decode cX9_copies 10 = .ok (.getfield 7, 3) := by decide +kernel
theorem dX9_copies_13 : decode cX9_copies 13 = .ok (.sipush 761, 3) := by decide +kernel
theorem dX9_copies_16 : decode cX9_copies 16 = .ok (.iload_n 2, 1) := by decide +kernel
theorem dX9_copies_17 : decode cX9_copies 17 = .ok (.imul, 1) := by decide +kernel
theorem dX9_copies_18 : decode cX9_copies 18 = .ok (.iload_n 3, 1) := by decide +kernel
theorem dX9_copies_19 : decode cX9_copies 19 = .ok (.iadd, 1) := by decide +kernel
theorem dX9_copies_20 : decode cX9_copies 20 = .ok (.aload_n 0, 1) := by decide +kernel
theorem dX9_copies_21 : decode cX9_copies 21 = .ok (.getfield 7, 3) := by decide +kernel
theorem dX9_copies_24 : decode cX9_copies 24 = .ok (.sipush 761, 3) := by decide +kernel
theorem dX9_copies_27 : decode cX9_copies 27 = .ok (.iload_n 1, 1) := by decide +kernel
theorem dX9_copies_28 : decode cX9_copies 28 = .ok (.imul, 1) := by decide +kernel
theorem dX9_copies_29 : decode cX9_copies 29 = .ok (.iload_n 3, 1) := by decide +kernel
theorem dX9_copies_30 : decode cX9_copies 30 = .ok (.iadd, 1) := by decide +kernel
theorem dX9_copies_31 : decode cX9_copies 31 = .ok (.iaload, 1) := by decide +kernel
theorem dX9_copies_32 : decode cX9_copies 32 = .ok (.iastore, 1) := by decide +kernel
theorem dX9_copies_33 : decode cX9_copies 33 = .ok (.iinc 3 1, 3) := by decide +kernel
theorem dX9_copies_36 : decode cX9_copies 36 = .ok (.goto (-34), 3) := by decide +kernel
theorem dX9_copies_39 : decode cX9_copies 39 = .ok (.return_, 1) := by decide +kernel
theorem dX9_in_0 : decode cX9_in 0 = .ok (.iload_n 0, 1) := by decide +kernel
theorem dX9_in_1 : decode cX9_in 1 = .ok (.iload_n 1, 1) := by decide +kernel
theorem dX9_in_2 : decode cX9_in 2 = .ok (.if_icmp .lt 12, 3) := by decide +kernel
theorem dX9_in_5 : decode cX9_in 5 = .ok (.iload_n 0, 1) := by decide +kernel
theorem dX9_in_6 : decode cX9_in 6 = .ok (.iload_n 2, 1) := by decide +kernel
theorem dX9_in_7 : decode cX9_in 7 = .ok (.if_icmp .gt 7, 3) := by decide +kernel
theorem dX9_in_10 : decode cX9_in 10 = .ok (.iconst 1, 1) := by decide +kernel
theorem dX9_in_11 : decode cX9_in 11 = .ok (.goto 4, 3) := by decide +kernel
theorem dX9_in_14 : decode cX9_in 14 = .ok (.iconst 0, 1) := by decide +kernel
theorem dX9_in_15 : decode cX9_in 15 = .ok (.ireturn, 1) := by decide +kernel
theorem dX9_one_0 : decode cX9_one 0 = .ok (.iload_n 0, 1) := by decide +kernel
theorem dX9_one_1 : decode cX9_one 1 = .ok (.ifCond .eq 7, 3) := by decide +kernel
theorem dX9_one_4 : decode cX9_one 4 = .ok (.iconst 1, 1) := by decide +kernel
theorem dX9_one_5 : decode cX9_one 5 = .ok (.goto 4, 3) := by decide +kernel
theorem dX9_one_8 : decode cX9_one 8 = .ok (.iconst 0, 1) := by decide +kernel
theorem dX9_one_9 : decode cX9_one 9 = .ok (.ireturn, 1) := by decide +kernel
theorem dX9_holds_0 : decode cX9_holds 0 = .ok (.aload_n 0, 1) := by decide +kernel
theorem dX9_holds_1 : decode cX9_holds 1 = .ok (.getfield 41, 3) := by decide +kernel
theorem dX9_holds_4 : decode cX9_holds 4 = .ok (.ifCond .ne 12, 3) := by decide +kernel
theorem dX9_holds_7 : decode cX9_holds 7 = .ok (.iload_n 1, 1) := by decide +kernel
theorem dX9_holds_8 : decode cX9_holds 8 = .ok (.ifCond .ne 8, 3) := by decide +kernel
theorem dX9_holds_11 : decode cX9_holds 11 = .ok (.aload_n 0, 1) := by decide +kernel
theorem dX9_holds_12 : decode cX9_holds 12 = .ok (.iload_n 2, 1) := by decide +kernel
theorem dX9_holds_13 : decode cX9_holds 13 = .ok (.putfield 41, 3) := by decide +kernel
theorem dX9_holds_16 : decode cX9_holds 16 = .ok (.aload_n 0, 1) := by decide +kernel
theorem dX9_holds_17 : decode cX9_holds 17 = .ok (.getfield 41, 3) := by decide +kernel
theorem dX9_holds_20 : decode cX9_holds 20 = .ok (.ifCond .ne 7, 3) := by decide +kernel
theorem dX9_holds_23 : decode cX9_holds 23 = .ok (.iconst 1, 1) := by decide +kernel
theorem dX9_holds_24 : decode cX9_holds 24 = .ok (.goto 4, 3) := by decide +kernel
theorem dX9_holds_27 : decode cX9_holds 27 = .ok (.iconst 0, 1) := by decide +kernel
theorem dX9_holds_28 : decode cX9_holds 28 = .ok (.ireturn, 1) := by decide +kernel
theorem dX9_pu_0 : decode cX9_pu 0 = .ok (.aload_n 0, 1) := by decide +kernel
theorem dX9_pu_1 : decode cX9_pu 1 = .ok (.bipush 17, 2) := by decide +kernel
theorem dX9_pu_3 : decode cX9_pu 3 = .ok (.bipush 12, 2) := by decide +kernel
theorem dX9_pu_5 : decode cX9_pu 5 = .ok (.iload_n 1, 1) := by decide +kernel
theorem dX9_pu_6 : decode cX9_pu 6 = .ok (.imul, 1) := by decide +kernel
theorem dX9_pu_7 : decode cX9_pu 7 = .ok (.iadd, 1) := by decide +kernel
theorem dX9_pu_8 : decode cX9_pu 8 = .ok (.iload_n 2, 1) := by decide +kernel
theorem dX9_pu_9 : decode cX9_pu 9 = .ok (.iadd, 1) := by decide +kernel
theorem dX9_pu_10 : decode cX9_pu 10 = .ok (.invokevirtual 50, 3) := by decide +kernel
theorem dX9_pu_13 : decode cX9_pu 13 = .ok (.ireturn, 1) := by decide +kernel
theorem dX9_layPupil_0 : decode cX9_layPupil 0 = .ok (.aload_n 0, 1) := by decide +kernel
theorem dX9_layPupil_1 : decode cX9_layPupil 1 = .ok (.bipush 17, 2) := by decide +kernel
theorem dX9_layPupil_3 : decode cX9_layPupil 3 = .ok (.bipush 12, 2) := by decide +kernel
theorem dX9_layPupil_5 : decode cX9_layPupil 5 = .ok (.iload_n 1, 1) := by decide +kernel
theorem dX9_layPupil_6 : decode cX9_layPupil 6 = .ok (.imul, 1) := by decide +kernel
theorem dX9_layPupil_7 : decode cX9_layPupil 7 = .ok (.iadd, 1) := by decide +kernel
theorem dX9_layPupil_8 : decode cX9_layPupil 8 = .ok (.iload_n 2, 1) := by decide +kernel
theorem dX9_layPupil_9 : decode cX9_layPupil 9 = .ok (.iadd, 1) := by decide +kernel
theorem dX9_layPupil_10 : decode cX9_layPupil 10 = .ok (.iload_n 3, 1) := by decide +kernel
theorem dX9_layPupil_11 : decode cX9_layPupil 11 = .ok (.invokevirtual 33, 3) := by decide +kernel
theorem dX9_layPupil_14 : decode cX9_layPupil 14 = .ok (.return_, 1) := by decide +kernel
theorem dX9_addsPupil_0 : decode cX9_addsPupil 0 = .ok (.aload_n 0, 1) := by decide +kernel
theorem dX9_addsPupil_1 : decode cX9_addsPupil 1 = .ok (.bipush 17, 2) := by decide +kernel
theorem dX9_addsPupil_3 : decode cX9_addsPupil 3 = .ok (.bipush 12, 2) := by decide +kernel
theorem dX9_addsPupil_5 : decode cX9_addsPupil 5 = .ok (.iload_n 1, 1) := by decide +kernel
theorem dX9_addsPupil_6 : decode cX9_addsPupil 6 = .ok (.imul, 1) := by decide +kernel
theorem dX9_addsPupil_7 : decode cX9_addsPupil 7 = .ok (.iadd, 1) := by decide +kernel
theorem dX9_addsPupil_8 : decode cX9_addsPupil 8 = .ok (.iload_n 2, 1) := by decide +kernel
theorem dX9_addsPupil_9 : decode cX9_addsPupil 9 = .ok (.iadd, 1) := by decide +kernel
theorem dX9_addsPupil_10 : decode cX9_addsPupil 10 = .ok (.iload_n 3, 1) := by decide +kernel
theorem dX9_addsPupil_11 : decode cX9_addsPupil 11 = .ok (.invokevirtual 47, 3) := by decide +kernel
theorem dX9_addsPupil_14 : decode cX9_addsPupil 14 = .ok (.return_, 1) := by decide +kernel
theorem dX9_db_0 : decode cX9_db 0 = .ok (.aload_n 0, 1) := by decide +kernel
theorem dX9_db_1 : decode cX9_db 1 = .ok (.sipush 641, 3) := by decide +kernel
theorem dX9_db_4 : decode cX9_db 4 = .ok (.iconst 4, 1) := by decide +kernel
theorem dX9_db_5 : decode cX9_db 5 = .ok (.iload_n 1, 1) := by decide +kernel
theorem dX9_db_6 : decode cX9_db 6 = .ok (.imul, 1) := by decide +kernel
theorem dX9_db_7 : decode cX9_db 7 = .ok (.iadd, 1) := by decide +kernel
theorem dX9_db_8 : decode cX9_db 8 = .ok (.iload_n 2, 1) := by decide +kernel
theorem dX9_db_9 : decode cX9_db 9 = .ok (.iadd, 1) := by decide +kernel
theorem dX9_db_10 : decode cX9_db 10 = .ok (.invokevirtual 50, 3) := by decide +kernel
theorem dX9_db_13 : decode cX9_db 13 = .ok (.ireturn, 1) := by decide +kernel
theorem dX9_sumOf_0 : decode cX9_sumOf 0 = .ok (.iconst 0, 1) := by decide +kernel
theorem dX9_sumOf_1 : decode cX9_sumOf 1 = .ok (.istore_n 2, 1) := by decide +kernel
theorem dX9_sumOf_2 : decode cX9_sumOf 2 = .ok (.iconst 0, 1) := by decide +kernel
theorem dX9_sumOf_3 : decode cX9_sumOf 3 = .ok (.istore_n 3, 1) := by decide +kernel
theorem dX9_sumOf_4 : decode cX9_sumOf 4 = .ok (.iload_n 3, 1) := by decide +kernel
theorem dX9_sumOf_5 : decode cX9_sumOf 5 = .ok (.aload_n 0, 1) := by decide +kernel
theorem dX9_sumOf_6 : decode cX9_sumOf 6 = .ok (.iconst 0, 1) := by decide +kernel
theorem dX9_sumOf_7 : decode cX9_sumOf 7 = .ok (.invokevirtual 50, 3) := by decide +kernel
theorem dX9_sumOf_10 : decode cX9_sumOf 10 = .ok (.if_icmp .ge 18, 3) := by decide +kernel
theorem dX9_sumOf_13 : decode cX9_sumOf 13 = .ok (.iload_n 2, 1) := by decide +kernel
theorem dX9_sumOf_14 : decode cX9_sumOf 14 = .ok (.aload_n 0, 1) := by decide +kernel
theorem dX9_sumOf_15 : decode cX9_sumOf 15 = .ok (.iload_n 3, 1) := by decide +kernel
theorem dX9_sumOf_16 : decode cX9_sumOf 16 = .ok (.iload_n 1, 1) := by decide +kernel
theorem dX9_sumOf_17 : decode cX9_sumOf 17 = .ok (.invokevirtual 54, 3) := by decide +kernel
theorem dX9_sumOf_20 : decode cX9_sumOf 20 = .ok (.iadd, 1) := by decide +kernel
theorem dX9_sumOf_21 : decode cX9_sumOf 21 = .ok (.istore_n 2, 1) := by decide +kernel
theorem dX9_sumOf_22 : decode cX9_sumOf 22 = .ok (.iinc 3 1, 3) := by decide +kernel
theorem dX9_sumOf_25 : decode cX9_sumOf 25 = .ok (.goto (-21), 3) := by decide +kernel
theorem dX9_sumOf_28 : decode cX9_sumOf 28 = .ok (.iload_n 2, 1) := by decide +kernel
theorem dX9_sumOf_29 : decode cX9_sumOf 29 = .ok (.ireturn, 1) := by decide +kernel
theorem dX9_isDetained_0 : decode cX9_isDetained 0 = .ok (.aload_n 0, 1) := by decide +kernel
theorem dX9_isDetained_1 : decode cX9_isDetained 1 = .ok (.iload_n 1, 1) := by decide +kernel
theorem dX9_isDetained_2 : decode cX9_isDetained 2 = .ok (.bipush 8, 2) := by decide +kernel
theorem dX9_isDetained_4 : decode cX9_isDetained 4 = .ok (.invokevirtual 54, 3) := by decide +kernel
theorem dX9_isDetained_7 : decode cX9_isDetained 7 = .ok (.ifCond .le 7, 3) := by decide +kernel
theorem dX9_isDetained_10 : decode cX9_isDetained 10 = .ok (.iconst 1, 1) := by decide +kernel
theorem dX9_isDetained_11 : decode cX9_isDetained 11 = .ok (.goto 4, 3) := by decide +kernel
theorem dX9_isDetained_14 : decode cX9_isDetained 14 = .ok (.iconst 0, 1) := by decide +kernel
theorem dX9_isDetained_15 : decode cX9_isDetained 15 = .ok (.ireturn, 1) := by decide +kernel
theorem dX9_newPupil_0 : decode cX9_newPupil 0 = .ok (.aload_n 0, 1) := by decide +kernel
theorem dX9_newPupil_1 : decode cX9_newPupil 1 = .ok (.iconst 0, 1) := by decide +kernel
theorem dX9_newPupil_2 : decode cX9_newPupil 2 = .ok (.invokevirtual 50, 3) := by decide +kernel
theorem dX9_newPupil_5 : decode cX9_newPupil 5 = .ok (.istore 6, 2) := by decide +kernel
theorem dX9_newPupil_7 : decode cX9_newPupil 7 = .ok (.aload_n 0, 1) := by decide +kernel
theorem dX9_newPupil_8 : decode cX9_newPupil 8 = .ok (.iload 6, 2) := by decide +kernel
theorem dX9_newPupil_10 : decode cX9_newPupil 10 = .ok (.iconst 0, 1) := by decide +kernel
theorem dX9_newPupil_11 : decode cX9_newPupil 11 = .ok (.iload_n 1, 1) := by decide +kernel
theorem dX9_newPupil_12 : decode cX9_newPupil 12 = .ok (.invokevirtual 58, 3) := by decide +kernel
theorem dX9_newPupil_15 : decode cX9_newPupil 15 = .ok (.aload_n 0, 1) := by decide +kernel
theorem dX9_newPupil_16 : decode cX9_newPupil 16 = .ok (.iload 6, 2) := by decide +kernel
theorem dX9_newPupil_18 : decode cX9_newPupil 18 = .ok (.iconst 1, 1) := by decide +kernel
theorem dX9_newPupil_19 : decode cX9_newPupil 19 = .ok (.iload_n 2, 1) := by decide +kernel
theorem dX9_newPupil_20 : decode cX9_newPupil 20 = .ok (.invokevirtual 58, 3) := by decide +kernel
theorem dX9_newPupil_23 : decode cX9_newPupil 23 = .ok (.aload_n 0, 1) := by decide +kernel
theorem dX9_newPupil_24 : decode cX9_newPupil 24 = .ok (.iload 6, 2) := by decide +kernel
theorem dX9_newPupil_26 : decode cX9_newPupil 26 = .ok (.iconst 2, 1) := by decide +kernel
theorem dX9_newPupil_27 : decode cX9_newPupil 27 = .ok (.iload_n 3, 1) := by decide +kernel
theorem dX9_newPupil_28 : decode cX9_newPupil 28 = .ok (.invokevirtual 58, 3) := by decide +kernel
theorem dX9_newPupil_31 : decode cX9_newPupil 31 = .ok (.aload_n 0, 1) := by decide +kernel
theorem dX9_newPupil_32 : decode cX9_newPupil 32 = .ok (.iload 6, 2) := by decide +kernel
theorem dX9_newPupil_34 : decode cX9_newPupil 34 = .ok (.iconst 3, 1) := by decide +kernel
theorem dX9_newPupil_35 : decode cX9_newPupil 35 = .ok (.iload 4, 2) := by decide +kernel
theorem dX9_newPupil_37 : decode cX9_newPupil 37 = .ok (.invokevirtual 58, 3) := by decide +kernel
theorem dX9_newPupil_40 : decode cX9_newPupil 40 = .ok (.aload_n 0, 1) := by decide +kernel
theorem dX9_newPupil_41 : decode cX9_newPupil 41 = .ok (.iload 6, 2) := by decide +kernel
theorem dX9_newPupil_43 : decode cX9_newPupil 43 = .ok (.iconst 4, 1) := by decide +kernel
theorem dX9_newPupil_44 : decode cX9_newPupil 44 = .ok (.iload 5, 2) := by decide +kernel
theorem dX9_newPupil_46 : decode cX9_newPupil 46 = .ok (.invokevirtual 58, 3) := by decide +kernel
theorem dX9_newPupil_49 : decode cX9_newPupil 49 = .ok (.aload_n 0, 1) := by decide +kernel
theorem dX9_newPupil_50 : decode cX9_newPupil 50 = .ok (.iload 6, 2) := by decide +kernel
theorem dX9_newPupil_52 : decode cX9_newPupil 52 = .ok (.iconst 5, 1) := by decide +kernel
theorem dX9_newPupil_53 : decode cX9_newPupil 53 = .ok (.aload_n 0, 1) := by decide +kernel
theorem dX9_newPupil_54 : decode cX9_newPupil 54 = .ok (.iconst 2, 1) := by decide +kernel
theorem dX9_newPupil_55 : decode cX9_newPupil 55 = .ok (.invokevirtual 50, 3) := by decide +kernel
theorem dX9_newPupil_58 : decode cX9_newPupil 58 = .ok (.invokevirtual 58, 3) := by decide +kernel
theorem dX9_newPupil_61 : decode cX9_newPupil 61 = .ok (.aload_n 0, 1) := by decide +kernel
theorem dX9_newPupil_62 : decode cX9_newPupil 62 = .ok (.iconst 0, 1) := by decide +kernel
theorem dX9_newPupil_63 : decode cX9_newPupil 63 = .ok (.iconst 1, 1) := by decide +kernel
theorem dX9_newPupil_64 : decode cX9_newPupil 64 = .ok (.invokevirtual 47, 3) := by decide +kernel
theorem dX9_newPupil_67 : decode cX9_newPupil 67 = .ok (.return_, 1) := by decide +kernel
theorem dX9_many_0 : decode cX9_many 0 = .ok (.aload_n 0, 1) := by decide +kernel
theorem dX9_many_1 : decode cX9_many 1 = .ok (.iload_n 1, 1) := by decide +kernel
theorem dX9_many_2 : decode cX9_many 2 = .ok (.bipush 10, 2) := by decide +kernel
theorem dX9_many_4 : decode cX9_many 4 = .ok (.iload_n 2, 1) := by decide +kernel
theorem dX9_many_5 : decode cX9_many 5 = .ok (.iadd, 1) := by decide +kernel
theorem dX9_many_6 : decode cX9_many 6 = .ok (.invokevirtual 54, 3) := by decide +kernel
theorem dX9_many_9 : decode cX9_many 9 = .ok (.ireturn, 1) := by decide +kernel
theorem dX9_satchel_0 : decode cX9_satchel 0 = .ok (.sipush 161, 3) := by decide +kernel
theorem dX9_satchel_3 : decode cX9_satchel 3 = .ok (.bipush 20, 2) := by decide +kernel
theorem dX9_satchel_5 : decode cX9_satchel 5 = .ok (.iconst 2, 1) := by decide +kernel
theorem dX9_satchel_6 : decode cX9_satchel 6 = .ok (.iload_n 1, 1) := by decide +kernel
theorem dX9_satchel_7 : decode cX9_satchel 7 = .ok (.imul, 1) := by decide +kernel
theorem dX9_satchel_8 : decode cX9_satchel 8 = .ok (.iload_n 2, 1) := by decide +kernel
theorem dX9_satchel_9 : decode cX9_satchel 9 = .ok (.iadd, 1) := by decide +kernel
theorem dX9_satchel_10 : decode cX9_satchel 10 = .ok (.imul, 1) := by decide +kernel
theorem dX9_satchel_11 : decode cX9_satchel 11 = .ok (.iadd, 1) := by decide +kernel
theorem dX9_satchel_12 : decode cX9_satchel 12 = .ok (.ireturn, 1) := by decide +kernel
theorem dX9_makerAt_0 : decode cX9_makerAt 0 = .ok (.aload_n 0, 1) := by decide +kernel
theorem dX9_makerAt_1 : decode cX9_makerAt 1 = .ok (.aload_n 0, 1) := by decide +kernel
theorem dX9_makerAt_2 : decode cX9_makerAt 2 = .ok (.iload_n 1, 1) := by decide +kernel
theorem dX9_makerAt_3 : decode cX9_makerAt 3 = .ok (.iload_n 2, 1) := by decide +kernel
theorem dX9_makerAt_4 : decode cX9_makerAt 4 = .ok (.invokevirtual 62, 3) := by decide +kernel
theorem dX9_makerAt_7 : decode cX9_makerAt 7 = .ok (.iload_n 3, 1) := by decide +kernel
theorem dX9_makerAt_8 : decode cX9_makerAt 8 = .ok (.iadd, 1) := by decide +kernel
theorem dX9_makerAt_9 : decode cX9_makerAt 9 = .ok (.invokevirtual 50, 3) := by decide +kernel
theorem dX9_makerAt_12 : decode cX9_makerAt 12 = .ok (.ireturn, 1) := by decide +kernel
theorem dX9_comes_0 : decode cX9_comes 0 = .ok (.aload_n 0, 1) := by decide +kernel
theorem dX9_comes_1 : decode cX9_comes 1 = .ok (.aload_n 0, 1) := by decide +kernel
theorem dX9_comes_2 : decode cX9_comes 2 = .ok (.iload_n 1, 1) := by decide +kernel
theorem dX9_comes_3 : decode cX9_comes 3 = .ok (.iload_n 2, 1) := by decide +kernel
theorem dX9_comes_4 : decode cX9_comes 4 = .ok (.invokevirtual 62, 3) := by decide +kernel
theorem dX9_comes_7 : decode cX9_comes 7 = .ok (.aload_n 0, 1) := by decide +kernel
theorem dX9_comes_8 : decode cX9_comes 8 = .ok (.iload_n 1, 1) := by decide +kernel
theorem dX9_comes_9 : decode cX9_comes 9 = .ok (.iload_n 2, 1) := by decide +kernel
theorem dX9_comes_10 : decode cX9_comes 10 = .ok (.invokevirtual 65, 3) := by decide +kernel
theorem dX9_comes_13 : decode cX9_comes 13 = .ok (.iadd, 1) := by decide +kernel
theorem dX9_comes_14 : decode cX9_comes 14 = .ok (.iload_n 3, 1) := by decide +kernel
theorem dX9_comes_15 : decode cX9_comes 15 = .ok (.invokevirtual 33, 3) := by decide +kernel
theorem dX9_comes_18 : decode cX9_comes 18 = .ok (.aload_n 0, 1) := by decide +kernel
theorem dX9_comes_19 : decode cX9_comes 19 = .ok (.iload_n 1, 1) := by decide +kernel
theorem dX9_comes_20 : decode cX9_comes 20 = .ok (.bipush 10, 2) := by decide +kernel
theorem dX9_comes_22 : decode cX9_comes 22 = .ok (.iload_n 2, 1) := by decide +kernel
theorem dX9_comes_23 : decode cX9_comes 23 = .ok (.iadd, 1) := by decide +kernel
theorem dX9_comes_24 : decode cX9_comes 24 = .ok (.iconst 1, 1) := by decide +kernel
theorem dX9_comes_25 : decode cX9_comes 25 = .ok (.invokevirtual 68, 3) := by decide +kernel
theorem dX9_comes_28 : decode cX9_comes 28 = .ok (.return_, 1) := by decide +kernel
theorem dX9_goes_0 : decode cX9_goes 0 = .ok (.aload_n 0, 1) := by decide +kernel
theorem dX9_goes_1 : decode cX9_goes 1 = .ok (.iload_n 1, 1) := by decide +kernel
theorem dX9_goes_2 : decode cX9_goes 2 = .ok (.iload_n 2, 1) := by decide +kernel
theorem dX9_goes_3 : decode cX9_goes 3 = .ok (.invokevirtual 65, 3) := by decide +kernel
theorem dX9_goes_6 : decode cX9_goes 6 = .ok (.iload_n 3, 1) := by decide +kernel
theorem dX9_goes_7 : decode cX9_goes 7 = .ok (.isub, 1) := by decide +kernel
theorem dX9_goes_8 : decode cX9_goes 8 = .ok (.istore 4, 2) := by decide +kernel
theorem dX9_goes_10 : decode cX9_goes 10 = .ok (.iconst 0, 1) := by decide +kernel
theorem dX9_goes_11 : decode cX9_goes 11 = .ok (.istore 5, 2) := by decide +kernel
theorem dX9_goes_13 : decode cX9_goes 13 = .ok (.iload 5, 2) := by decide +kernel
theorem dX9_goes_15 : decode cX9_goes 15 = .ok (.iload 4, 2) := by decide +kernel
theorem dX9_goes_17 : decode cX9_goes 17 = .ok (.if_icmp .ge 32, 3) := by decide +kernel
theorem dX9_goes_20 : decode cX9_goes 20 = .ok (.aload_n 0, 1) := by decide +kernel
theorem dX9_goes_21 : decode cX9_goes 21 = .ok (.aload_n 0, 1) := by decide +kernel
theorem dX9_goes_22 : decode cX9_goes 22 = .ok (.iload_n 1, 1) := by decide +kernel
theorem dX9_goes_23 : decode cX9_goes 23 = .ok (.iload_n 2, 1) := by decide +kernel
theorem dX9_goes_24 : decode cX9_goes 24 = .ok (.invokevirtual 62, 3) := by decide +kernel
theorem dX9_goes_27 : decode cX9_goes 27 = .ok (.iload 5, 2) := by decide +kernel
theorem dX9_goes_29 : decode cX9_goes 29 = .ok (.iadd, 1) := by decide +kernel
theorem dX9_goes_30 : decode cX9_goes 30 = .ok (.aload_n 0, 1) := by decide +kernel
theorem dX9_goes_31 : decode cX9_goes 31 = .ok (.iload_n 1, 1) := by decide +kernel
theorem dX9_goes_32 : decode cX9_goes 32 = .ok (.iload_n 2, 1) := by decide +kernel
theorem dX9_goes_33 : decode cX9_goes 33 = .ok (.iload_n 3, 1) := by decide +kernel
theorem dX9_goes_34 : decode cX9_goes 34 = .ok (.iload 5, 2) := by decide +kernel
theorem dX9_goes_36 : decode cX9_goes 36 = .ok (.iadd, 1) := by decide +kernel
theorem dX9_goes_37 : decode cX9_goes 37 = .ok (.invokevirtual 71, 3) := by decide +kernel
theorem dX9_goes_40 : decode cX9_goes 40 = .ok (.invokevirtual 33, 3) := by decide +kernel
theorem dX9_goes_43 : decode cX9_goes 43 = .ok (.iinc 5 1, 3) := by decide +kernel
theorem dX9_goes_46 : decode cX9_goes 46 = .ok (.goto (-33), 3) := by decide +kernel
theorem dX9_goes_49 : decode cX9_goes 49 = .ok (.aload_n 0, 1) := by decide +kernel
theorem dX9_goes_50 : decode cX9_goes 50 = .ok (.iload_n 1, 1) := by decide +kernel
theorem dX9_goes_51 : decode cX9_goes 51 = .ok (.bipush 10, 2) := by decide +kernel
theorem dX9_goes_53 : decode cX9_goes 53 = .ok (.iload_n 2, 1) := by decide +kernel
theorem dX9_goes_54 : decode cX9_goes 54 = .ok (.iadd, 1) := by decide +kernel
theorem dX9_goes_55 : decode cX9_goes 55 = .ok (.iload 4, 2) := by decide +kernel
theorem dX9_goes_57 : decode cX9_goes 57 = .ok (.invokevirtual 58, 3) := by decide +kernel
theorem dX9_goes_60 : decode cX9_goes 60 = .ok (.return_, 1) := by decide +kernel
theorem dX9_gives_0 : decode cX9_gives 0 = .ok (.iconst 0, 1) := by decide +kernel
theorem dX9_gives_1 : decode cX9_gives 1 = .ok (.istore 5, 2) := by decide +kernel
theorem dX9_gives_3 : decode cX9_gives 3 = .ok (.iload 5, 2) := by decide +kernel
theorem dX9_gives_5 : decode cX9_gives 5 = .ok (.iload 4, 2) := by decide +kernel
theorem dX9_gives_7 : decode cX9_gives 7 = .ok (.if_icmp .ge 23, 3) := by decide +kernel
theorem dX9_gives_10 : decode cX9_gives 10 = .ok (.aload_n 0, 1) := by decide +kernel
theorem dX9_gives_11 : decode cX9_gives 11 = .ok (.iload_n 2, 1) := by decide +kernel
theorem dX9_gives_12 : decode cX9_gives 12 = .ok (.iload_n 3, 1) := by decide +kernel
theorem dX9_gives_13 : decode cX9_gives 13 = .ok (.aload_n 0, 1) := by decide +kernel
theorem dX9_gives_14 : decode cX9_gives 14 = .ok (.iload_n 1, 1) := by decide +kernel
theorem dX9_gives_15 : decode cX9_gives 15 = .ok (.iload_n 3, 1) := by decide +kernel
theorem dX9_gives_16 : decode cX9_gives 16 = .ok (.iload 5, 2) := by decide +kernel
theorem dX9_gives_18 : decode cX9_gives 18 = .ok (.invokevirtual 71, 3) := by decide +kernel
theorem dX9_gives_21 : decode cX9_gives 21 = .ok (.invokevirtual 75, 3) := by decide +kernel
theorem dX9_gives_24 : decode cX9_gives 24 = .ok (.iinc 5 1, 3) := by decide +kernel
theorem dX9_gives_27 : decode cX9_gives 27 = .ok (.goto (-24), 3) := by decide +kernel
theorem dX9_gives_30 : decode cX9_gives 30 = .ok (.aload_n 0, 1) := by decide +kernel
theorem dX9_gives_31 : decode cX9_gives 31 = .ok (.iload_n 1, 1) := by decide +kernel
theorem dX9_gives_32 : decode cX9_gives 32 = .ok (.iload_n 3, 1) := by decide +kernel
theorem dX9_gives_33 : decode cX9_gives 33 = .ok (.iload 4, 2) := by decide +kernel
theorem dX9_gives_35 : decode cX9_gives 35 = .ok (.invokevirtual 78, 3) := by decide +kernel
theorem dX9_gives_38 : decode cX9_gives 38 = .ok (.return_, 1) := by decide +kernel
theorem dX9_piecesIn_0 : decode cX9_piecesIn 0 = .ok (.aload_n 0, 1) := by decide +kernel
theorem dX9_piecesIn_1 : decode cX9_piecesIn 1 = .ok (.bipush 10, 2) := by decide +kernel
theorem dX9_piecesIn_3 : decode cX9_piecesIn 3 = .ok (.iload_n 1, 1) := by decide +kernel
theorem dX9_piecesIn_4 : decode cX9_piecesIn 4 = .ok (.iadd, 1) := by decide +kernel
theorem dX9_piecesIn_5 : decode cX9_piecesIn 5 = .ok (.invokevirtual 81, 3) := by decide +kernel
theorem dX9_piecesIn_8 : decode cX9_piecesIn 8 = .ok (.ireturn, 1) := by decide +kernel
theorem dX9_findDebt_0 : decode cX9_findDebt 0 = .ok (.iconst 0, 1) := by decide +kernel
theorem dX9_findDebt_1 : decode cX9_findDebt 1 = .ok (.istore 4, 2) := by decide +kernel
theorem dX9_findDebt_3 : decode cX9_findDebt 3 = .ok (.iload 4, 2) := by decide +kernel
theorem dX9_findDebt_5 : decode cX9_findDebt 5 = .ok (.aload_n 0, 1) := by decide +kernel
theorem dX9_findDebt_6 : decode cX9_findDebt 6 = .ok (.bipush 6, 2) := by decide +kernel
theorem dX9_findDebt_8 : decode cX9_findDebt 8 = .ok (.invokevirtual 50, 3) := by decide +kernel
theorem dX9_findDebt_11 : decode cX9_findDebt 11 = .ok (.if_icmp .ge 45, 3) := by decide +kernel
theorem dX9_findDebt_14 : decode cX9_findDebt 14 = .ok (.aload_n 0, 1) := by decide +kernel
theorem dX9_findDebt_15 : decode cX9_findDebt 15 = .ok (.iload 4, 2) := by decide +kernel
theorem dX9_findDebt_17 : decode cX9_findDebt 17 = .ok (.iconst 0, 1) := by decide +kernel
theorem dX9_findDebt_18 : decode cX9_findDebt 18 = .ok (.invokevirtual 84, 3) := by decide +kernel
theorem dX9_findDebt_21 : decode cX9_findDebt 21 = .ok (.iload_n 1, 1) := by decide +kernel
theorem dX9_findDebt_22 : decode cX9_findDebt 22 = .ok (.if_icmp .ne 28, 3) := by decide +kernel
theorem dX9_findDebt_25 : decode cX9_findDebt 25 = .ok (.aload_n 0, 1) := by decide +kernel
theorem dX9_findDebt_26 : decode cX9_findDebt 26 = .ok (.iload 4, 2) := by decide +kernel
theorem dX9_findDebt_28 : decode cX9_findDebt 28 = .ok (.iconst 1, 1) := by decide +kernel
theorem dX9_findDebt_29 : decode cX9_findDebt 29 = .ok (.invokevirtual 84, 3) := by decide +kernel
theorem dX9_findDebt_32 : decode cX9_findDebt 32 = .ok (.iload_n 2, 1) := by decide +kernel
theorem dX9_findDebt_33 : decode cX9_findDebt 33 = .ok (.if_icmp .ne 17, 3) := by decide +kernel
theorem dX9_findDebt_36 : decode cX9_findDebt 36 = .ok (.aload_n 0, 1) := by decide +kernel
theorem dX9_findDebt_37 : decode cX9_findDebt 37 = .ok (.iload 4, 2) := by decide +kernel
theorem dX9_findDebt_39 : decode cX9_findDebt 39 = .ok (.iconst 2, 1) := by decide +kernel
theorem dX9_findDebt_40 : decode cX9_findDebt 40 = .ok (.invokevirtual 84, 3) := by decide +kernel
theorem dX9_findDebt_43 : decode cX9_findDebt 43 = .ok (.iload_n 3, 1) := by decide +kernel
theorem dX9_findDebt_44 : decode cX9_findDebt 44 = .ok (.if_icmp .ne 6, 3) := by decide +kernel
theorem dX9_findDebt_47 : decode cX9_findDebt 47 = .ok (.iload 4, 2) := by decide +kernel
theorem dX9_findDebt_49 : decode cX9_findDebt 49 = .ok (.ireturn, 1) := by decide +kernel
theorem dX9_findDebt_50 : decode cX9_findDebt 50 = .ok (.iinc 4 1, 3) := by decide +kernel
theorem dX9_findDebt_53 : decode cX9_findDebt 53 = .ok (.goto (-50), 3) := by decide +kernel
theorem dX9_findDebt_56 : decode cX9_findDebt 56 = .ok (.iconst (-1), 1) := by decide +kernel
theorem dX9_findDebt_57 : decode cX9_findDebt 57 = .ok (.ireturn, 1) := by decide +kernel
theorem dX9_owed_0 : decode cX9_owed 0 = .ok (.aload_n 0, 1) := by decide +kernel
theorem dX9_owed_1 : decode cX9_owed 1 = .ok (.iload_n 1, 1) := by decide +kernel
theorem dX9_owed_2 : decode cX9_owed 2 = .ok (.iload_n 2, 1) := by decide +kernel
theorem dX9_owed_3 : decode cX9_owed 3 = .ok (.iload_n 3, 1) := by decide +kernel
theorem dX9_owed_4 : decode cX9_owed 4 = .ok (.invokevirtual 87, 3) := by decide +kernel
theorem dX9_owed_7 : decode cX9_owed 7 = .ok (.istore 4, 2) := by decide +kernel
theorem dX9_owed_9 : decode cX9_owed 9 = .ok (.iload 4, 2) := by decide +kernel
theorem dX9_owed_11 : decode cX9_owed 11 = .ok (.iconst (-1), 1) := by decide +kernel
theorem dX9_owed_12 : decode cX9_owed 12 = .ok (.if_icmp .ne 7, 3) := by decide +kernel
theorem dX9_owed_15 : decode cX9_owed 15 = .ok (.iconst 0, 1) := by decide +kernel
theorem dX9_owed_16 : decode cX9_owed 16 = .ok (.goto 10, 3) := by decide +kernel
theorem dX9_owed_19 : decode cX9_owed 19 = .ok (.aload_n 0, 1) := by decide +kernel
theorem dX9_owed_20 : decode cX9_owed 20 = .ok (.iload 4, 2) := by decide +kernel
theorem dX9_owed_22 : decode cX9_owed 22 = .ok (.iconst 3, 1) := by decide +kernel
theorem dX9_owed_23 : decode cX9_owed 23 = .ok (.invokevirtual 84, 3) := by decide +kernel
theorem dX9_owed_26 : decode cX9_owed 26 = .ok (.ireturn, 1) := by decide +kernel
theorem dX9_owesMore_0 : decode cX9_owesMore 0 = .ok (.aload_n 0, 1) := by decide +kernel
theorem dX9_owesMore_1 : decode cX9_owesMore 1 = .ok (.iload_n 1, 1) := by decide +kernel
theorem dX9_owesMore_2 : decode cX9_owesMore 2 = .ok (.iload_n 2, 1) := by decide +kernel
theorem dX9_owesMore_3 : decode cX9_owesMore 3 = .ok (.iload_n 3, 1) := by decide +kernel
theorem dX9_owesMore_4 : decode cX9_owesMore 4 = .ok (.invokevirtual 87, 3) := by decide +kernel
theorem dX9_owesMore_7 : decode cX9_owesMore 7 = .ok (.istore 5, 2) := by decide +kernel
theorem dX9_owesMore_9 : decode cX9_owesMore 9 = .ok (.iload 5, 2) := by decide +kernel
theorem dX9_owesMore_11 : decode cX9_owesMore 11 = .ok (.iconst (-1), 1) := by decide +kernel
theorem dX9_owesMore_12 : decode cX9_owesMore 12 = .ok (.if_icmp .ne 78, 3) := by decide +kernel
theorem dX9_owesMore_15 : decode cX9_owesMore 15 = .ok (.aload_n 0, 1) := by decide +kernel
theorem dX9_owesMore_16 : decode cX9_owesMore 16 = .ok (.bipush 6, 2) := by decide +kernel
theorem dX9_owesMore_18 : decode cX9_owesMore 18 = .ok (.invokevirtual 50, 3) := by decide +kernel
theorem dX9_owesMore_21 : decode cX9_owesMore 21 = .ok (.istore 5, 2) := by decide +kernel
theorem dX9_owesMore_23 : decode cX9_owesMore 23 = .ok (.aload_n 0, 1) := by decide +kernel
theorem dX9_owesMore_24 : decode cX9_owesMore 24 = .ok (.sipush 641, 3) := by decide +kernel
theorem dX9_owesMore_27 : decode cX9_owesMore 27 = .ok (.iconst 4, 1) := by decide +kernel
theorem dX9_owesMore_28 : decode cX9_owesMore 28 = .ok (.iload 5, 2) := by decide +kernel
theorem dX9_owesMore_30 : decode cX9_owesMore 30 = .ok (.imul, 1) := by decide +kernel
theorem dX9_owesMore_31 : decode cX9_owesMore 31 = .ok (.iadd, 1) := by decide +kernel
theorem dX9_owesMore_32 : decode cX9_owesMore 32 = .ok (.iconst 0, 1) := by decide +kernel
theorem dX9_owesMore_33 : decode cX9_owesMore 33 = .ok (.iadd, 1) := by decide +kernel
theorem dX9_owesMore_34 : decode cX9_owesMore 34 = .ok (.iload_n 1, 1) := by decide +kernel
theorem dX9_owesMore_35 : decode cX9_owesMore 35 = .ok (.invokevirtual 33, 3) := by decide +kernel
theorem dX9_owesMore_38 : decode cX9_owesMore 38 = .ok (.aload_n 0, 1) := by decide +kernel
theorem dX9_owesMore_39 : decode cX9_owesMore 39 = .ok (.sipush 641, 3) := by decide +kernel
theorem dX9_owesMore_42 : decode cX9_owesMore 42 = .ok (.iconst 4, 1) := by decide +kernel
theorem dX9_owesMore_43 : decode cX9_owesMore 43 = .ok (.iload 5, 2) := by decide +kernel
theorem dX9_owesMore_45 : decode cX9_owesMore 45 = .ok (.imul, 1) := by decide +kernel
theorem dX9_owesMore_46 : decode cX9_owesMore 46 = .ok (.iadd, 1) := by decide +kernel
theorem dX9_owesMore_47 : decode cX9_owesMore 47 = .ok (.iconst 1, 1) := by decide +kernel
theorem dX9_owesMore_48 : decode cX9_owesMore 48 = .ok (.iadd, 1) := by decide +kernel
theorem dX9_owesMore_49 : decode cX9_owesMore 49 = .ok (.iload_n 2, 1) := by decide +kernel
theorem dX9_owesMore_50 : decode cX9_owesMore 50 = .ok (.invokevirtual 33, 3) := by decide +kernel
theorem dX9_owesMore_53 : decode cX9_owesMore 53 = .ok (.aload_n 0, 1) := by decide +kernel
theorem dX9_owesMore_54 : decode cX9_owesMore 54 = .ok (.sipush 641, 3) := by decide +kernel
theorem dX9_owesMore_57 : decode cX9_owesMore 57 = .ok (.iconst 4, 1) := by decide +kernel
theorem dX9_owesMore_58 : decode cX9_owesMore 58 = .ok (.iload 5, 2) := by decide +kernel
theorem dX9_owesMore_60 : decode cX9_owesMore 60 = .ok (.imul, 1) := by decide +kernel
theorem dX9_owesMore_61 : decode cX9_owesMore 61 = .ok (.iadd, 1) := by decide +kernel
theorem dX9_owesMore_62 : decode cX9_owesMore 62 = .ok (.iconst 2, 1) := by decide +kernel
theorem dX9_owesMore_63 : decode cX9_owesMore 63 = .ok (.iadd, 1) := by decide +kernel
theorem dX9_owesMore_64 : decode cX9_owesMore 64 = .ok (.iload_n 3, 1) := by decide +kernel
theorem dX9_owesMore_65 : decode cX9_owesMore 65 = .ok (.invokevirtual 33, 3) := by decide +kernel
theorem dX9_owesMore_68 : decode cX9_owesMore 68 = .ok (.aload_n 0, 1) := by decide +kernel
theorem dX9_owesMore_69 : decode cX9_owesMore 69 = .ok (.sipush 641, 3) := by decide +kernel
theorem dX9_owesMore_72 : decode cX9_owesMore 72 = .ok (.iconst 4, 1) := by decide +kernel
theorem dX9_owesMore_73 : decode cX9_owesMore 73 = .ok (.iload 5, 2) := by decide +kernel
theorem dX9_owesMore_75 : decode cX9_owesMore 75 = .ok (.imul, 1) := by decide +kernel
theorem dX9_owesMore_76 : decode cX9_owesMore 76 = .ok (.iadd, 1) := by decide +kernel
theorem dX9_owesMore_77 : decode cX9_owesMore 77 = .ok (.iconst 3, 1) := by decide +kernel
theorem dX9_owesMore_78 : decode cX9_owesMore 78 = .ok (.iadd, 1) := by decide +kernel
theorem dX9_owesMore_79 : decode cX9_owesMore 79 = .ok (.iconst 0, 1) := by decide +kernel
theorem dX9_owesMore_80 : decode cX9_owesMore 80 = .ok (.invokevirtual 33, 3) := by decide +kernel
theorem dX9_owesMore_83 : decode cX9_owesMore 83 = .ok (.aload_n 0, 1) := by decide +kernel
theorem dX9_owesMore_84 : decode cX9_owesMore 84 = .ok (.bipush 6, 2) := by decide +kernel
theorem dX9_owesMore_86 : decode cX9_owesMore 86 = .ok (.iconst 1, 1) := by decide +kernel
theorem dX9_owesMore_87 : decode cX9_owesMore 87 = .ok (.invokevirtual 47, 3) := by decide +kernel
theorem dX9_owesMore_90 : decode cX9_owesMore 90 = .ok (.aload_n 0, 1) := by decide +kernel
theorem dX9_owesMore_91 : decode cX9_owesMore 91 = .ok (.sipush 641, 3) := by decide +kernel
theorem dX9_owesMore_94 : decode cX9_owesMore 94 = .ok (.iconst 4, 1) := by decide +kernel
theorem dX9_owesMore_95 : decode cX9_owesMore 95 = .ok (.iload 5, 2) := by decide +kernel
theorem dX9_owesMore_97 : decode cX9_owesMore 97 = .ok (.imul, 1) := by decide +kernel
theorem dX9_owesMore_98 : decode cX9_owesMore 98 = .ok (.iadd, 1) := by decide +kernel
theorem dX9_owesMore_99 : decode cX9_owesMore 99 = .ok (.iconst 3, 1) := by decide +kernel
theorem dX9_owesMore_100 : decode cX9_owesMore 100 = .ok (.iadd, 1) := by decide +kernel
theorem dX9_owesMore_101 : decode cX9_owesMore 101 = .ok (.iload 4, 2) := by decide +kernel
theorem dX9_owesMore_103 : decode cX9_owesMore 103 = .ok (.invokevirtual 47, 3) := by decide +kernel
theorem dX9_owesMore_106 : decode cX9_owesMore 106 = .ok (.return_, 1) := by decide +kernel
theorem dX9_owesLess_0 : decode cX9_owesLess 0 = .ok (.aload_n 0, 1) := by decide +kernel
theorem dX9_owesLess_1 : decode cX9_owesLess 1 = .ok (.sipush 641, 3) := by decide +kernel
theorem dX9_owesLess_4 : decode cX9_owesLess 4 = .ok (.iconst 4, 1) := by decide +kernel
theorem dX9_owesLess_5 : decode cX9_owesLess 5 = .ok (.iload_n 1, 1) := by decide +kernel
theorem dX9_owesLess_6 : decode cX9_owesLess 6 = .ok (.imul, 1) := by decide +kernel
theorem dX9_owesLess_7 : decode cX9_owesLess 7 = .ok (.iadd, 1) := by decide +kernel
theorem dX9_owesLess_8 : decode cX9_owesLess 8 = .ok (.iconst 3, 1) := by decide +kernel
theorem dX9_owesLess_9 : decode cX9_owesLess 9 = .ok (.iadd, 1) := by decide +kernel
theorem dX9_owesLess_10 : decode cX9_owesLess 10 = .ok (.iload_n 2, 1) := by decide +kernel
theorem dX9_owesLess_11 : decode cX9_owesLess 11 = .ok (.ineg, 1) := by decide +kernel
theorem dX9_owesLess_12 : decode cX9_owesLess 12 = .ok (.invokevirtual 47, 3) := by decide +kernel
theorem dX9_owesLess_15 : decode cX9_owesLess 15 = .ok (.aload_n 0, 1) := by decide +kernel
theorem dX9_owesLess_16 : decode cX9_owesLess 16 = .ok (.iload_n 1, 1) := by decide +kernel
theorem dX9_owesLess_17 : decode cX9_owesLess 17 = .ok (.iconst 3, 1) := by decide +kernel
theorem dX9_owesLess_18 : decode cX9_owesLess 18 = .ok (.invokevirtual 84, 3) := by decide +kernel
theorem dX9_owesLess_21 : decode cX9_owesLess 21 = .ok (.ifCond .le 4, 3) := by decide +kernel
theorem dX9_owesLess_24 : decode cX9_owesLess 24 = .ok (.return_, 1) := by decide +kernel
theorem dX9_owesLess_25 : decode cX9_owesLess 25 = .ok (.sipush 641, 3) := by decide +kernel
theorem dX9_owesLess_28 : decode cX9_owesLess 28 = .ok (.iconst 4, 1) := by decide +kernel
theorem dX9_owesLess_29 : decode cX9_owesLess 29 = .ok (.iload_n 1, 1) := by decide +kernel
theorem dX9_owesLess_30 : decode cX9_owesLess 30 = .ok (.imul, 1) := by decide +kernel
theorem dX9_owesLess_31 : decode cX9_owesLess 31 = .ok (.iadd, 1) := by decide +kernel
theorem dX9_owesLess_32 : decode cX9_owesLess 32 = .ok (.istore_n 3, 1) := by decide +kernel
theorem dX9_owesLess_33 : decode cX9_owesLess 33 = .ok (.iload_n 3, 1) := by decide +kernel
theorem dX9_owesLess_34 : decode cX9_owesLess 34 = .ok (.sipush 641, 3) := by decide +kernel
theorem dX9_owesLess_37 : decode cX9_owesLess 37 = .ok (.iconst 4, 1) := by decide +kernel
theorem dX9_owesLess_38 : decode cX9_owesLess 38 = .ok (.aload_n 0, 1) := by decide +kernel
theorem dX9_owesLess_39 : decode cX9_owesLess 39 = .ok (.bipush 6, 2) := by decide +kernel
theorem dX9_owesLess_41 : decode cX9_owesLess 41 = .ok (.invokevirtual 50, 3) := by decide +kernel
theorem dX9_owesLess_44 : decode cX9_owesLess 44 = .ok (.iconst 1, 1) := by decide +kernel
theorem dX9_owesLess_45 : decode cX9_owesLess 45 = .ok (.isub, 1) := by decide +kernel
theorem dX9_owesLess_46 : decode cX9_owesLess 46 = .ok (.imul, 1) := by decide +kernel
theorem dX9_owesLess_47 : decode cX9_owesLess 47 = .ok (.iadd, 1) := by decide +kernel
theorem dX9_owesLess_48 : decode cX9_owesLess 48 = .ok (.if_icmp .ge 21, 3) := by decide +kernel
theorem dX9_owesLess_51 : decode cX9_owesLess 51 = .ok (.aload_n 0, 1) := by decide +kernel
theorem dX9_owesLess_52 : decode cX9_owesLess 52 = .ok (.iload_n 3, 1) := by decide +kernel
theorem dX9_owesLess_53 : decode cX9_owesLess 53 = .ok (.aload_n 0, 1) := by decide +kernel
theorem dX9_owesLess_54 : decode cX9_owesLess 54 = .ok (.iload_n 3, 1) := by decide +kernel
theorem dX9_owesLess_55 : decode cX9_owesLess 55 = .ok (.iconst 4, 1) := by decide +kernel
theorem dX9_owesLess_56 : decode cX9_owesLess 56 = .ok (.iadd, 1) := by decide +kernel
theorem dX9_owesLess_57 : decode cX9_owesLess 57 = .ok (.invokevirtual 50, 3) := by decide +kernel
theorem dX9_owesLess_60 : decode cX9_owesLess 60 = .ok (.invokevirtual 33, 3) := by decide +kernel
theorem dX9_owesLess_63 : decode cX9_owesLess 63 = .ok (.iinc 3 1, 3) := by decide +kernel
theorem dX9_owesLess_66 : decode cX9_owesLess 66 = .ok (.goto (-33), 3) := by decide +kernel
theorem dX9_owesLess_69 : decode cX9_owesLess 69 = .ok (.aload_n 0, 1) := by decide +kernel
theorem dX9_owesLess_70 : decode cX9_owesLess 70 = .ok (.bipush 6, 2) := by decide +kernel
theorem dX9_owesLess_72 : decode cX9_owesLess 72 = .ok (.iconst (-1), 1) := by decide +kernel
theorem dX9_owesLess_73 : decode cX9_owesLess 73 = .ok (.invokevirtual 47, 3) := by decide +kernel
theorem dX9_owesLess_76 : decode cX9_owesLess 76 = .ok (.return_, 1) := by decide +kernel
theorem dX9_allOf_0 : decode cX9_allOf 0 = .ok (.iconst 0, 1) := by decide +kernel
theorem dX9_allOf_1 : decode cX9_allOf 1 = .ok (.istore_n 3, 1) := by decide +kernel
theorem dX9_allOf_2 : decode cX9_allOf 2 = .ok (.iconst 0, 1) := by decide +kernel
theorem dX9_allOf_3 : decode cX9_allOf 3 = .ok (.istore 4, 2) := by decide +kernel
theorem dX9_allOf_5 : decode cX9_allOf 5 = .ok (.iload 4, 2) := by decide +kernel
theorem dX9_allOf_7 : decode cX9_allOf 7 = .ok (.aload_n 0, 1) := by decide +kernel
theorem dX9_allOf_8 : decode cX9_allOf 8 = .ok (.bipush 6, 2) := by decide +kernel
theorem dX9_allOf_10 : decode cX9_allOf 10 = .ok (.invokevirtual 50, 3) := by decide +kernel
theorem dX9_allOf_13 : decode cX9_allOf 13 = .ok (.if_icmp .ge 34, 3) := by decide +kernel
theorem dX9_allOf_16 : decode cX9_allOf 16 = .ok (.iload_n 3, 1) := by decide +kernel
theorem dX9_allOf_17 : decode cX9_allOf 17 = .ok (.aload_n 0, 1) := by decide +kernel
theorem dX9_allOf_18 : decode cX9_allOf 18 = .ok (.iload 4, 2) := by decide +kernel
theorem dX9_allOf_20 : decode cX9_allOf 20 = .ok (.iload_n 2, 1) := by decide +kernel
theorem dX9_allOf_21 : decode cX9_allOf 21 = .ok (.invokevirtual 84, 3) := by decide +kernel
theorem dX9_allOf_24 : decode cX9_allOf 24 = .ok (.iload_n 1, 1) := by decide +kernel
theorem dX9_allOf_25 : decode cX9_allOf 25 = .ok (.if_icmp .ne 13, 3) := by decide +kernel
theorem dX9_allOf_28 : decode cX9_allOf 28 = .ok (.aload_n 0, 1) := by decide +kernel
theorem dX9_allOf_29 : decode cX9_allOf 29 = .ok (.iload 4, 2) := by decide +kernel
theorem dX9_allOf_31 : decode cX9_allOf 31 = .ok (.iconst 3, 1) := by decide +kernel
theorem dX9_allOf_32 : decode cX9_allOf 32 = .ok (.invokevirtual 84, 3) := by decide +kernel
theorem dX9_allOf_35 : decode cX9_allOf 35 = .ok (.goto 4, 3) := by decide +kernel
theorem dX9_allOf_38 : decode cX9_allOf 38 = .ok (.iconst 0, 1) := by decide +kernel
theorem dX9_allOf_39 : decode cX9_allOf 39 = .ok (.iadd, 1) := by decide +kernel
theorem dX9_allOf_40 : decode cX9_allOf 40 = .ok (.istore_n 3, 1) := by decide +kernel
theorem dX9_allOf_41 : decode cX9_allOf 41 = .ok (.iinc 4 1, 3) := by decide +kernel
theorem dX9_allOf_44 : decode cX9_allOf 44 = .ok (.goto (-39), 3) := by decide +kernel
theorem dX9_allOf_47 : decode cX9_allOf 47 = .ok (.iload_n 3, 1) := by decide +kernel
theorem dX9_allOf_48 : decode cX9_allOf 48 = .ok (.ireturn, 1) := by decide +kernel
theorem dX9_allOwed_0 : decode cX9_allOwed 0 = .ok (.iconst 0, 1) := by decide +kernel
theorem dX9_allOwed_1 : decode cX9_allOwed 1 = .ok (.istore_n 1, 1) := by decide +kernel
theorem dX9_allOwed_2 : decode cX9_allOwed 2 = .ok (.iconst 0, 1) := by decide +kernel
theorem dX9_allOwed_3 : decode cX9_allOwed 3 = .ok (.istore_n 2, 1) := by decide +kernel
theorem dX9_allOwed_4 : decode cX9_allOwed 4 = .ok (.iload_n 2, 1) := by decide +kernel
theorem dX9_allOwed_5 : decode cX9_allOwed 5 = .ok (.aload_n 0, 1) := by decide +kernel
theorem dX9_allOwed_6 : decode cX9_allOwed 6 = .ok (.bipush 6, 2) := by decide +kernel
theorem dX9_allOwed_8 : decode cX9_allOwed 8 = .ok (.invokevirtual 50, 3) := by decide +kernel
theorem dX9_allOwed_11 : decode cX9_allOwed 11 = .ok (.if_icmp .ge 18, 3) := by decide +kernel
theorem dX9_allOwed_14 : decode cX9_allOwed 14 = .ok (.iload_n 1, 1) := by decide +kernel
theorem dX9_allOwed_15 : decode cX9_allOwed 15 = .ok (.aload_n 0, 1) := by decide +kernel
theorem dX9_allOwed_16 : decode cX9_allOwed 16 = .ok (.iload_n 2, 1) := by decide +kernel
theorem dX9_allOwed_17 : decode cX9_allOwed 17 = .ok (.iconst 3, 1) := by decide +kernel
theorem dX9_allOwed_18 : decode cX9_allOwed 18 = .ok (.invokevirtual 84, 3) := by decide +kernel
theorem dX9_allOwed_21 : decode cX9_allOwed 21 = .ok (.iadd, 1) := by decide +kernel
theorem dX9_allOwed_22 : decode cX9_allOwed 22 = .ok (.istore_n 1, 1) := by decide +kernel
theorem dX9_allOwed_23 : decode cX9_allOwed 23 = .ok (.iinc 2 1, 3) := by decide +kernel
theorem dX9_allOwed_26 : decode cX9_allOwed 26 = .ok (.goto (-22), 3) := by decide +kernel
theorem dX9_allOwed_29 : decode cX9_allOwed 29 = .ok (.iload_n 1, 1) := by decide +kernel
theorem dX9_allOwed_30 : decode cX9_allOwed 30 = .ok (.ireturn, 1) := by decide +kernel
theorem dX9_isNearBench_0 : decode cX9_isNearBench 0 = .ok (.aload_n 0, 1) := by decide +kernel
theorem dX9_isNearBench_1 : decode cX9_isNearBench 1 = .ok (.iload_n 1, 1) := by decide +kernel
theorem dX9_isNearBench_2 : decode cX9_isNearBench 2 = .ok (.iconst 0, 1) := by decide +kernel
theorem dX9_isNearBench_3 : decode cX9_isNearBench 3 = .ok (.invokevirtual 54, 3) := by decide +kernel
theorem dX9_isNearBench_6 : decode cX9_isNearBench 6 = .ok (.iload_n 2, 1) := by decide +kernel
theorem dX9_isNearBench_7 : decode cX9_isNearBench 7 = .ok (.isub, 1) := by decide +kernel
theorem dX9_isNearBench_8 : decode cX9_isNearBench 8 = .ok (.invokestatic 90, 3) := by decide +kernel
theorem dX9_isNearBench_11 : decode cX9_isNearBench 11 = .ok (.iconst 2, 1) := by decide +kernel
theorem dX9_isNearBench_12 : decode cX9_isNearBench 12 = .ok (.if_icmp .ge 22, 3) := by decide +kernel
theorem dX9_isNearBench_15 : decode cX9_isNearBench 15 = .ok (.aload_n 0, 1) := by decide +kernel
theorem dX9_isNearBench_16 : decode cX9_isNearBench 16 = .ok (.iload_n 1, 1) := by decide +kernel
theorem dX9_isNearBench_17 : decode cX9_isNearBench 17 = .ok (.iconst 1, 1) := by decide +kernel
theorem dX9_isNearBench_18 : decode cX9_isNearBench 18 = .ok (.invokevirtual 54, 3) := by decide +kernel
theorem dX9_isNearBench_21 : decode cX9_isNearBench 21 = .ok (.iload_n 3, 1) := by decide +kernel
theorem dX9_isNearBench_22 : decode cX9_isNearBench 22 = .ok (.isub, 1) := by decide +kernel
theorem dX9_isNearBench_23 : decode cX9_isNearBench 23 = .ok (.invokestatic 90, 3) := by decide +kernel
theorem dX9_isNearBench_26 : decode cX9_isNearBench 26 = .ok (.iconst 2, 1) := by decide +kernel
theorem dX9_isNearBench_27 : decode cX9_isNearBench 27 = .ok (.if_icmp .ge 7, 3) := by decide +kernel
theorem dX9_isNearBench_30 : decode cX9_isNearBench 30 = .ok (.iconst 1, 1) := by decide +kernel
theorem dX9_isNearBench_31 : decode cX9_isNearBench 31 = .ok (.goto 4, 3) := by decide +kernel
theorem dX9_isNearBench_34 : decode cX9_isNearBench 34 = .ok (.iconst 0, 1) := by decide +kernel
theorem dX9_isNearBench_35 : decode cX9_isNearBench 35 = .ok (.ireturn, 1) := by decide +kernel
theorem dX9_areNear_0 : decode cX9_areNear 0 = .ok (.aload_n 0, 1) := by decide +kernel
theorem dX9_areNear_1 : decode cX9_areNear 1 = .ok (.iload_n 1, 1) := by decide +kernel
theorem dX9_areNear_2 : decode cX9_areNear 2 = .ok (.aload_n 0, 1) := by decide +kernel
theorem dX9_areNear_3 : decode cX9_areNear 3 = .ok (.iload_n 2, 1) := by decide +kernel
theorem dX9_areNear_4 : decode cX9_areNear 4 = .ok (.iconst 0, 1) := by decide +kernel
theorem dX9_areNear_5 : decode cX9_areNear 5 = .ok (.invokevirtual 54, 3) := by decide +kernel
theorem dX9_areNear_8 : decode cX9_areNear 8 = .ok (.aload_n 0, 1) := by decide +kernel
theorem dX9_areNear_9 : decode cX9_areNear 9 = .ok (.iload_n 2, 1) := by decide +kernel
theorem dX9_areNear_10 : decode cX9_areNear 10 = .ok (.iconst 1, 1) := by decide +kernel
theorem dX9_areNear_11 : decode cX9_areNear 11 = .ok (.invokevirtual 54, 3) := by decide +kernel
theorem dX9_areNear_14 : decode cX9_areNear 14 = .ok (.invokevirtual 95, 3) := by decide +kernel
theorem dX9_areNear_17 : decode cX9_areNear 17 = .ok (.ireturn, 1) := by decide +kernel
theorem dX9_spies_0 : decode cX9_spies 0 = .ok (.aload_n 0, 1) := by decide +kernel
theorem dX9_spies_1 : decode cX9_spies 1 = .ok (.iload_n 1, 1) := by decide +kernel
theorem dX9_spies_2 : decode cX9_spies 2 = .ok (.iconst 4, 1) := by decide +kernel
theorem dX9_spies_3 : decode cX9_spies 3 = .ok (.invokevirtual 54, 3) := by decide +kernel
theorem dX9_spies_6 : decode cX9_spies 6 = .ok (.iconst 1, 1) := by decide +kernel
theorem dX9_spies_7 : decode cX9_spies 7 = .ok (.if_icmp .ne 43, 3) := by decide +kernel
theorem dX9_spies_10 : decode cX9_spies 10 = .ok (.aload_n 0, 1) := by decide +kernel
theorem dX9_spies_11 : decode cX9_spies 11 = .ok (.iload_n 1, 1) := by decide +kernel
theorem dX9_spies_12 : decode cX9_spies 12 = .ok (.invokevirtual 99, 3) := by decide +kernel
theorem dX9_spies_15 : decode cX9_spies 15 = .ok (.ifCond .ne 35, 3) := by decide +kernel
theorem dX9_spies_18 : decode cX9_spies 18 = .ok (.iload_n 1, 1) := by decide +kernel
theorem dX9_spies_19 : decode cX9_spies 19 = .ok (.iload_n 2, 1) := by decide +kernel
theorem dX9_spies_20 : decode cX9_spies 20 = .ok (.if_icmp .eq 30, 3) := by decide +kernel
theorem dX9_spies_23 : decode cX9_spies 23 = .ok (.iload_n 1, 1) := by decide +kernel
theorem dX9_spies_24 : decode cX9_spies 24 = .ok (.iload_n 3, 1) := by decide +kernel
theorem dX9_spies_25 : decode cX9_spies 25 = .ok (.if_icmp .eq 25, 3) := by decide +kernel
theorem dX9_spies_28 : decode cX9_spies 28 = .ok (.aload_n 0, 1) := by decide +kernel
theorem dX9_spies_29 : decode cX9_spies 29 = .ok (.iload_n 1, 1) := by decide +kernel
theorem dX9_spies_30 : decode cX9_spies 30 = .ok (.iload_n 2, 1) := by decide +kernel
theorem dX9_spies_31 : decode cX9_spies 31 = .ok (.invokevirtual 103, 3) := by decide +kernel
theorem dX9_spies_34 : decode cX9_spies 34 = .ok (.ifCond .ne 12, 3) := by decide +kernel
theorem dX9_spies_37 : decode cX9_spies 37 = .ok (.aload_n 0, 1) := by decide +kernel
theorem dX9_spies_38 : decode cX9_spies 38 = .ok (.iload_n 1, 1) := by decide +kernel
theorem dX9_spies_39 : decode cX9_spies 39 = .ok (.iload_n 3, 1) := by decide +kernel
theorem dX9_spies_40 : decode cX9_spies 40 = .ok (.invokevirtual 103, 3) := by decide +kernel
theorem dX9_spies_43 : decode cX9_spies 43 = .ok (.ifCond .eq 7, 3) := by decide +kernel
theorem dX9_spies_46 : decode cX9_spies 46 = .ok (.iconst 1, 1) := by decide +kernel
theorem dX9_spies_47 : decode cX9_spies 47 = .ok (.goto 4, 3) := by decide +kernel
theorem dX9_spies_50 : decode cX9_spies 50 = .ok (.iconst 0, 1) := by decide +kernel
theorem dX9_spies_51 : decode cX9_spies 51 = .ok (.ireturn, 1) := by decide +kernel
theorem dX9_allSeers_0 : decode cX9_allSeers 0 = .ok (.iconst 0, 1) := by decide +kernel
theorem dX9_allSeers_1 : decode cX9_allSeers 1 = .ok (.istore_n 3, 1) := by decide +kernel
theorem dX9_allSeers_2 : decode cX9_allSeers 2 = .ok (.iconst 0, 1) := by decide +kernel
theorem dX9_allSeers_3 : decode cX9_allSeers 3 = .ok (.istore 4, 2) := by decide +kernel
theorem dX9_allSeers_5 : decode cX9_allSeers 5 = .ok (.iload 4, 2) := by decide +kernel
theorem dX9_allSeers_7 : decode cX9_allSeers 7 = .ok (.aload_n 0, 1) := by decide +kernel
theorem dX9_allSeers_8 : decode cX9_allSeers 8 = .ok (.iconst 0, 1) := by decide +kernel
theorem dX9_allSeers_9 : decode cX9_allSeers 9 = .ok (.invokevirtual 50, 3) := by decide +kernel
theorem dX9_allSeers_12 : decode cX9_allSeers 12 = .ok (.if_icmp .ge 23, 3) := by decide +kernel
theorem dX9_allSeers_15 : decode cX9_allSeers 15 = .ok (.iload_n 3, 1) := by decide +kernel
theorem dX9_allSeers_16 : decode cX9_allSeers 16 = .ok (.aload_n 0, 1) := by decide +kernel
theorem dX9_allSeers_17 : decode cX9_allSeers 17 = .ok (.iload 4, 2) := by decide +kernel
theorem dX9_allSeers_19 : decode cX9_allSeers 19 = .ok (.iload_n 1, 1) := by decide +kernel
theorem dX9_allSeers_20 : decode cX9_allSeers 20 = .ok (.iload_n 2, 1) := by decide +kernel
theorem dX9_allSeers_21 : decode cX9_allSeers 21 = .ok (.invokevirtual 107, 3) := by decide +kernel
theorem dX9_allSeers_24 : decode cX9_allSeers 24 = .ok (.invokestatic 110, 3) := by decide +kernel
theorem dX9_allSeers_27 : decode cX9_allSeers 27 = .ok (.iadd, 1) := by decide +kernel
theorem dX9_allSeers_28 : decode cX9_allSeers 28 = .ok (.istore_n 3, 1) := by decide +kernel
theorem dX9_allSeers_29 : decode cX9_allSeers 29 = .ok (.iinc 4 1, 3) := by decide +kernel
theorem dX9_allSeers_32 : decode cX9_allSeers 32 = .ok (.goto (-27), 3) := by decide +kernel
theorem dX9_allSeers_35 : decode cX9_allSeers 35 = .ok (.iload_n 3, 1) := by decide +kernel
theorem dX9_allSeers_36 : decode cX9_allSeers 36 = .ok (.ireturn, 1) := by decide +kernel
theorem dX9_sees_0 : decode cX9_sees 0 = .ok (.aload_n 0, 1) := by decide +kernel
theorem dX9_sees_1 : decode cX9_sees 1 = .ok (.iload_n 2, 1) := by decide +kernel
theorem dX9_sees_2 : decode cX9_sees 2 = .ok (.bipush 6, 2) := by decide +kernel
theorem dX9_sees_4 : decode cX9_sees 4 = .ok (.iconst 1, 1) := by decide +kernel
theorem dX9_sees_5 : decode cX9_sees 5 = .ok (.invokevirtual 68, 3) := by decide +kernel
theorem dX9_sees_8 : decode cX9_sees 8 = .ok (.aload_n 0, 1) := by decide +kernel
theorem dX9_sees_9 : decode cX9_sees 9 = .ok (.iload_n 2, 1) := by decide +kernel
theorem dX9_sees_10 : decode cX9_sees 10 = .ok (.bipush 9, 2) := by decide +kernel
theorem dX9_sees_12 : decode cX9_sees 12 = .ok (.aload_n 0, 1) := by decide +kernel
theorem dX9_sees_13 : decode cX9_sees 13 = .ok (.iload_n 2, 1) := by decide +kernel
theorem dX9_sees_14 : decode cX9_sees 14 = .ok (.bipush 9, 2) := by decide +kernel
theorem dX9_sees_16 : decode cX9_sees 16 = .ok (.invokevirtual 54, 3) := by decide +kernel
theorem dX9_sees_19 : decode cX9_sees 19 = .ok (.iconst 1, 1) := by decide +kernel
theorem dX9_sees_20 : decode cX9_sees 20 = .ok (.iload_n 1, 1) := by decide +kernel
theorem dX9_sees_21 : decode cX9_sees 21 = .ok (.ishl, 1) := by decide +kernel
theorem dX9_sees_22 : decode cX9_sees 22 = .ok (.ior, 1) := by decide +kernel
theorem dX9_sees_23 : decode cX9_sees 23 = .ok (.invokevirtual 58, 3) := by decide +kernel
theorem dX9_sees_26 : decode cX9_sees 26 = .ok (.return_, 1) := by decide +kernel
theorem dX9_seen_0 : decode cX9_seen 0 = .ok (.iconst 0, 1) := by decide +kernel
theorem dX9_seen_1 : decode cX9_seen 1 = .ok (.istore_n 3, 1) := by decide +kernel
theorem dX9_seen_2 : decode cX9_seen 2 = .ok (.iconst 0, 1) := by decide +kernel
theorem dX9_seen_3 : decode cX9_seen 3 = .ok (.istore 4, 2) := by decide +kernel
theorem dX9_seen_5 : decode cX9_seen 5 = .ok (.iload 4, 2) := by decide +kernel
theorem dX9_seen_7 : decode cX9_seen 7 = .ok (.aload_n 0, 1) := by decide +kernel
theorem dX9_seen_8 : decode cX9_seen 8 = .ok (.iconst 0, 1) := by decide +kernel
theorem dX9_seen_9 : decode cX9_seen 9 = .ok (.invokevirtual 50, 3) := by decide +kernel
theorem dX9_seen_12 : decode cX9_seen 12 = .ok (.if_icmp .ge 40, 3) := by decide +kernel
theorem dX9_seen_15 : decode cX9_seen 15 = .ok (.aload_n 0, 1) := by decide +kernel
theorem dX9_seen_16 : decode cX9_seen 16 = .ok (.iload 4, 2) := by decide +kernel
theorem dX9_seen_18 : decode cX9_seen 18 = .ok (.iload_n 1, 1) := by decide +kernel
theorem dX9_seen_19 : decode cX9_seen 19 = .ok (.iload_n 2, 1) := by decide +kernel
theorem dX9_seen_20 : decode cX9_seen 20 = .ok (.invokevirtual 107, 3) := by decide +kernel
theorem dX9_seen_23 : decode cX9_seen 23 = .ok (.ifCond .ne 6, 3) := by decide +kernel
theorem dX9_seen_26 : decode cX9_seen 26 = .ok (.goto 20, 3) := by decide +kernel
theorem dX9_seen_29 : decode cX9_seen 29 = .ok (.aload_n 0, 1) := by decide +kernel
theorem dX9_seen_30 : decode cX9_seen 30 = .ok (.iload 4, 2) := by decide +kernel
theorem dX9_seen_32 : decode cX9_seen 32 = .ok (.iload_n 1, 1) := by decide +kernel
theorem dX9_seen_33 : decode cX9_seen 33 = .ok (.invokevirtual 114, 3) := by decide +kernel
theorem dX9_seen_36 : decode cX9_seen 36 = .ok (.aload_n 0, 1) := by decide +kernel
theorem dX9_seen_37 : decode cX9_seen 37 = .ok (.iload 4, 2) := by decide +kernel
theorem dX9_seen_39 : decode cX9_seen 39 = .ok (.iload_n 2, 1) := by decide +kernel
theorem dX9_seen_40 : decode cX9_seen 40 = .ok (.invokevirtual 114, 3) := by decide +kernel
theorem dX9_seen_43 : decode cX9_seen 43 = .ok (.iinc 3 1, 3) := by decide +kernel
theorem dX9_seen_46 : decode cX9_seen 46 = .ok (.iinc 4 1, 3) := by decide +kernel
theorem dX9_seen_49 : decode cX9_seen 49 = .ok (.goto (-44), 3) := by decide +kernel
theorem dX9_seen_52 : decode cX9_seen 52 = .ok (.aload_n 0, 1) := by decide +kernel
theorem dX9_seen_53 : decode cX9_seen 53 = .ok (.bipush 7, 2) := by decide +kernel
theorem dX9_seen_55 : decode cX9_seen 55 = .ok (.iload_n 3, 1) := by decide +kernel
theorem dX9_seen_56 : decode cX9_seen 56 = .ok (.invokevirtual 117, 3) := by decide +kernel
theorem dX9_seen_59 : decode cX9_seen 59 = .ok (.iload_n 3, 1) := by decide +kernel
theorem dX9_seen_60 : decode cX9_seen 60 = .ok (.ireturn, 1) := by decide +kernel
theorem dX9_spiesNear_0 : decode cX9_spiesNear 0 = .ok (.iconst 0, 1) := by decide +kernel
theorem dX9_spiesNear_1 : decode cX9_spiesNear 1 = .ok (.istore 4, 2) := by decide +kernel
theorem dX9_spiesNear_3 : decode cX9_spiesNear 3 = .ok (.iconst 0, 1) := by decide +kernel
theorem dX9_spiesNear_4 : decode cX9_spiesNear 4 = .ok (.istore 5, 2) := by decide +kernel
theorem dX9_spiesNear_6 : decode cX9_spiesNear 6 = .ok (.iload 5, 2) := by decide +kernel
theorem dX9_spiesNear_8 : decode cX9_spiesNear 8 = .ok (.aload_n 0, 1) := by decide +kernel
theorem dX9_spiesNear_9 : decode cX9_spiesNear 9 = .ok (.iconst 0, 1) := by decide +kernel
theorem dX9_spiesNear_10 : decode cX9_spiesNear 10 = .ok (.invokevirtual 50, 3) := by decide +kernel
theorem dX9_spiesNear_13 : decode cX9_spiesNear 13 = .ok (.if_icmp .ge 59, 3) := by decide +kernel
theorem dX9_spiesNear_16 : decode cX9_spiesNear 16 = .ok (.iload 4, 2) := by decide +kernel
theorem dX9_spiesNear_18 : decode cX9_spiesNear 18 = .ok (.iload 5, 2) := by decide +kernel
theorem dX9_spiesNear_20 : decode cX9_spiesNear 20 = .ok (.iload_n 1, 1) := by decide +kernel
theorem dX9_spiesNear_21 : decode cX9_spiesNear 21 = .ok (.if_icmp .eq 38, 3) := by decide +kernel
theorem dX9_spiesNear_24 : decode cX9_spiesNear 24 = .ok (.aload_n 0, 1) := by decide +kernel
theorem dX9_spiesNear_25 : decode cX9_spiesNear 25 = .ok (.iload 5, 2) := by decide +kernel
theorem dX9_spiesNear_27 : decode cX9_spiesNear 27 = .ok (.iconst 4, 1) := by decide +kernel
theorem dX9_spiesNear_28 : decode cX9_spiesNear 28 = .ok (.invokevirtual 54, 3) := by decide +kernel
theorem dX9_spiesNear_31 : decode cX9_spiesNear 31 = .ok (.iconst 1, 1) := by decide +kernel
theorem dX9_spiesNear_32 : decode cX9_spiesNear 32 = .ok (.if_icmp .ne 27, 3) := by decide +kernel
theorem dX9_spiesNear_35 : decode cX9_spiesNear 35 = .ok (.aload_n 0, 1) := by decide +kernel
theorem dX9_spiesNear_36 : decode cX9_spiesNear 36 = .ok (.iload 5, 2) := by decide +kernel
theorem dX9_spiesNear_38 : decode cX9_spiesNear 38 = .ok (.invokevirtual 99, 3) := by decide +kernel
theorem dX9_spiesNear_41 : decode cX9_spiesNear 41 = .ok (.ifCond .ne 18, 3) := by decide +kernel
theorem dX9_spiesNear_44 : decode cX9_spiesNear 44 = .ok (.aload_n 0, 1) := by decide +kernel
theorem dX9_spiesNear_45 : decode cX9_spiesNear 45 = .ok (.iload 5, 2) := by decide +kernel
theorem dX9_spiesNear_47 : decode cX9_spiesNear 47 = .ok (.iload_n 2, 1) := by decide +kernel
theorem dX9_spiesNear_48 : decode cX9_spiesNear 48 = .ok (.iload_n 3, 1) := by decide +kernel
theorem dX9_spiesNear_49 : decode cX9_spiesNear 49 = .ok (.invokevirtual 95, 3) := by decide +kernel
theorem dX9_spiesNear_52 : decode cX9_spiesNear 52 = .ok (.ifCond .eq 7, 3) := by decide +kernel
theorem dX9_spiesNear_55 : decode cX9_spiesNear 55 = .ok (.iconst 1, 1) := by decide +kernel
theorem dX9_spiesNear_56 : decode cX9_spiesNear 56 = .ok (.goto 4, 3) := by decide +kernel
theorem dX9_spiesNear_59 : decode cX9_spiesNear 59 = .ok (.iconst 0, 1) := by decide +kernel
theorem dX9_spiesNear_60 : decode cX9_spiesNear 60 = .ok (.invokestatic 110, 3) := by decide +kernel
theorem dX9_spiesNear_63 : decode cX9_spiesNear 63 = .ok (.iadd, 1) := by decide +kernel
theorem dX9_spiesNear_64 : decode cX9_spiesNear 64 = .ok (.istore 4, 2) := by decide +kernel
theorem dX9_spiesNear_66 : decode cX9_spiesNear 66 = .ok (.iinc 5 1, 3) := by decide +kernel
theorem dX9_spiesNear_69 : decode cX9_spiesNear 69 = .ok (.goto (-63), 3) := by decide +kernel
theorem dX9_spiesNear_72 : decode cX9_spiesNear 72 = .ok (.iload 4, 2) := by decide +kernel
theorem dX9_spiesNear_74 : decode cX9_spiesNear 74 = .ok (.ireturn, 1) := by decide +kernel
theorem dX9_pupilOn_0 : decode cX9_pupilOn 0 = .ok (.iconst 0, 1) := by decide +kernel
theorem dX9_pupilOn_1 : decode cX9_pupilOn 1 = .ok (.istore_n 3, 1) := by decide +kernel
theorem dX9_pupilOn_2 : decode cX9_pupilOn 2 = .ok (.iload_n 3, 1) := by decide +kernel
theorem dX9_pupilOn_3 : decode cX9_pupilOn 3 = .ok (.aload_n 0, 1) := by decide +kernel
theorem dX9_pupilOn_4 : decode cX9_pupilOn 4 = .ok (.iconst 0, 1) := by decide +kernel
theorem dX9_pupilOn_5 : decode cX9_pupilOn 5 = .ok (.invokevirtual 50, 3) := by decide +kernel
theorem dX9_pupilOn_8 : decode cX9_pupilOn 8 = .ok (.if_icmp .ge 31, 3) := by decide +kernel
theorem dX9_pupilOn_11 : decode cX9_pupilOn 11 = .ok (.aload_n 0, 1) := by decide +kernel
