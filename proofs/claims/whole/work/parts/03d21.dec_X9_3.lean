theorem dX9_witness_45 : decode cX9_witness 45 = .ok (.iconst 1, 1) := by decide +kernel
theorem dX9_witness_46 : decode cX9_witness 46 = .ok (.iand, 1) := by decide +kernel
theorem dX9_witness_47 : decode cX9_witness 47 = .ok (.ifCond .ne 6, 3) := by decide +kernel
theorem dX9_witness_50 : decode cX9_witness 50 = .ok (.goto 13, 3) := by decide +kernel
theorem dX9_witness_53 : decode cX9_witness 53 = .ok (.iload_n 3, 1) := by decide +kernel
theorem dX9_witness_54 : decode cX9_witness 54 = .ok (.ifCond .ne 6, 3) := by decide +kernel
theorem dX9_witness_57 : decode cX9_witness 57 = .ok (.iload 4, 2) := by decide +kernel
theorem dX9_witness_59 : decode cX9_witness 59 = .ok (.ireturn, 1) := by decide +kernel
theorem dX9_witness_60 : decode cX9_witness 60 = .ok (.iinc 3 (-1), 3) := by decide +kernel
theorem dX9_witness_63 : decode cX9_witness 63 = .ok (.iinc 4 1, 3) := by decide +kernel
theorem dX9_witness_66 : decode cX9_witness 66 = .ok (.goto (-41), 3) := by decide +kernel
theorem dX9_witness_69 : decode cX9_witness 69 = .ok (.iconst (-1), 1) := by decide +kernel
theorem dX9_witness_70 : decode cX9_witness 70 = .ok (.ireturn, 1) := by decide +kernel
theorem dX9_bench_0 : decode cX9_bench 0 = .ok (.aload_n 0, 1) := by decide +kernel
theorem dX9_bench_1 : decode cX9_bench 1 = .ok (.iconst 0, 1) := by decide +kernel
theorem dX9_bench_2 : decode cX9_bench 2 = .ok (.putfield 41, 3) := by decide +kernel
theorem dX9_bench_5 : decode cX9_bench 5 = .ok (.aload_n 0, 1) := by decide +kernel
theorem dX9_bench_6 : decode cX9_bench 6 = .ok (.iload_n 1, 1) := by decide +kernel
theorem dX9_bench_7 : decode cX9_bench 7 = .ok (.iconst 0, 1) := by decide +kernel
theorem dX9_bench_8 : decode cX9_bench 8 = .ok (.iconst 5, 1) := by decide +kernel
theorem dX9_bench_9 : decode cX9_bench 9 = .ok (.invokestatic 162, 3) := by decide +kernel
theorem dX9_bench_12 : decode cX9_bench 12 = .ok (.ifCond .eq 16, 3) := by decide +kernel
theorem dX9_bench_15 : decode cX9_bench 15 = .ok (.iload_n 2, 1) := by decide +kernel
theorem dX9_bench_16 : decode cX9_bench 16 = .ok (.iconst 0, 1) := by decide +kernel
theorem dX9_bench_17 : decode cX9_bench 17 = .ok (.iconst 5, 1) := by decide +kernel
theorem dX9_bench_18 : decode cX9_bench 18 = .ok (.invokestatic 162, 3) := by decide +kernel
theorem dX9_bench_21 : decode cX9_bench 21 = .ok (.ifCond .eq 7, 3) := by decide +kernel
theorem dX9_bench_24 : decode cX9_bench 24 = .ok (.iconst 1, 1) := by decide +kernel
theorem dX9_bench_25 : decode cX9_bench 25 = .ok (.goto 4, 3) := by decide +kernel
theorem dX9_bench_28 : decode cX9_bench 28 = .ok (.iconst 0, 1) := by decide +kernel
theorem dX9_bench_29 : decode cX9_bench 29 = .ok (.iconst 1, 1) := by decide +kernel
theorem dX9_bench_30 : decode cX9_bench 30 = .ok (.invokevirtual 158, 3) := by decide +kernel
theorem dX9_bench_33 : decode cX9_bench 33 = .ok (.ifCond .eq 12, 3) := by decide +kernel
theorem dX9_bench_36 : decode cX9_bench 36 = .ok (.aload_n 0, 1) := by decide +kernel
theorem dX9_bench_37 : decode cX9_bench 37 = .ok (.iload_n 1, 1) := by decide +kernel
theorem dX9_bench_38 : decode cX9_bench 38 = .ok (.iload_n 2, 1) := by decide +kernel
theorem dX9_bench_39 : decode cX9_bench 39 = .ok (.invokevirtual 214, 3) := by decide +kernel
theorem dX9_bench_42 : decode cX9_bench 42 = .ok (.goto 4, 3) := by decide +kernel
theorem dX9_bench_45 : decode cX9_bench 45 = .ok (.iconst 0, 1) := by decide +kernel
theorem dX9_bench_46 : decode cX9_bench 46 = .ok (.ireturn, 1) := by decide +kernel
theorem dX9_seers_0 : decode cX9_seers 0 = .ok (.aload_n 0, 1) := by decide +kernel
theorem dX9_seers_1 : decode cX9_seers 1 = .ok (.iconst 0, 1) := by decide +kernel
theorem dX9_seers_2 : decode cX9_seers 2 = .ok (.putfield 41, 3) := by decide +kernel
theorem dX9_seers_5 : decode cX9_seers 5 = .ok (.aload_n 0, 1) := by decide +kernel
theorem dX9_seers_6 : decode cX9_seers 6 = .ok (.aload_n 0, 1) := by decide +kernel
theorem dX9_seers_7 : decode cX9_seers 7 = .ok (.iload_n 1, 1) := by decide +kernel
theorem dX9_seers_8 : decode cX9_seers 8 = .ok (.invokevirtual 297, 3) := by decide +kernel
theorem dX9_seers_11 : decode cX9_seers 11 = .ok (.ifCond .eq 15, 3) := by decide +kernel
theorem dX9_seers_14 : decode cX9_seers 14 = .ok (.aload_n 0, 1) := by decide +kernel
theorem dX9_seers_15 : decode cX9_seers 15 = .ok (.iload_n 2, 1) := by decide +kernel
theorem dX9_seers_16 : decode cX9_seers 16 = .ok (.invokevirtual 297, 3) := by decide +kernel
theorem dX9_seers_19 : decode cX9_seers 19 = .ok (.ifCond .eq 7, 3) := by decide +kernel
theorem dX9_seers_22 : decode cX9_seers 22 = .ok (.iconst 1, 1) := by decide +kernel
theorem dX9_seers_23 : decode cX9_seers 23 = .ok (.goto 4, 3) := by decide +kernel
theorem dX9_seers_26 : decode cX9_seers 26 = .ok (.iconst 0, 1) := by decide +kernel
theorem dX9_seers_27 : decode cX9_seers 27 = .ok (.iconst 1, 1) := by decide +kernel
theorem dX9_seers_28 : decode cX9_seers 28 = .ok (.invokevirtual 158, 3) := by decide +kernel
theorem dX9_seers_31 : decode cX9_seers 31 = .ok (.ifCond .eq 30, 3) := by decide +kernel
theorem dX9_seers_34 : decode cX9_seers 34 = .ok (.aload_n 0, 1) := by decide +kernel
theorem dX9_seers_35 : decode cX9_seers 35 = .ok (.iload_n 1, 1) := by decide +kernel
theorem dX9_seers_36 : decode cX9_seers 36 = .ok (.iload_n 2, 1) := by decide +kernel
theorem dX9_seers_37 : decode cX9_seers 37 = .ok (.if_icmp .eq 7, 3) := by decide +kernel
theorem dX9_seers_40 : decode cX9_seers 40 = .ok (.iconst 1, 1) := by decide +kernel
theorem dX9_seers_41 : decode cX9_seers 41 = .ok (.goto 4, 3) := by decide +kernel
theorem dX9_seers_44 : decode cX9_seers 44 = .ok (.iconst 0, 1) := by decide +kernel
theorem dX9_seers_45 : decode cX9_seers 45 = .ok (.iconst 2, 1) := by decide +kernel
theorem dX9_seers_46 : decode cX9_seers 46 = .ok (.invokevirtual 158, 3) := by decide +kernel
theorem dX9_seers_49 : decode cX9_seers 49 = .ok (.ifCond .eq 12, 3) := by decide +kernel
theorem dX9_seers_52 : decode cX9_seers 52 = .ok (.aload_n 0, 1) := by decide +kernel
theorem dX9_seers_53 : decode cX9_seers 53 = .ok (.iload_n 1, 1) := by decide +kernel
theorem dX9_seers_54 : decode cX9_seers 54 = .ok (.iload_n 2, 1) := by decide +kernel
theorem dX9_seers_55 : decode cX9_seers 55 = .ok (.invokevirtual 309, 3) := by decide +kernel
theorem dX9_seers_58 : decode cX9_seers 58 = .ok (.goto 4, 3) := by decide +kernel
theorem dX9_seers_61 : decode cX9_seers 61 = .ok (.iconst 0, 1) := by decide +kernel
theorem dX9_seers_62 : decode cX9_seers 62 = .ok (.ireturn, 1) := by decide +kernel
theorem dX9_unpayable_0 : decode cX9_unpayable 0 = .ok (.iconst 0, 1) := by decide +kernel
theorem dX9_unpayable_1 : decode cX9_unpayable 1 = .ok (.istore_n 2, 1) := by decide +kernel
theorem dX9_unpayable_2 : decode cX9_unpayable 2 = .ok (.iload_n 2, 1) := by decide +kernel
theorem dX9_unpayable_3 : decode cX9_unpayable 3 = .ok (.aload_n 0, 1) := by decide +kernel
theorem dX9_unpayable_4 : decode cX9_unpayable 4 = .ok (.bipush 6, 2) := by decide +kernel
theorem dX9_unpayable_6 : decode cX9_unpayable 6 = .ok (.invokevirtual 50, 3) := by decide +kernel
theorem dX9_unpayable_9 : decode cX9_unpayable 9 = .ok (.if_icmp .ge 41, 3) := by decide +kernel
theorem dX9_unpayable_12 : decode cX9_unpayable 12 = .ok (.aload_n 0, 1) := by decide +kernel
theorem dX9_unpayable_13 : decode cX9_unpayable 13 = .ok (.iload_n 2, 1) := by decide +kernel
theorem dX9_unpayable_14 : decode cX9_unpayable 14 = .ok (.iconst 0, 1) := by decide +kernel
theorem dX9_unpayable_15 : decode cX9_unpayable 15 = .ok (.invokevirtual 84, 3) := by decide +kernel
theorem dX9_unpayable_18 : decode cX9_unpayable 18 = .ok (.iload_n 1, 1) := by decide +kernel
theorem dX9_unpayable_19 : decode cX9_unpayable 19 = .ok (.if_icmp .ne 25, 3) := by decide +kernel
theorem dX9_unpayable_22 : decode cX9_unpayable 22 = .ok (.aload_n 0, 1) := by decide +kernel
theorem dX9_unpayable_23 : decode cX9_unpayable 23 = .ok (.iload_n 2, 1) := by decide +kernel
theorem dX9_unpayable_24 : decode cX9_unpayable 24 = .ok (.iconst 3, 1) := by decide +kernel
theorem dX9_unpayable_25 : decode cX9_unpayable 25 = .ok (.invokevirtual 84, 3) := by decide +kernel
theorem dX9_unpayable_28 : decode cX9_unpayable 28 = .ok (.aload_n 0, 1) := by decide +kernel
theorem dX9_unpayable_29 : decode cX9_unpayable 29 = .ok (.iload_n 1, 1) := by decide +kernel
theorem dX9_unpayable_30 : decode cX9_unpayable 30 = .ok (.aload_n 0, 1) := by decide +kernel
theorem dX9_unpayable_31 : decode cX9_unpayable 31 = .ok (.iload_n 2, 1) := by decide +kernel
theorem dX9_unpayable_32 : decode cX9_unpayable 32 = .ok (.iconst 2, 1) := by decide +kernel
theorem dX9_unpayable_33 : decode cX9_unpayable 33 = .ok (.invokevirtual 84, 3) := by decide +kernel
theorem dX9_unpayable_36 : decode cX9_unpayable 36 = .ok (.invokevirtual 65, 3) := by decide +kernel
theorem dX9_unpayable_39 : decode cX9_unpayable 39 = .ok (.if_icmp .le 5, 3) := by decide +kernel
theorem dX9_unpayable_42 : decode cX9_unpayable 42 = .ok (.iload_n 2, 1) := by decide +kernel
theorem dX9_unpayable_43 : decode cX9_unpayable 43 = .ok (.ireturn, 1) := by decide +kernel
theorem dX9_unpayable_44 : decode cX9_unpayable 44 = .ok (.iinc 2 1, 3) := by decide +kernel
theorem dX9_unpayable_47 : decode cX9_unpayable 47 = .ok (.goto (-45), 3) := by decide +kernel
theorem dX9_unpayable_50 : decode cX9_unpayable 50 = .ok (.iconst (-1), 1) := by decide +kernel
theorem dX9_unpayable_51 : decode cX9_unpayable 51 = .ok (.ireturn, 1) := by decide +kernel
theorem dX9_reasonOf_0 : decode cX9_reasonOf 0 = .ok (.aload_n 0, 1) := by decide +kernel
theorem dX9_reasonOf_1 : decode cX9_reasonOf 1 = .ok (.iload_n 1, 1) := by decide +kernel
theorem dX9_reasonOf_2 : decode cX9_reasonOf 2 = .ok (.invokevirtual 99, 3) := by decide +kernel
theorem dX9_reasonOf_5 : decode cX9_reasonOf 5 = .ok (.ifCond .eq 5, 3) := by decide +kernel
theorem dX9_reasonOf_8 : decode cX9_reasonOf 8 = .ok (.iconst 1, 1) := by decide +kernel
theorem dX9_reasonOf_9 : decode cX9_reasonOf 9 = .ok (.ireturn, 1) := by decide +kernel
theorem dX9_reasonOf_10 : decode cX9_reasonOf 10 = .ok (.aload_n 0, 1) := by decide +kernel
theorem dX9_reasonOf_11 : decode cX9_reasonOf 11 = .ok (.iload_n 1, 1) := by decide +kernel
theorem dX9_reasonOf_12 : decode cX9_reasonOf 12 = .ok (.bipush 6, 2) := by decide +kernel
theorem dX9_reasonOf_14 : decode cX9_reasonOf 14 = .ok (.invokevirtual 54, 3) := by decide +kernel
theorem dX9_reasonOf_17 : decode cX9_reasonOf 17 = .ok (.aload_n 0, 1) := by decide +kernel
theorem dX9_reasonOf_18 : decode cX9_reasonOf 18 = .ok (.iload_n 1, 1) := by decide +kernel
theorem dX9_reasonOf_19 : decode cX9_reasonOf 19 = .ok (.invokevirtual 133, 3) := by decide +kernel
theorem dX9_reasonOf_22 : decode cX9_reasonOf 22 = .ok (.iadd, 1) := by decide +kernel
theorem dX9_reasonOf_23 : decode cX9_reasonOf 23 = .ok (.aload_n 0, 1) := by decide +kernel
theorem dX9_reasonOf_24 : decode cX9_reasonOf 24 = .ok (.iconst 3, 1) := by decide +kernel
theorem dX9_reasonOf_25 : decode cX9_reasonOf 25 = .ok (.invokevirtual 50, 3) := by decide +kernel
theorem dX9_reasonOf_28 : decode cX9_reasonOf 28 = .ok (.if_icmp .lt 5, 3) := by decide +kernel
theorem dX9_reasonOf_31 : decode cX9_reasonOf 31 = .ok (.iconst 2, 1) := by decide +kernel
theorem dX9_reasonOf_32 : decode cX9_reasonOf 32 = .ok (.ireturn, 1) := by decide +kernel
theorem dX9_reasonOf_33 : decode cX9_reasonOf 33 = .ok (.aload_n 0, 1) := by decide +kernel
theorem dX9_reasonOf_34 : decode cX9_reasonOf 34 = .ok (.iload_n 1, 1) := by decide +kernel
theorem dX9_reasonOf_35 : decode cX9_reasonOf 35 = .ok (.invokevirtual 136, 3) := by decide +kernel
theorem dX9_reasonOf_38 : decode cX9_reasonOf 38 = .ok (.ifCond .le 5, 3) := by decide +kernel
theorem dX9_reasonOf_41 : decode cX9_reasonOf 41 = .ok (.iconst 3, 1) := by decide +kernel
theorem dX9_reasonOf_42 : decode cX9_reasonOf 42 = .ok (.ireturn, 1) := by decide +kernel
theorem dX9_reasonOf_43 : decode cX9_reasonOf 43 = .ok (.aload_n 0, 1) := by decide +kernel
theorem dX9_reasonOf_44 : decode cX9_reasonOf 44 = .ok (.iload_n 1, 1) := by decide +kernel
theorem dX9_reasonOf_45 : decode cX9_reasonOf 45 = .ok (.invokevirtual 312, 3) := by decide +kernel
theorem dX9_reasonOf_48 : decode cX9_reasonOf 48 = .ok (.iconst (-1), 1) := by decide +kernel
theorem dX9_reasonOf_49 : decode cX9_reasonOf 49 = .ok (.if_icmp .eq 7, 3) := by decide +kernel
theorem dX9_reasonOf_52 : decode cX9_reasonOf 52 = .ok (.iconst 4, 1) := by decide +kernel
theorem dX9_reasonOf_53 : decode cX9_reasonOf 53 = .ok (.goto 4, 3) := by decide +kernel
theorem dX9_reasonOf_56 : decode cX9_reasonOf 56 = .ok (.iconst 5, 1) := by decide +kernel
theorem dX9_reasonOf_57 : decode cX9_reasonOf 57 = .ok (.ireturn, 1) := by decide +kernel
theorem dX9_why_0 : decode cX9_why 0 = .ok (.aload_n 0, 1) := by decide +kernel
theorem dX9_why_1 : decode cX9_why 1 = .ok (.iconst 0, 1) := by decide +kernel
theorem dX9_why_2 : decode cX9_why 2 = .ok (.putfield 41, 3) := by decide +kernel
theorem dX9_why_5 : decode cX9_why 5 = .ok (.aload_n 0, 1) := by decide +kernel
theorem dX9_why_6 : decode cX9_why 6 = .ok (.aload_n 0, 1) := by decide +kernel
theorem dX9_why_7 : decode cX9_why 7 = .ok (.iload_n 1, 1) := by decide +kernel
theorem dX9_why_8 : decode cX9_why 8 = .ok (.invokevirtual 297, 3) := by decide +kernel
theorem dX9_why_11 : decode cX9_why 11 = .ok (.iconst 1, 1) := by decide +kernel
theorem dX9_why_12 : decode cX9_why 12 = .ok (.invokevirtual 158, 3) := by decide +kernel
theorem dX9_why_15 : decode cX9_why 15 = .ok (.ifCond .eq 17, 3) := by decide +kernel
theorem dX9_why_18 : decode cX9_why 18 = .ok (.aload_n 0, 1) := by decide +kernel
theorem dX9_why_19 : decode cX9_why 19 = .ok (.iload_n 2, 1) := by decide +kernel
theorem dX9_why_20 : decode cX9_why 20 = .ok (.iconst 0, 1) := by decide +kernel
theorem dX9_why_21 : decode cX9_why 21 = .ok (.iconst 1, 1) := by decide +kernel
theorem dX9_why_22 : decode cX9_why 22 = .ok (.invokestatic 162, 3) := by decide +kernel
theorem dX9_why_25 : decode cX9_why 25 = .ok (.iconst 2, 1) := by decide +kernel
theorem dX9_why_26 : decode cX9_why 26 = .ok (.invokevirtual 158, 3) := by decide +kernel
theorem dX9_why_29 : decode cX9_why 29 = .ok (.ifCond .ne 5, 3) := by decide +kernel
theorem dX9_why_32 : decode cX9_why 32 = .ok (.iconst 0, 1) := by decide +kernel
theorem dX9_why_33 : decode cX9_why 33 = .ok (.ireturn, 1) := by decide +kernel
theorem dX9_why_34 : decode cX9_why 34 = .ok (.aload_n 0, 1) := by decide +kernel
theorem dX9_why_35 : decode cX9_why 35 = .ok (.iload_n 1, 1) := by decide +kernel
theorem dX9_why_36 : decode cX9_why 36 = .ok (.invokevirtual 315, 3) := by decide +kernel
theorem dX9_why_39 : decode cX9_why 39 = .ok (.istore_n 3, 1) := by decide +kernel
theorem dX9_why_40 : decode cX9_why 40 = .ok (.iload_n 2, 1) := by decide +kernel
theorem dX9_why_41 : decode cX9_why 41 = .ok (.ifCond .ne 5, 3) := by decide +kernel
theorem dX9_why_44 : decode cX9_why 44 = .ok (.iload_n 3, 1) := by decide +kernel
theorem dX9_why_45 : decode cX9_why 45 = .ok (.ireturn, 1) := by decide +kernel
theorem dX9_why_46 : decode cX9_why 46 = .ok (.iload_n 3, 1) := by decide +kernel
theorem dX9_why_47 : decode cX9_why 47 = .ok (.tableswitch 78 1 4 #[29, 40, 58, 68], 29) := by decide +kernel
theorem dX9_why_76 : decode cX9_why 76 = .ok (.bipush 100, 2) := by decide +kernel
theorem dX9_why_78 : decode cX9_why 78 = .ok (.aload_n 0, 1) := by decide +kernel
theorem dX9_why_79 : decode cX9_why 79 = .ok (.iload_n 1, 1) := by decide +kernel
theorem dX9_why_80 : decode cX9_why 80 = .ok (.bipush 8, 2) := by decide +kernel
theorem dX9_why_82 : decode cX9_why 82 = .ok (.invokevirtual 54, 3) := by decide +kernel
theorem dX9_why_85 : decode cX9_why 85 = .ok (.iadd, 1) := by decide +kernel
theorem dX9_why_86 : decode cX9_why 86 = .ok (.ireturn, 1) := by decide +kernel
theorem dX9_why_87 : decode cX9_why 87 = .ok (.sipush 200, 3) := by decide +kernel
theorem dX9_why_90 : decode cX9_why 90 = .ok (.aload_n 0, 1) := by decide +kernel
theorem dX9_why_91 : decode cX9_why 91 = .ok (.iload_n 1, 1) := by decide +kernel
theorem dX9_why_92 : decode cX9_why 92 = .ok (.bipush 6, 2) := by decide +kernel
theorem dX9_why_94 : decode cX9_why 94 = .ok (.invokevirtual 54, 3) := by decide +kernel
theorem dX9_why_97 : decode cX9_why 97 = .ok (.iadd, 1) := by decide +kernel
theorem dX9_why_98 : decode cX9_why 98 = .ok (.aload_n 0, 1) := by decide +kernel
theorem dX9_why_99 : decode cX9_why 99 = .ok (.iload_n 1, 1) := by decide +kernel
theorem dX9_why_100 : decode cX9_why 100 = .ok (.invokevirtual 133, 3) := by decide +kernel
theorem dX9_why_103 : decode cX9_why 103 = .ok (.iadd, 1) := by decide +kernel
theorem dX9_why_104 : decode cX9_why 104 = .ok (.ireturn, 1) := by decide +kernel
theorem dX9_why_105 : decode cX9_why 105 = .ok (.sipush 300, 3) := by decide +kernel
theorem dX9_why_108 : decode cX9_why 108 = .ok (.aload_n 0, 1) := by decide +kernel
theorem dX9_why_109 : decode cX9_why 109 = .ok (.iload_n 1, 1) := by decide +kernel
theorem dX9_why_110 : decode cX9_why 110 = .ok (.invokevirtual 136, 3) := by decide +kernel
theorem dX9_why_113 : decode cX9_why 113 = .ok (.iadd, 1) := by decide +kernel
theorem dX9_why_114 : decode cX9_why 114 = .ok (.ireturn, 1) := by decide +kernel
theorem dX9_why_115 : decode cX9_why 115 = .ok (.sipush 400, 3) := by decide +kernel
theorem dX9_why_118 : decode cX9_why 118 = .ok (.aload_n 0, 1) := by decide +kernel
theorem dX9_why_119 : decode cX9_why 119 = .ok (.iload_n 1, 1) := by decide +kernel
theorem dX9_why_120 : decode cX9_why 120 = .ok (.invokevirtual 312, 3) := by decide +kernel
theorem dX9_why_123 : decode cX9_why 123 = .ok (.iadd, 1) := by decide +kernel
theorem dX9_why_124 : decode cX9_why 124 = .ok (.ireturn, 1) := by decide +kernel
theorem dX9_why_125 : decode cX9_why 125 = .ok (.sipush 500, 3) := by decide +kernel
theorem dX9_why_128 : decode cX9_why 128 = .ok (.aload_n 0, 1) := by decide +kernel
theorem dX9_why_129 : decode cX9_why 129 = .ok (.iload_n 1, 1) := by decide +kernel
theorem dX9_why_130 : decode cX9_why 130 = .ok (.iconst 5, 1) := by decide +kernel
theorem dX9_why_131 : decode cX9_why 131 = .ok (.invokevirtual 54, 3) := by decide +kernel
theorem dX9_why_134 : decode cX9_why 134 = .ok (.iadd, 1) := by decide +kernel
theorem dX9_why_135 : decode cX9_why 135 = .ok (.ireturn, 1) := by decide +kernel
theorem dX9_rank_0 : decode cX9_rank 0 = .ok (.iload_n 2, 1) := by decide +kernel
theorem dX9_rank_1 : decode cX9_rank 1 = .ok (.tableswitch 61 0 3 #[31, 39, 47, 54], 31) := by decide +kernel
theorem dX9_rank_32 : decode cX9_rank 32 = .ok (.aload_n 0, 1) := by decide +kernel
theorem dX9_rank_33 : decode cX9_rank 33 = .ok (.iload_n 1, 1) := by decide +kernel
theorem dX9_rank_34 : decode cX9_rank 34 = .ok (.bipush 7, 2) := by decide +kernel
theorem dX9_rank_36 : decode cX9_rank 36 = .ok (.invokevirtual 54, 3) := by decide +kernel
theorem dX9_rank_39 : decode cX9_rank 39 = .ok (.ireturn, 1) := by decide +kernel
theorem dX9_rank_40 : decode cX9_rank 40 = .ok (.aload_n 0, 1) := by decide +kernel
theorem dX9_rank_41 : decode cX9_rank 41 = .ok (.iload_n 1, 1) := by decide +kernel
theorem dX9_rank_42 : decode cX9_rank 42 = .ok (.bipush 6, 2) := by decide +kernel
theorem dX9_rank_44 : decode cX9_rank 44 = .ok (.invokevirtual 54, 3) := by decide +kernel
theorem dX9_rank_47 : decode cX9_rank 47 = .ok (.ireturn, 1) := by decide +kernel
theorem dX9_rank_48 : decode cX9_rank 48 = .ok (.aload_n 0, 1) := by decide +kernel
theorem dX9_rank_49 : decode cX9_rank 49 = .ok (.iload_n 1, 1) := by decide +kernel
theorem dX9_rank_50 : decode cX9_rank 50 = .ok (.iconst 0, 1) := by decide +kernel
theorem dX9_rank_51 : decode cX9_rank 51 = .ok (.invokevirtual 300, 3) := by decide +kernel
theorem dX9_rank_54 : decode cX9_rank 54 = .ok (.ireturn, 1) := by decide +kernel
theorem dX9_rank_55 : decode cX9_rank 55 = .ok (.aload_n 0, 1) := by decide +kernel
theorem dX9_rank_56 : decode cX9_rank 56 = .ok (.iload_n 1, 1) := by decide +kernel
theorem dX9_rank_57 : decode cX9_rank 57 = .ok (.iconst 1, 1) := by decide +kernel
theorem dX9_rank_58 : decode cX9_rank 58 = .ok (.invokevirtual 300, 3) := by decide +kernel
theorem dX9_rank_61 : decode cX9_rank 61 = .ok (.ireturn, 1) := by decide +kernel
theorem dX9_rank_62 : decode cX9_rank 62 = .ok (.aload_n 0, 1) := by decide +kernel
theorem dX9_rank_63 : decode cX9_rank 63 = .ok (.iload_n 1, 1) := by decide +kernel
theorem dX9_rank_64 : decode cX9_rank 64 = .ok (.iconst 0, 1) := by decide +kernel
theorem dX9_rank_65 : decode cX9_rank 65 = .ok (.invokevirtual 65, 3) := by decide +kernel
theorem dX9_rank_68 : decode cX9_rank 68 = .ok (.aload_n 0, 1) := by decide +kernel
theorem dX9_rank_69 : decode cX9_rank 69 = .ok (.iload_n 1, 1) := by decide +kernel
theorem dX9_rank_70 : decode cX9_rank 70 = .ok (.iconst 1, 1) := by decide +kernel
theorem dX9_rank_71 : decode cX9_rank 71 = .ok (.invokevirtual 65, 3) := by decide +kernel
theorem dX9_rank_74 : decode cX9_rank 74 = .ok (.iadd, 1) := by decide +kernel
theorem dX9_rank_75 : decode cX9_rank 75 = .ok (.ireturn, 1) := by decide +kernel
theorem dX9_most_0 : decode cX9_most 0 = .ok (.aload_n 0, 1) := by decide +kernel
theorem dX9_most_1 : decode cX9_most 1 = .ok (.iconst 0, 1) := by decide +kernel
theorem dX9_most_2 : decode cX9_most 2 = .ok (.putfield 41, 3) := by decide +kernel
theorem dX9_most_5 : decode cX9_most 5 = .ok (.aload_n 0, 1) := by decide +kernel
theorem dX9_most_6 : decode cX9_most 6 = .ok (.iload_n 1, 1) := by decide +kernel
theorem dX9_most_7 : decode cX9_most 7 = .ok (.iconst 0, 1) := by decide +kernel
theorem dX9_most_8 : decode cX9_most 8 = .ok (.iconst 4, 1) := by decide +kernel
theorem dX9_most_9 : decode cX9_most 9 = .ok (.invokestatic 162, 3) := by decide +kernel
theorem dX9_most_12 : decode cX9_most 12 = .ok (.iconst 1, 1) := by decide +kernel
theorem dX9_most_13 : decode cX9_most 13 = .ok (.invokevirtual 158, 3) := by decide +kernel
theorem dX9_most_16 : decode cX9_most 16 = .ok (.ifCond .ne 5, 3) := by decide +kernel
theorem dX9_most_19 : decode cX9_most 19 = .ok (.iconst 0, 1) := by decide +kernel
theorem dX9_most_20 : decode cX9_most 20 = .ok (.ireturn, 1) := by decide +kernel
theorem dX9_most_21 : decode cX9_most 21 = .ok (.iconst 0, 1) := by decide +kernel
theorem dX9_most_22 : decode cX9_most 22 = .ok (.istore_n 2, 1) := by decide +kernel
theorem dX9_most_23 : decode cX9_most 23 = .ok (.iconst 1, 1) := by decide +kernel
theorem dX9_most_24 : decode cX9_most 24 = .ok (.istore_n 3, 1) := by decide +kernel
theorem dX9_most_25 : decode cX9_most 25 = .ok (.iload_n 3, 1) := by decide +kernel
theorem dX9_most_26 : decode cX9_most 26 = .ok (.aload_n 0, 1) := by decide +kernel
theorem dX9_most_27 : decode cX9_most 27 = .ok (.iconst 0, 1) := by decide +kernel
theorem dX9_most_28 : decode cX9_most 28 = .ok (.invokevirtual 50, 3) := by decide +kernel
theorem dX9_most_31 : decode cX9_most 31 = .ok (.if_icmp .ge 26, 3) := by decide +kernel
theorem dX9_most_34 : decode cX9_most 34 = .ok (.aload_n 0, 1) := by decide +kernel
theorem dX9_most_35 : decode cX9_most 35 = .ok (.iload_n 3, 1) := by decide +kernel
theorem dX9_most_36 : decode cX9_most 36 = .ok (.iload_n 1, 1) := by decide +kernel
theorem dX9_most_37 : decode cX9_most 37 = .ok (.invokevirtual 318, 3) := by decide +kernel
theorem dX9_most_40 : decode cX9_most 40 = .ok (.aload_n 0, 1) := by decide +kernel
theorem dX9_most_41 : decode cX9_most 41 = .ok (.iload_n 2, 1) := by decide +kernel
theorem dX9_most_42 : decode cX9_most 42 = .ok (.iload_n 1, 1) := by decide +kernel
theorem dX9_most_43 : decode cX9_most 43 = .ok (.invokevirtual 318, 3) := by decide +kernel
theorem dX9_most_46 : decode cX9_most 46 = .ok (.if_icmp .le 5, 3) := by decide +kernel
theorem dX9_most_49 : decode cX9_most 49 = .ok (.iload_n 3, 1) := by decide +kernel
theorem dX9_most_50 : decode cX9_most 50 = .ok (.istore_n 2, 1) := by decide +kernel
theorem dX9_most_51 : decode cX9_most 51 = .ok (.iinc 3 1, 3) := by decide +kernel
theorem dX9_most_54 : decode cX9_most 54 = .ok (.goto (-29), 3) := by decide +kernel
theorem dX9_most_57 : decode cX9_most 57 = .ok (.iload_n 2, 1) := by decide +kernel
theorem dX9_most_58 : decode cX9_most 58 = .ok (.ireturn, 1) := by decide +kernel
theorem dX9_ranked_0 : decode cX9_ranked 0 = .ok (.aload_n 0, 1) := by decide +kernel
theorem dX9_ranked_1 : decode cX9_ranked 1 = .ok (.iconst 0, 1) := by decide +kernel
theorem dX9_ranked_2 : decode cX9_ranked 2 = .ok (.putfield 41, 3) := by decide +kernel
theorem dX9_ranked_5 : decode cX9_ranked 5 = .ok (.aload_n 0, 1) := by decide +kernel
theorem dX9_ranked_6 : decode cX9_ranked 6 = .ok (.iload_n 1, 1) := by decide +kernel
theorem dX9_ranked_7 : decode cX9_ranked 7 = .ok (.iconst 0, 1) := by decide +kernel
theorem dX9_ranked_8 : decode cX9_ranked 8 = .ok (.iconst 1, 1) := by decide +kernel
theorem dX9_ranked_9 : decode cX9_ranked 9 = .ok (.invokestatic 162, 3) := by decide +kernel
theorem dX9_ranked_12 : decode cX9_ranked 12 = .ok (.iconst 1, 1) := by decide +kernel
theorem dX9_ranked_13 : decode cX9_ranked 13 = .ok (.invokevirtual 158, 3) := by decide +kernel
theorem dX9_ranked_16 : decode cX9_ranked 16 = .ok (.ifCond .ne 5, 3) := by decide +kernel
theorem dX9_ranked_19 : decode cX9_ranked 19 = .ok (.iconst 0, 1) := by decide +kernel
theorem dX9_ranked_20 : decode cX9_ranked 20 = .ok (.ireturn, 1) := by decide +kernel
theorem dX9_ranked_21 : decode cX9_ranked 21 = .ok (.iconst 0, 1) := by decide +kernel
theorem dX9_ranked_22 : decode cX9_ranked 22 = .ok (.istore_n 3, 1) := by decide +kernel
theorem dX9_ranked_23 : decode cX9_ranked 23 = .ok (.iload_n 3, 1) := by decide +kernel
theorem dX9_ranked_24 : decode cX9_ranked 24 = .ok (.aload_n 0, 1) := by decide +kernel
theorem dX9_ranked_25 : decode cX9_ranked 25 = .ok (.iconst 0, 1) := by decide +kernel
theorem dX9_ranked_26 : decode cX9_ranked 26 = .ok (.invokevirtual 50, 3) := by decide +kernel
theorem dX9_ranked_29 : decode cX9_ranked 29 = .ok (.if_icmp .ge 98, 3) := by decide +kernel
theorem dX9_ranked_32 : decode cX9_ranked 32 = .ok (.iconst 0, 1) := by decide +kernel
theorem dX9_ranked_33 : decode cX9_ranked 33 = .ok (.istore 4, 2) := by decide +kernel
theorem dX9_ranked_35 : decode cX9_ranked 35 = .ok (.iconst 0, 1) := by decide +kernel
theorem dX9_ranked_36 : decode cX9_ranked 36 = .ok (.istore 5, 2) := by decide +kernel
theorem dX9_ranked_38 : decode cX9_ranked 38 = .ok (.iload 5, 2) := by decide +kernel
theorem dX9_ranked_40 : decode cX9_ranked 40 = .ok (.aload_n 0, 1) := by decide +kernel
theorem dX9_ranked_41 : decode cX9_ranked 41 = .ok (.iconst 0, 1) := by decide +kernel
theorem dX9_ranked_42 : decode cX9_ranked 42 = .ok (.invokevirtual 50, 3) := by decide +kernel
theorem dX9_ranked_45 : decode cX9_ranked 45 = .ok (.if_icmp .ge 68, 3) := by decide +kernel
theorem dX9_ranked_48 : decode cX9_ranked 48 = .ok (.iload 4, 2) := by decide +kernel
theorem dX9_ranked_50 : decode cX9_ranked 50 = .ok (.aload_n 0, 1) := by decide +kernel
theorem dX9_ranked_51 : decode cX9_ranked 51 = .ok (.iload 5, 2) := by decide +kernel
theorem dX9_ranked_53 : decode cX9_ranked 53 = .ok (.iconst 2, 1) := by decide +kernel
theorem dX9_ranked_54 : decode cX9_ranked 54 = .ok (.iload_n 1, 1) := by decide +kernel
theorem dX9_ranked_55 : decode cX9_ranked 55 = .ok (.iadd, 1) := by decide +kernel
theorem dX9_ranked_56 : decode cX9_ranked 56 = .ok (.invokevirtual 54, 3) := by decide +kernel
theorem dX9_ranked_59 : decode cX9_ranked 59 = .ok (.aload_n 0, 1) := by decide +kernel
theorem dX9_ranked_60 : decode cX9_ranked 60 = .ok (.iload_n 3, 1) := by decide +kernel
theorem dX9_ranked_61 : decode cX9_ranked 61 = .ok (.iconst 2, 1) := by decide +kernel
theorem dX9_ranked_62 : decode cX9_ranked 62 = .ok (.iload_n 1, 1) := by decide +kernel
theorem dX9_ranked_63 : decode cX9_ranked 63 = .ok (.iadd, 1) := by decide +kernel
theorem dX9_ranked_64 : decode cX9_ranked 64 = .ok (.invokevirtual 54, 3) := by decide +kernel
theorem dX9_ranked_67 : decode cX9_ranked 67 = .ok (.if_icmp .gt 29, 3) := by decide +kernel
theorem dX9_ranked_70 : decode cX9_ranked 70 = .ok (.aload_n 0, 1) := by decide +kernel
theorem dX9_ranked_71 : decode cX9_ranked 71 = .ok (.iload 5, 2) := by decide +kernel
theorem dX9_ranked_73 : decode cX9_ranked 73 = .ok (.iconst 2, 1) := by decide +kernel
theorem dX9_ranked_74 : decode cX9_ranked 74 = .ok (.iload_n 1, 1) := by decide +kernel
theorem dX9_ranked_75 : decode cX9_ranked 75 = .ok (.iadd, 1) := by decide +kernel
theorem dX9_ranked_76 : decode cX9_ranked 76 = .ok (.invokevirtual 54, 3) := by decide +kernel
theorem dX9_ranked_79 : decode cX9_ranked 79 = .ok (.aload_n 0, 1) := by decide +kernel
theorem dX9_ranked_80 : decode cX9_ranked 80 = .ok (.iload_n 3, 1) := by decide +kernel
theorem dX9_ranked_81 : decode cX9_ranked 81 = .ok (.iconst 2, 1) := by decide +kernel
theorem dX9_ranked_82 : decode cX9_ranked 82 = .ok (.iload_n 1, 1) := by decide +kernel
theorem dX9_ranked_83 : decode cX9_ranked 83 = .ok (.iadd, 1) := by decide +kernel
theorem dX9_ranked_84 : decode cX9_ranked 84 = .ok (.invokevirtual 54, 3) := by decide +kernel
theorem dX9_ranked_87 : decode cX9_ranked 87 = .ok (.if_icmp .ne 13, 3) := by decide +kernel
theorem dX9_ranked_90 : decode cX9_ranked 90 = .ok (.iload 5, 2) := by decide +kernel
theorem dX9_ranked_92 : decode cX9_ranked 92 = .ok (.iload_n 3, 1) := by decide +kernel
theorem dX9_ranked_93 : decode cX9_ranked 93 = .ok (.if_icmp .ge 7, 3) := by decide +kernel
theorem dX9_ranked_96 : decode cX9_ranked 96 = .ok (.iconst 1, 1) := by decide +kernel
theorem dX9_ranked_97 : decode cX9_ranked 97 = .ok (.goto 4, 3) := by decide +kernel
theorem dX9_ranked_100 : decode cX9_ranked 100 = .ok (.iconst 0, 1) := by decide +kernel
theorem dX9_ranked_101 : decode cX9_ranked 101 = .ok (.invokestatic 110, 3) := by decide +kernel
theorem dX9_ranked_104 : decode cX9_ranked 104 = .ok (.iadd, 1) := by decide +kernel
theorem dX9_ranked_105 : decode cX9_ranked 105 = .ok (.istore 4, 2) := by decide +kernel
theorem dX9_ranked_107 : decode cX9_ranked 107 = .ok (.iinc 5 1, 3) := by decide +kernel
theorem dX9_ranked_110 : decode cX9_ranked 110 = .ok (.goto (-72), 3) := by decide +kernel
theorem dX9_ranked_113 : decode cX9_ranked 113 = .ok (.iload 4, 2) := by decide +kernel
theorem dX9_ranked_115 : decode cX9_ranked 115 = .ok (.iload_n 2, 1) := by decide +kernel
theorem dX9_ranked_116 : decode cX9_ranked 116 = .ok (.if_icmp .ne 5, 3) := by decide +kernel
theorem dX9_ranked_119 : decode cX9_ranked 119 = .ok (.iload_n 3, 1) := by decide +kernel
theorem dX9_ranked_120 : decode cX9_ranked 120 = .ok (.ireturn, 1) := by decide +kernel
theorem dX9_ranked_121 : decode cX9_ranked 121 = .ok (.iinc 3 1, 3) := by decide +kernel
theorem dX9_ranked_124 : decode cX9_ranked 124 = .ok (.goto (-101), 3) := by decide +kernel
theorem dX9_ranked_127 : decode cX9_ranked 127 = .ok (.iconst (-1), 1) := by decide +kernel
theorem dX9_ranked_128 : decode cX9_ranked 128 = .ok (.ireturn, 1) := by decide +kernel
theorem dX9_mostOf_0 : decode cX9_mostOf 0 = .ok (.aload_n 0, 1) := by decide +kernel
theorem dX9_mostOf_1 : decode cX9_mostOf 1 = .ok (.iconst 0, 1) := by decide +kernel
theorem dX9_mostOf_2 : decode cX9_mostOf 2 = .ok (.putfield 41, 3) := by decide +kernel
theorem dX9_mostOf_5 : decode cX9_mostOf 5 = .ok (.aload_n 0, 1) := by decide +kernel
theorem dX9_mostOf_6 : decode cX9_mostOf 6 = .ok (.iload_n 1, 1) := by decide +kernel
theorem dX9_mostOf_7 : decode cX9_mostOf 7 = .ok (.iconst 0, 1) := by decide +kernel
theorem dX9_mostOf_8 : decode cX9_mostOf 8 = .ok (.iconst 1, 1) := by decide +kernel
theorem dX9_mostOf_9 : decode cX9_mostOf 9 = .ok (.invokestatic 162, 3) := by decide +kernel
theorem dX9_mostOf_12 : decode cX9_mostOf 12 = .ok (.iconst 1, 1) := by decide +kernel
theorem dX9_mostOf_13 : decode cX9_mostOf 13 = .ok (.invokevirtual 158, 3) := by decide +kernel
theorem dX9_mostOf_16 : decode cX9_mostOf 16 = .ok (.ifCond .ne 5, 3) := by decide +kernel
theorem dX9_mostOf_19 : decode cX9_mostOf 19 = .ok (.iconst 0, 1) := by decide +kernel
theorem dX9_mostOf_20 : decode cX9_mostOf 20 = .ok (.ireturn, 1) := by decide +kernel
theorem dX9_mostOf_21 : decode cX9_mostOf 21 = .ok (.iconst 0, 1) := by decide +kernel
theorem dX9_mostOf_22 : decode cX9_mostOf 22 = .ok (.istore_n 2, 1) := by decide +kernel
theorem dX9_mostOf_23 : decode cX9_mostOf 23 = .ok (.iconst 1, 1) := by decide +kernel
theorem dX9_mostOf_24 : decode cX9_mostOf 24 = .ok (.istore_n 3, 1) := by decide +kernel
theorem dX9_mostOf_25 : decode cX9_mostOf 25 = .ok (.iload_n 3, 1) := by decide +kernel
theorem dX9_mostOf_26 : decode cX9_mostOf 26 = .ok (.aload_n 0, 1) := by decide +kernel
theorem dX9_mostOf_27 : decode cX9_mostOf 27 = .ok (.iconst 0, 1) := by decide +kernel
theorem dX9_mostOf_28 : decode cX9_mostOf 28 = .ok (.invokevirtual 50, 3) := by decide +kernel
theorem dX9_mostOf_31 : decode cX9_mostOf 31 = .ok (.if_icmp .ge 26, 3) := by decide +kernel
theorem dX9_mostOf_34 : decode cX9_mostOf 34 = .ok (.aload_n 0, 1) := by decide +kernel
theorem dX9_mostOf_35 : decode cX9_mostOf 35 = .ok (.iload_n 3, 1) := by decide +kernel
theorem dX9_mostOf_36 : decode cX9_mostOf 36 = .ok (.iload_n 1, 1) := by decide +kernel
theorem dX9_mostOf_37 : decode cX9_mostOf 37 = .ok (.invokevirtual 65, 3) := by decide +kernel
theorem dX9_mostOf_40 : decode cX9_mostOf 40 = .ok (.aload_n 0, 1) := by decide +kernel
theorem dX9_mostOf_41 : decode cX9_mostOf 41 = .ok (.iload_n 2, 1) := by decide +kernel
theorem dX9_mostOf_42 : decode cX9_mostOf 42 = .ok (.iload_n 1, 1) := by decide +kernel
theorem dX9_mostOf_43 : decode cX9_mostOf 43 = .ok (.invokevirtual 65, 3) := by decide +kernel
theorem dX9_mostOf_46 : decode cX9_mostOf 46 = .ok (.if_icmp .le 5, 3) := by decide +kernel
theorem dX9_mostOf_49 : decode cX9_mostOf 49 = .ok (.iload_n 3, 1) := by decide +kernel
theorem dX9_mostOf_50 : decode cX9_mostOf 50 = .ok (.istore_n 2, 1) := by decide +kernel
theorem dX9_mostOf_51 : decode cX9_mostOf 51 = .ok (.iinc 3 1, 3) := by decide +kernel
theorem dX9_mostOf_54 : decode cX9_mostOf 54 = .ok (.goto (-29), 3) := by decide +kernel
theorem dX9_mostOf_57 : decode cX9_mostOf 57 = .ok (.iload_n 2, 1) := by decide +kernel
theorem dX9_mostOf_58 : decode cX9_mostOf 58 = .ok (.ireturn, 1) := by decide +kernel
theorem dX9_makers_0 : decode cX9_makers 0 = .ok (.aload_n 0, 1) := by decide +kernel
theorem dX9_makers_1 : decode cX9_makers 1 = .ok (.iconst 0, 1) := by decide +kernel
theorem dX9_makers_2 : decode cX9_makers 2 = .ok (.putfield 41, 3) := by decide +kernel
theorem dX9_makers_5 : decode cX9_makers 5 = .ok (.aload_n 0, 1) := by decide +kernel
theorem dX9_makers_6 : decode cX9_makers 6 = .ok (.aload_n 0, 1) := by decide +kernel
theorem dX9_makers_7 : decode cX9_makers 7 = .ok (.iload_n 1, 1) := by decide +kernel
theorem dX9_makers_8 : decode cX9_makers 8 = .ok (.invokevirtual 297, 3) := by decide +kernel
theorem dX9_makers_11 : decode cX9_makers 11 = .ok (.iconst 1, 1) := by decide +kernel
theorem dX9_makers_12 : decode cX9_makers 12 = .ok (.invokevirtual 158, 3) := by decide +kernel
theorem dX9_makers_15 : decode cX9_makers 15 = .ok (.ifCond .eq 17, 3) := by decide +kernel
theorem dX9_makers_18 : decode cX9_makers 18 = .ok (.aload_n 0, 1) := by decide +kernel
theorem dX9_makers_19 : decode cX9_makers 19 = .ok (.iload_n 2, 1) := by decide +kernel
theorem dX9_makers_20 : decode cX9_makers 20 = .ok (.iconst 0, 1) := by decide +kernel
theorem dX9_makers_21 : decode cX9_makers 21 = .ok (.iconst 1, 1) := by decide +kernel
theorem dX9_makers_22 : decode cX9_makers 22 = .ok (.invokestatic 162, 3) := by decide +kernel
theorem dX9_makers_25 : decode cX9_makers 25 = .ok (.iconst 2, 1) := by decide +kernel
theorem dX9_makers_26 : decode cX9_makers 26 = .ok (.invokevirtual 158, 3) := by decide +kernel
theorem dX9_makers_29 : decode cX9_makers 29 = .ok (.ifCond .ne 5, 3) := by decide +kernel
theorem dX9_makers_32 : decode cX9_makers 32 = .ok (.iconst 0, 1) := by decide +kernel
theorem dX9_makers_33 : decode cX9_makers 33 = .ok (.ireturn, 1) := by decide +kernel
theorem dX9_makers_34 : decode cX9_makers 34 = .ok (.iconst 0, 1) := by decide +kernel
theorem dX9_makers_35 : decode cX9_makers 35 = .ok (.istore_n 3, 1) := by decide +kernel
theorem dX9_makers_36 : decode cX9_makers 36 = .ok (.iconst 0, 1) := by decide +kernel
theorem dX9_makers_37 : decode cX9_makers 37 = .ok (.istore 4, 2) := by decide +kernel
theorem dX9_makers_39 : decode cX9_makers 39 = .ok (.iload 4, 2) := by decide +kernel
theorem dX9_makers_41 : decode cX9_makers 41 = .ok (.aload_n 0, 1) := by decide +kernel
theorem dX9_makers_42 : decode cX9_makers 42 = .ok (.iconst 0, 1) := by decide +kernel
theorem dX9_makers_43 : decode cX9_makers 43 = .ok (.invokevirtual 50, 3) := by decide +kernel
theorem dX9_makers_46 : decode cX9_makers 46 = .ok (.if_icmp .ge 37, 3) := by decide +kernel
theorem dX9_makers_49 : decode cX9_makers 49 = .ok (.iload_n 3, 1) := by decide +kernel
theorem dX9_makers_50 : decode cX9_makers 50 = .ok (.aload_n 0, 1) := by decide +kernel
theorem dX9_makers_51 : decode cX9_makers 51 = .ok (.iload_n 1, 1) := by decide +kernel
theorem dX9_makers_52 : decode cX9_makers 52 = .ok (.iload_n 2, 1) := by decide +kernel
theorem dX9_makers_53 : decode cX9_makers 53 = .ok (.iload 4, 2) := by decide +kernel
theorem dX9_makers_55 : decode cX9_makers 55 = .ok (.aload_n 0, 1) := by decide +kernel
theorem dX9_makers_56 : decode cX9_makers 56 = .ok (.iload_n 1, 1) := by decide +kernel
theorem dX9_makers_57 : decode cX9_makers 57 = .ok (.iload_n 2, 1) := by decide +kernel
theorem dX9_makers_58 : decode cX9_makers 58 = .ok (.invokevirtual 65, 3) := by decide +kernel
theorem dX9_makers_61 : decode cX9_makers 61 = .ok (.invokevirtual 126, 3) := by decide +kernel
theorem dX9_makers_64 : decode cX9_makers 64 = .ok (.ifCond .le 7, 3) := by decide +kernel
theorem dX9_makers_67 : decode cX9_makers 67 = .ok (.iconst 1, 1) := by decide +kernel
theorem dX9_makers_68 : decode cX9_makers 68 = .ok (.goto 4, 3) := by decide +kernel
theorem dX9_makers_71 : decode cX9_makers 71 = .ok (.iconst 0, 1) := by decide +kernel
theorem dX9_makers_72 : decode cX9_makers 72 = .ok (.invokestatic 110, 3) := by decide +kernel
theorem dX9_makers_75 : decode cX9_makers 75 = .ok (.iadd, 1) := by decide +kernel
theorem dX9_makers_76 : decode cX9_makers 76 = .ok (.istore_n 3, 1) := by decide +kernel
theorem dX9_makers_77 : decode cX9_makers 77 = .ok (.iinc 4 1, 3) := by decide +kernel
theorem dX9_makers_80 : decode cX9_makers 80 = .ok (.goto (-41), 3) := by decide +kernel
theorem dX9_makers_83 : decode cX9_makers 83 = .ok (.iload_n 3, 1) := by decide +kernel
theorem dX9_makers_84 : decode cX9_makers 84 = .ok (.ireturn, 1) := by decide +kernel
theorem dX9_needs_0 : decode cX9_needs 0 = .ok (.aload_n 0, 1) := by decide +kernel
theorem dX9_needs_1 : decode cX9_needs 1 = .ok (.iconst 0, 1) := by decide +kernel
theorem dX9_needs_2 : decode cX9_needs 2 = .ok (.putfield 41, 3) := by decide +kernel
theorem dX9_needs_5 : decode cX9_needs 5 = .ok (.aload_n 0, 1) := by decide +kernel
theorem dX9_needs_6 : decode cX9_needs 6 = .ok (.aload_n 0, 1) := by decide +kernel
theorem dX9_needs_7 : decode cX9_needs 7 = .ok (.iload_n 1, 1) := by decide +kernel
theorem dX9_needs_8 : decode cX9_needs 8 = .ok (.invokevirtual 297, 3) := by decide +kernel
theorem dX9_needs_11 : decode cX9_needs 11 = .ok (.iconst 1, 1) := by decide +kernel
theorem dX9_needs_12 : decode cX9_needs 12 = .ok (.invokevirtual 158, 3) := by decide +kernel
theorem dX9_needs_15 : decode cX9_needs 15 = .ok (.ifCond .eq 34, 3) := by decide +kernel
theorem dX9_needs_18 : decode cX9_needs 18 = .ok (.aload_n 0, 1) := by decide +kernel
theorem dX9_needs_19 : decode cX9_needs 19 = .ok (.iload_n 2, 1) := by decide +kernel
theorem dX9_needs_20 : decode cX9_needs 20 = .ok (.iconst 0, 1) := by decide +kernel
theorem dX9_needs_21 : decode cX9_needs 21 = .ok (.iconst 1, 1) := by decide +kernel
theorem dX9_needs_22 : decode cX9_needs 22 = .ok (.invokestatic 162, 3) := by decide +kernel
theorem dX9_needs_25 : decode cX9_needs 25 = .ok (.iconst 2, 1) := by decide +kernel
theorem dX9_needs_26 : decode cX9_needs 26 = .ok (.invokevirtual 158, 3) := by decide +kernel
theorem dX9_needs_29 : decode cX9_needs 29 = .ok (.ifCond .eq 20, 3) := by decide +kernel
theorem dX9_needs_32 : decode cX9_needs 32 = .ok (.aload_n 0, 1) := by decide +kernel
theorem dX9_needs_33 : decode cX9_needs 33 = .ok (.iconst 4, 1) := by decide +kernel
theorem dX9_needs_34 : decode cX9_needs 34 = .ok (.iload_n 2, 1) := by decide +kernel
theorem dX9_needs_35 : decode cX9_needs 35 = .ok (.iadd, 1) := by decide +kernel
theorem dX9_needs_36 : decode cX9_needs 36 = .ok (.invokevirtual 50, 3) := by decide +kernel
theorem dX9_needs_39 : decode cX9_needs 39 = .ok (.aload_n 0, 1) := by decide +kernel
theorem dX9_needs_40 : decode cX9_needs 40 = .ok (.iload_n 1, 1) := by decide +kernel
theorem dX9_needs_41 : decode cX9_needs 41 = .ok (.iload_n 2, 1) := by decide +kernel
theorem dX9_needs_42 : decode cX9_needs 42 = .ok (.invokevirtual 123, 3) := by decide +kernel
theorem dX9_needs_45 : decode cX9_needs 45 = .ok (.isub, 1) := by decide +kernel
theorem dX9_needs_46 : decode cX9_needs 46 = .ok (.goto 4, 3) := by decide +kernel
theorem dX9_needs_49 : decode cX9_needs 49 = .ok (.iconst 0, 1) := by decide +kernel
theorem dX9_needs_50 : decode cX9_needs 50 = .ok (.ireturn, 1) := by decide +kernel
theorem dX9_nearTo_0 : decode cX9_nearTo 0 = .ok (.aload_n 0, 1) := by decide +kernel
theorem dX9_nearTo_1 : decode cX9_nearTo 1 = .ok (.iconst 0, 1) := by decide +kernel
theorem dX9_nearTo_2 : decode cX9_nearTo 2 = .ok (.putfield 41, 3) := by decide +kernel
theorem dX9_nearTo_5 : decode cX9_nearTo 5 = .ok (.aload_n 0, 1) := by decide +kernel
theorem dX9_nearTo_6 : decode cX9_nearTo 6 = .ok (.aload_n 0, 1) := by decide +kernel
theorem dX9_nearTo_7 : decode cX9_nearTo 7 = .ok (.iload_n 1, 1) := by decide +kernel
theorem dX9_nearTo_8 : decode cX9_nearTo 8 = .ok (.invokevirtual 297, 3) := by decide +kernel
theorem dX9_nearTo_11 : decode cX9_nearTo 11 = .ok (.iconst 1, 1) := by decide +kernel
theorem dX9_nearTo_12 : decode cX9_nearTo 12 = .ok (.invokevirtual 158, 3) := by decide +kernel
theorem dX9_nearTo_15 : decode cX9_nearTo 15 = .ok (.ifCond .ne 5, 3) := by decide +kernel
theorem dX9_nearTo_18 : decode cX9_nearTo 18 = .ok (.iconst 0, 1) := by decide +kernel
theorem dX9_nearTo_19 : decode cX9_nearTo 19 = .ok (.ireturn, 1) := by decide +kernel
theorem dX9_nearTo_20 : decode cX9_nearTo 20 = .ok (.iload_n 2, 1) := by decide +kernel
theorem dX9_nearTo_21 : decode cX9_nearTo 21 = .ok (.istore_n 3, 1) := by decide +kernel
theorem dX9_nearTo_22 : decode cX9_nearTo 22 = .ok (.iconst 0, 1) := by decide +kernel
theorem dX9_nearTo_23 : decode cX9_nearTo 23 = .ok (.istore 4, 2) := by decide +kernel
theorem dX9_nearTo_25 : decode cX9_nearTo 25 = .ok (.iload 4, 2) := by decide +kernel
theorem dX9_nearTo_27 : decode cX9_nearTo 27 = .ok (.aload_n 0, 1) := by decide +kernel
theorem dX9_nearTo_28 : decode cX9_nearTo 28 = .ok (.iconst 0, 1) := by decide +kernel
theorem dX9_nearTo_29 : decode cX9_nearTo 29 = .ok (.invokevirtual 50, 3) := by decide +kernel
theorem dX9_nearTo_32 : decode cX9_nearTo 32 = .ok (.if_icmp .ge 38, 3) := by decide +kernel
theorem dX9_nearTo_35 : decode cX9_nearTo 35 = .ok (.iload 4, 2) := by decide +kernel
theorem dX9_nearTo_37 : decode cX9_nearTo 37 = .ok (.iload_n 1, 1) := by decide +kernel
theorem dX9_nearTo_38 : decode cX9_nearTo 38 = .ok (.if_icmp .eq 26, 3) := by decide +kernel
theorem dX9_nearTo_41 : decode cX9_nearTo 41 = .ok (.aload_n 0, 1) := by decide +kernel
theorem dX9_nearTo_42 : decode cX9_nearTo 42 = .ok (.iload 4, 2) := by decide +kernel
theorem dX9_nearTo_44 : decode cX9_nearTo 44 = .ok (.iload_n 1, 1) := by decide +kernel
theorem dX9_nearTo_45 : decode cX9_nearTo 45 = .ok (.invokevirtual 103, 3) := by decide +kernel
theorem dX9_nearTo_48 : decode cX9_nearTo 48 = .ok (.ifCond .ne 6, 3) := by decide +kernel
theorem dX9_nearTo_51 : decode cX9_nearTo 51 = .ok (.goto 13, 3) := by decide +kernel
theorem dX9_nearTo_54 : decode cX9_nearTo 54 = .ok (.iload_n 3, 1) := by decide +kernel
theorem dX9_nearTo_55 : decode cX9_nearTo 55 = .ok (.ifCond .ne 6, 3) := by decide +kernel
theorem dX9_nearTo_58 : decode cX9_nearTo 58 = .ok (.iload 4, 2) := by decide +kernel
theorem dX9_nearTo_60 : decode cX9_nearTo 60 = .ok (.ireturn, 1) := by decide +kernel
theorem dX9_nearTo_61 : decode cX9_nearTo 61 = .ok (.iinc 3 (-1), 3) := by decide +kernel
theorem dX9_nearTo_64 : decode cX9_nearTo 64 = .ok (.iinc 4 1, 3) := by decide +kernel
theorem dX9_nearTo_67 : decode cX9_nearTo 67 = .ok (.goto (-42), 3) := by decide +kernel
theorem dX9_nearTo_70 : decode cX9_nearTo 70 = .ok (.iconst (-1), 1) := by decide +kernel
theorem dX9_nearTo_71 : decode cX9_nearTo 71 = .ok (.ireturn, 1) := by decide +kernel
theorem dX9_debtOf_0 : decode cX9_debtOf 0 = .ok (.aload_n 0, 1) := by decide +kernel
theorem dX9_debtOf_1 : decode cX9_debtOf 1 = .ok (.iconst 0, 1) := by decide +kernel
theorem dX9_debtOf_2 : decode cX9_debtOf 2 = .ok (.putfield 41, 3) := by decide +kernel
theorem dX9_debtOf_5 : decode cX9_debtOf 5 = .ok (.aload_n 0, 1) := by decide +kernel
theorem dX9_debtOf_6 : decode cX9_debtOf 6 = .ok (.aload_n 0, 1) := by decide +kernel
theorem dX9_debtOf_7 : decode cX9_debtOf 7 = .ok (.iload_n 1, 1) := by decide +kernel
theorem dX9_debtOf_8 : decode cX9_debtOf 8 = .ok (.invokevirtual 297, 3) := by decide +kernel
theorem dX9_debtOf_11 : decode cX9_debtOf 11 = .ok (.iconst 1, 1) := by decide +kernel
theorem dX9_debtOf_12 : decode cX9_debtOf 12 = .ok (.invokevirtual 158, 3) := by decide +kernel
theorem dX9_debtOf_15 : decode cX9_debtOf 15 = .ok (.ifCond .ne 5, 3) := by decide +kernel
theorem dX9_debtOf_18 : decode cX9_debtOf 18 = .ok (.iconst 0, 1) := by decide +kernel
theorem dX9_debtOf_19 : decode cX9_debtOf 19 = .ok (.ireturn, 1) := by decide +kernel
theorem dX9_debtOf_20 : decode cX9_debtOf 20 = .ok (.iload_n 2, 1) := by decide +kernel
theorem dX9_debtOf_21 : decode cX9_debtOf 21 = .ok (.istore_n 3, 1) := by decide +kernel
theorem dX9_debtOf_22 : decode cX9_debtOf 22 = .ok (.iconst 0, 1) := by decide +kernel
theorem dX9_debtOf_23 : decode cX9_debtOf 23 = .ok (.istore 4, 2) := by decide +kernel
theorem dX9_debtOf_25 : decode cX9_debtOf 25 = .ok (.iload 4, 2) := by decide +kernel
theorem dX9_debtOf_27 : decode cX9_debtOf 27 = .ok (.aload_n 0, 1) := by decide +kernel
theorem dX9_debtOf_28 : decode cX9_debtOf 28 = .ok (.bipush 6, 2) := by decide +kernel
theorem dX9_debtOf_30 : decode cX9_debtOf 30 = .ok (.invokevirtual 50, 3) := by decide +kernel
theorem dX9_debtOf_33 : decode cX9_debtOf 33 = .ok (.if_icmp .ge 33, 3) := by decide +kernel
theorem dX9_debtOf_36 : decode cX9_debtOf 36 = .ok (.aload_n 0, 1) := by decide +kernel
theorem dX9_debtOf_37 : decode cX9_debtOf 37 = .ok (.iload 4, 2) := by decide +kernel
theorem dX9_debtOf_39 : decode cX9_debtOf 39 = .ok (.iconst 0, 1) := by decide +kernel
theorem dX9_debtOf_40 : decode cX9_debtOf 40 = .ok (.invokevirtual 84, 3) := by decide +kernel
theorem dX9_debtOf_43 : decode cX9_debtOf 43 = .ok (.iload_n 1, 1) := by decide +kernel
theorem dX9_debtOf_44 : decode cX9_debtOf 44 = .ok (.if_icmp .eq 6, 3) := by decide +kernel
theorem dX9_debtOf_47 : decode cX9_debtOf 47 = .ok (.goto 13, 3) := by decide +kernel
theorem dX9_debtOf_50 : decode cX9_debtOf 50 = .ok (.iload_n 3, 1) := by decide +kernel
theorem dX9_debtOf_51 : decode cX9_debtOf 51 = .ok (.ifCond .ne 6, 3) := by decide +kernel
theorem dX9_debtOf_54 : decode cX9_debtOf 54 = .ok (.iload 4, 2) := by decide +kernel
theorem dX9_debtOf_56 : decode cX9_debtOf 56 = .ok (.ireturn, 1) := by decide +kernel
theorem dX9_debtOf_57 : decode cX9_debtOf 57 = .ok (.iinc 3 (-1), 3) := by decide +kernel
theorem dX9_debtOf_60 : decode cX9_debtOf 60 = .ok (.iinc 4 1, 3) := by decide +kernel
theorem dX9_debtOf_63 : decode cX9_debtOf 63 = .ok (.goto (-38), 3) := by decide +kernel
theorem dX9_debtOf_66 : decode cX9_debtOf 66 = .ok (.iconst (-1), 1) := by decide +kernel
theorem dX9_debtOf_67 : decode cX9_debtOf 67 = .ok (.ireturn, 1) := by decide +kernel
theorem dX9_canPay_0 : decode cX9_canPay 0 = .ok (.aload_n 0, 1) := by decide +kernel
theorem dX9_canPay_1 : decode cX9_canPay 1 = .ok (.iconst 0, 1) := by decide +kernel
theorem dX9_canPay_2 : decode cX9_canPay 2 = .ok (.putfield 41, 3) := by decide +kernel
theorem dX9_canPay_5 : decode cX9_canPay 5 = .ok (.aload_n 0, 1) := by decide +kernel
theorem dX9_canPay_6 : decode cX9_canPay 6 = .ok (.iload_n 1, 1) := by decide +kernel
theorem dX9_canPay_7 : decode cX9_canPay 7 = .ok (.iconst 0, 1) := by decide +kernel
theorem dX9_canPay_8 : decode cX9_canPay 8 = .ok (.aload_n 0, 1) := by decide +kernel
theorem dX9_canPay_9 : decode cX9_canPay 9 = .ok (.bipush 6, 2) := by decide +kernel
theorem dX9_canPay_11 : decode cX9_canPay 11 = .ok (.invokevirtual 50, 3) := by decide +kernel
theorem dX9_canPay_14 : decode cX9_canPay 14 = .ok (.iconst 1, 1) := by decide +kernel
theorem dX9_canPay_15 : decode cX9_canPay 15 = .ok (.isub, 1) := by decide +kernel
theorem dX9_canPay_16 : decode cX9_canPay 16 = .ok (.invokestatic 162, 3) := by decide +kernel
theorem dX9_canPay_19 : decode cX9_canPay 19 = .ok (.iconst 1, 1) := by decide +kernel
theorem dX9_canPay_20 : decode cX9_canPay 20 = .ok (.invokevirtual 158, 3) := by decide +kernel
theorem dX9_canPay_23 : decode cX9_canPay 23 = .ok (.ifCond .eq 14, 3) := by decide +kernel
theorem dX9_canPay_26 : decode cX9_canPay 26 = .ok (.aload_n 0, 1) := by decide +kernel
theorem dX9_canPay_27 : decode cX9_canPay 27 = .ok (.iload_n 1, 1) := by decide +kernel
theorem dX9_canPay_28 : decode cX9_canPay 28 = .ok (.iconst 3, 1) := by decide +kernel
theorem dX9_canPay_29 : decode cX9_canPay 29 = .ok (.invokevirtual 84, 3) := by decide +kernel
theorem dX9_canPay_32 : decode cX9_canPay 32 = .ok (.bipush 20, 2) := by decide +kernel
theorem dX9_canPay_34 : decode cX9_canPay 34 = .ok (.if_icmp .le 5, 3) := by decide +kernel
theorem dX9_canPay_37 : decode cX9_canPay 37 = .ok (.iconst 0, 1) := by decide +kernel
theorem dX9_canPay_38 : decode cX9_canPay 38 = .ok (.ireturn, 1) := by decide +kernel
theorem dX9_canPay_39 : decode cX9_canPay 39 = .ok (.aload_n 0, 1) := by decide +kernel
theorem dX9_canPay_40 : decode cX9_canPay 40 = .ok (.aload_n 0, 1) := by decide +kernel
theorem dX9_canPay_41 : decode cX9_canPay 41 = .ok (.iload_n 1, 1) := by decide +kernel
theorem dX9_canPay_42 : decode cX9_canPay 42 = .ok (.iconst 0, 1) := by decide +kernel
theorem dX9_canPay_43 : decode cX9_canPay 43 = .ok (.invokevirtual 84, 3) := by decide +kernel
theorem dX9_canPay_46 : decode cX9_canPay 46 = .ok (.aload_n 0, 1) := by decide +kernel
theorem dX9_canPay_47 : decode cX9_canPay 47 = .ok (.iload_n 1, 1) := by decide +kernel
theorem dX9_canPay_48 : decode cX9_canPay 48 = .ok (.iconst 1, 1) := by decide +kernel
theorem dX9_canPay_49 : decode cX9_canPay 49 = .ok (.invokevirtual 84, 3) := by decide +kernel
theorem dX9_canPay_52 : decode cX9_canPay 52 = .ok (.aload_n 0, 1) := by decide +kernel
theorem dX9_canPay_53 : decode cX9_canPay 53 = .ok (.iload_n 1, 1) := by decide +kernel
theorem dX9_canPay_54 : decode cX9_canPay 54 = .ok (.iconst 2, 1) := by decide +kernel
theorem dX9_canPay_55 : decode cX9_canPay 55 = .ok (.invokevirtual 84, 3) := by decide +kernel
theorem dX9_canPay_58 : decode cX9_canPay 58 = .ok (.aload_n 0, 1) := by decide +kernel
theorem dX9_canPay_59 : decode cX9_canPay 59 = .ok (.iload_n 1, 1) := by decide +kernel
theorem dX9_canPay_60 : decode cX9_canPay 60 = .ok (.iconst 3, 1) := by decide +kernel
theorem dX9_canPay_61 : decode cX9_canPay 61 = .ok (.invokevirtual 84, 3) := by decide +kernel
theorem dX9_canPay_64 : decode cX9_canPay 64 = .ok (.invokevirtual 321, 3) := by decide +kernel
theorem dX9_canPay_67 : decode cX9_canPay 67 = .ok (.ifCond .ne 7, 3) := by decide +kernel
theorem dX9_canPay_70 : decode cX9_canPay 70 = .ok (.iconst 1, 1) := by decide +kernel
theorem dX9_canPay_71 : decode cX9_canPay 71 = .ok (.goto 4, 3) := by decide +kernel
theorem dX9_canPay_74 : decode cX9_canPay 74 = .ok (.iconst 0, 1) := by decide +kernel
theorem dX9_canPay_75 : decode cX9_canPay 75 = .ok (.ireturn, 1) := by decide +kernel
theorem dX9_whySwap_0 : decode cX9_whySwap 0 = .ok (.aload_n 0, 1) := by decide +kernel
theorem dX9_whySwap_1 : decode cX9_whySwap 1 = .ok (.iconst 0, 1) := by decide +kernel
theorem dX9_whySwap_2 : decode cX9_whySwap 2 = .ok (.putfield 41, 3) := by decide +kernel
theorem dX9_whySwap_5 : decode cX9_whySwap 5 = .ok (.aload_n 0, 1) := by decide +kernel
theorem dX9_whySwap_6 : decode cX9_whySwap 6 = .ok (.aload_n 0, 1) := by decide +kernel
theorem dX9_whySwap_7 : decode cX9_whySwap 7 = .ok (.iload_n 1, 1) := by decide +kernel
theorem dX9_whySwap_8 : decode cX9_whySwap 8 = .ok (.invokevirtual 297, 3) := by decide +kernel
theorem dX9_whySwap_11 : decode cX9_whySwap 11 = .ok (.ifCond .eq 15, 3) := by decide +kernel
theorem dX9_whySwap_14 : decode cX9_whySwap 14 = .ok (.aload_n 0, 1) := by decide +kernel
theorem dX9_whySwap_15 : decode cX9_whySwap 15 = .ok (.iload_n 2, 1) := by decide +kernel
theorem dX9_whySwap_16 : decode cX9_whySwap 16 = .ok (.invokevirtual 297, 3) := by decide +kernel
theorem dX9_whySwap_19 : decode cX9_whySwap 19 = .ok (.ifCond .eq 7, 3) := by decide +kernel
theorem dX9_whySwap_22 : decode cX9_whySwap 22 = .ok (.iconst 1, 1) := by decide +kernel
theorem dX9_whySwap_23 : decode cX9_whySwap 23 = .ok (.goto 4, 3) := by decide +kernel
theorem dX9_whySwap_26 : decode cX9_whySwap 26 = .ok (.iconst 0, 1) := by decide +kernel
theorem dX9_whySwap_27 : decode cX9_whySwap 27 = .ok (.iconst 1, 1) := by decide +kernel
theorem dX9_whySwap_28 : decode cX9_whySwap 28 = .ok (.invokevirtual 158, 3) := by decide +kernel
theorem dX9_whySwap_31 : decode cX9_whySwap 31 = .ok (.ifCond .eq 37, 3) := by decide +kernel
theorem dX9_whySwap_34 : decode cX9_whySwap 34 = .ok (.aload_n 0, 1) := by decide +kernel
theorem dX9_whySwap_35 : decode cX9_whySwap 35 = .ok (.iload_n 3, 1) := by decide +kernel
theorem dX9_whySwap_36 : decode cX9_whySwap 36 = .ok (.iconst 0, 1) := by decide +kernel
theorem dX9_whySwap_37 : decode cX9_whySwap 37 = .ok (.bipush 20, 2) := by decide +kernel
theorem dX9_whySwap_39 : decode cX9_whySwap 39 = .ok (.invokestatic 162, 3) := by decide +kernel
theorem dX9_whySwap_42 : decode cX9_whySwap 42 = .ok (.ifCond .eq 18, 3) := by decide +kernel
theorem dX9_whySwap_45 : decode cX9_whySwap 45 = .ok (.iload 4, 2) := by decide +kernel
theorem dX9_whySwap_47 : decode cX9_whySwap 47 = .ok (.iconst 0, 1) := by decide +kernel
theorem dX9_whySwap_48 : decode cX9_whySwap 48 = .ok (.bipush 20, 2) := by decide +kernel
theorem dX9_whySwap_50 : decode cX9_whySwap 50 = .ok (.invokestatic 162, 3) := by decide +kernel
theorem dX9_whySwap_53 : decode cX9_whySwap 53 = .ok (.ifCond .eq 7, 3) := by decide +kernel
theorem dX9_whySwap_56 : decode cX9_whySwap 56 = .ok (.iconst 1, 1) := by decide +kernel
theorem dX9_whySwap_57 : decode cX9_whySwap 57 = .ok (.goto 4, 3) := by decide +kernel
theorem dX9_whySwap_60 : decode cX9_whySwap 60 = .ok (.iconst 0, 1) := by decide +kernel
theorem dX9_whySwap_61 : decode cX9_whySwap 61 = .ok (.iconst 2, 1) := by decide +kernel
theorem dX9_whySwap_62 : decode cX9_whySwap 62 = .ok (.invokevirtual 158, 3) := by decide +kernel
theorem dX9_whySwap_65 : decode cX9_whySwap 65 = .ok (.ifCond .ne 5, 3) := by decide +kernel
theorem dX9_whySwap_68 : decode cX9_whySwap 68 = .ok (.iconst 0, 1) := by decide +kernel
theorem dX9_whySwap_69 : decode cX9_whySwap 69 = .ok (.ireturn, 1) := by decide +kernel
theorem dX9_whySwap_70 : decode cX9_whySwap 70 = .ok (.aload_n 0, 1) := by decide +kernel
theorem dX9_whySwap_71 : decode cX9_whySwap 71 = .ok (.iload_n 1, 1) := by decide +kernel
theorem dX9_whySwap_72 : decode cX9_whySwap 72 = .ok (.iload_n 2, 1) := by decide +kernel
theorem dX9_whySwap_73 : decode cX9_whySwap 73 = .ok (.iload_n 3, 1) := by decide +kernel
theorem dX9_whySwap_74 : decode cX9_whySwap 74 = .ok (.iload 4, 2) := by decide +kernel
theorem dX9_whySwap_76 : decode cX9_whySwap 76 = .ok (.invokevirtual 324, 3) := by decide +kernel
theorem dX9_whySwap_79 : decode cX9_whySwap 79 = .ok (.ireturn, 1) := by decide +kernel
theorem dX9_whyLend_0 : decode cX9_whyLend 0 = .ok (.aload_n 0, 1) := by decide +kernel
theorem dX9_whyLend_1 : decode cX9_whyLend 1 = .ok (.iconst 0, 1) := by decide +kernel
theorem dX9_whyLend_2 : decode cX9_whyLend 2 = .ok (.putfield 41, 3) := by decide +kernel
theorem dX9_whyLend_5 : decode cX9_whyLend 5 = .ok (.aload_n 0, 1) := by decide +kernel
theorem dX9_whyLend_6 : decode cX9_whyLend 6 = .ok (.aload_n 0, 1) := by decide +kernel
theorem dX9_whyLend_7 : decode cX9_whyLend 7 = .ok (.iload_n 1, 1) := by decide +kernel
theorem dX9_whyLend_8 : decode cX9_whyLend 8 = .ok (.invokevirtual 297, 3) := by decide +kernel
theorem dX9_whyLend_11 : decode cX9_whyLend 11 = .ok (.ifCond .eq 15, 3) := by decide +kernel
theorem dX9_whyLend_14 : decode cX9_whyLend 14 = .ok (.aload_n 0, 1) := by decide +kernel
theorem dX9_whyLend_15 : decode cX9_whyLend 15 = .ok (.iload_n 2, 1) := by decide +kernel
theorem dX9_whyLend_16 : decode cX9_whyLend 16 = .ok (.invokevirtual 297, 3) := by decide +kernel
theorem dX9_whyLend_19 : decode cX9_whyLend 19 = .ok (.ifCond .eq 7, 3) := by decide +kernel
theorem dX9_whyLend_22 : decode cX9_whyLend 22 = .ok (.iconst 1, 1) := by decide +kernel
theorem dX9_whyLend_23 : decode cX9_whyLend 23 = .ok (.goto 4, 3) := by decide +kernel
theorem dX9_whyLend_26 : decode cX9_whyLend 26 = .ok (.iconst 0, 1) := by decide +kernel
theorem dX9_whyLend_27 : decode cX9_whyLend 27 = .ok (.iconst 1, 1) := by decide +kernel
theorem dX9_whyLend_28 : decode cX9_whyLend 28 = .ok (.invokevirtual 158, 3) := by decide +kernel
theorem dX9_whyLend_31 : decode cX9_whyLend 31 = .ok (.ifCond .eq 36, 3) := by decide +kernel
theorem dX9_whyLend_34 : decode cX9_whyLend 34 = .ok (.aload_n 0, 1) := by decide +kernel
theorem dX9_whyLend_35 : decode cX9_whyLend 35 = .ok (.iload_n 3, 1) := by decide +kernel
theorem dX9_whyLend_36 : decode cX9_whyLend 36 = .ok (.iconst 0, 1) := by decide +kernel
theorem dX9_whyLend_37 : decode cX9_whyLend 37 = .ok (.iconst 1, 1) := by decide +kernel
theorem dX9_whyLend_38 : decode cX9_whyLend 38 = .ok (.invokestatic 162, 3) := by decide +kernel
theorem dX9_whyLend_41 : decode cX9_whyLend 41 = .ok (.ifCond .eq 18, 3) := by decide +kernel
theorem dX9_whyLend_44 : decode cX9_whyLend 44 = .ok (.iload 4, 2) := by decide +kernel
theorem dX9_whyLend_46 : decode cX9_whyLend 46 = .ok (.iconst 1, 1) := by decide +kernel
theorem dX9_whyLend_47 : decode cX9_whyLend 47 = .ok (.bipush 20, 2) := by decide +kernel
theorem dX9_whyLend_49 : decode cX9_whyLend 49 = .ok (.invokestatic 162, 3) := by decide +kernel
theorem dX9_whyLend_52 : decode cX9_whyLend 52 = .ok (.ifCond .eq 7, 3) := by decide +kernel
theorem dX9_whyLend_55 : decode cX9_whyLend 55 = .ok (.iconst 1, 1) := by decide +kernel
theorem dX9_whyLend_56 : decode cX9_whyLend 56 = .ok (.goto 4, 3) := by decide +kernel
theorem dX9_whyLend_59 : decode cX9_whyLend 59 = .ok (.iconst 0, 1) := by decide +kernel
theorem dX9_whyLend_60 : decode cX9_whyLend 60 = .ok (.iconst 2, 1) := by decide +kernel
theorem dX9_whyLend_61 : decode cX9_whyLend 61 = .ok (.invokevirtual 158, 3) := by decide +kernel
theorem dX9_whyLend_64 : decode cX9_whyLend 64 = .ok (.ifCond .ne 5, 3) := by decide +kernel
theorem dX9_whyLend_67 : decode cX9_whyLend 67 = .ok (.iconst 0, 1) := by decide +kernel
theorem dX9_whyLend_68 : decode cX9_whyLend 68 = .ok (.ireturn, 1) := by decide +kernel
theorem dX9_whyLend_69 : decode cX9_whyLend 69 = .ok (.aload_n 0, 1) := by decide +kernel
theorem dX9_whyLend_70 : decode cX9_whyLend 70 = .ok (.iload_n 1, 1) := by decide +kernel
theorem dX9_whyLend_71 : decode cX9_whyLend 71 = .ok (.iload_n 2, 1) := by decide +kernel
theorem dX9_whyLend_72 : decode cX9_whyLend 72 = .ok (.iload_n 3, 1) := by decide +kernel
theorem dX9_whyLend_73 : decode cX9_whyLend 73 = .ok (.iload 4, 2) := by decide +kernel
theorem dX9_whyLend_75 : decode cX9_whyLend 75 = .ok (.invokevirtual 327, 3) := by decide +kernel
theorem dX9_whyLend_78 : decode cX9_whyLend 78 = .ok (.ireturn, 1) := by decide +kernel
theorem dX9_refusals_0 : decode cX9_refusals 0 = .ok (.aload_n 0, 1) := by decide +kernel
theorem dX9_refusals_1 : decode cX9_refusals 1 = .ok (.iconst 0, 1) := by decide +kernel
theorem dX9_refusals_2 : decode cX9_refusals 2 = .ok (.putfield 41, 3) := by decide +kernel
theorem dX9_refusals_5 : decode cX9_refusals 5 = .ok (.aload_n 0, 1) := by decide +kernel
theorem dX9_refusals_6 : decode cX9_refusals 6 = .ok (.iload_n 1, 1) := by decide +kernel
theorem dX9_refusals_7 : decode cX9_refusals 7 = .ok (.iconst 1, 1) := by decide +kernel
theorem dX9_refusals_8 : decode cX9_refusals 8 = .ok (.bipush 10, 2) := by decide +kernel
theorem dX9_refusals_10 : decode cX9_refusals 10 = .ok (.invokestatic 162, 3) := by decide +kernel
theorem dX9_refusals_13 : decode cX9_refusals 13 = .ok (.iconst 1, 1) := by decide +kernel
theorem dX9_refusals_14 : decode cX9_refusals 14 = .ok (.invokevirtual 158, 3) := by decide +kernel
theorem dX9_refusals_17 : decode cX9_refusals 17 = .ok (.ifCond .eq 12, 3) := by decide +kernel
theorem dX9_refusals_20 : decode cX9_refusals 20 = .ok (.aload_n 0, 1) := by decide +kernel
theorem dX9_refusals_21 : decode cX9_refusals 21 = .ok (.getfield 17, 3) := by decide +kernel
theorem dX9_refusals_24 : decode cX9_refusals 24 = .ok (.iload_n 1, 1) := by decide +kernel
theorem dX9_refusals_25 : decode cX9_refusals 25 = .ok (.iaload, 1) := by decide +kernel
theorem dX9_refusals_26 : decode cX9_refusals 26 = .ok (.goto 4, 3) := by decide +kernel
theorem dX9_refusals_29 : decode cX9_refusals 29 = .ok (.iconst 0, 1) := by decide +kernel
theorem dX9_refusals_30 : decode cX9_refusals 30 = .ok (.ireturn, 1) := by decide +kernel
theorem dX9_gap_0 : decode cX9_gap 0 = .ok (.aload_n 0, 1) := by decide +kernel
theorem dX9_gap_1 : decode cX9_gap 1 = .ok (.iconst 0, 1) := by decide +kernel
theorem dX9_gap_2 : decode cX9_gap 2 = .ok (.putfield 41, 3) := by decide +kernel
theorem dX9_gap_5 : decode cX9_gap 5 = .ok (.aload_n 0, 1) := by decide +kernel
theorem dX9_gap_6 : decode cX9_gap 6 = .ok (.bipush 7, 2) := by decide +kernel
theorem dX9_gap_8 : decode cX9_gap 8 = .ok (.invokevirtual 50, 3) := by decide +kernel
theorem dX9_gap_11 : decode cX9_gap 11 = .ok (.aload_n 0, 1) := by decide +kernel
theorem dX9_gap_12 : decode cX9_gap 12 = .ok (.bipush 8, 2) := by decide +kernel
theorem dX9_gap_14 : decode cX9_gap 14 = .ok (.invokevirtual 50, 3) := by decide +kernel
theorem dX9_gap_17 : decode cX9_gap 17 = .ok (.iadd, 1) := by decide +kernel
theorem dX9_gap_18 : decode cX9_gap 18 = .ok (.aload_n 0, 1) := by decide +kernel
theorem dX9_gap_19 : decode cX9_gap 19 = .ok (.iconst 0, 1) := by decide +kernel
theorem dX9_gap_20 : decode cX9_gap 20 = .ok (.invokevirtual 288, 3) := by decide +kernel
theorem dX9_gap_23 : decode cX9_gap 23 = .ok (.isub, 1) := by decide +kernel
theorem dX9_gap_24 : decode cX9_gap 24 = .ok (.aload_n 0, 1) := by decide +kernel
theorem dX9_gap_25 : decode cX9_gap 25 = .ok (.iconst 1, 1) := by decide +kernel
theorem dX9_gap_26 : decode cX9_gap 26 = .ok (.invokevirtual 288, 3) := by decide +kernel
theorem dX9_gap_29 : decode cX9_gap 29 = .ok (.isub, 1) := by decide +kernel
theorem dX9_gap_30 : decode cX9_gap 30 = .ok (.aload_n 0, 1) := by decide +kernel
theorem dX9_gap_31 : decode cX9_gap 31 = .ok (.bipush 12, 2) := by decide +kernel
theorem dX9_gap_33 : decode cX9_gap 33 = .ok (.invokevirtual 50, 3) := by decide +kernel
theorem dX9_gap_36 : decode cX9_gap 36 = .ok (.isub, 1) := by decide +kernel
theorem dX9_gap_37 : decode cX9_gap 37 = .ok (.aload_n 0, 1) := by decide +kernel
theorem dX9_gap_38 : decode cX9_gap 38 = .ok (.bipush 13, 2) := by decide +kernel
theorem dX9_gap_40 : decode cX9_gap 40 = .ok (.invokevirtual 50, 3) := by decide +kernel
theorem dX9_gap_43 : decode cX9_gap 43 = .ok (.isub, 1) := by decide +kernel
theorem dX9_gap_44 : decode cX9_gap 44 = .ok (.istore_n 1, 1) := by decide +kernel
theorem dX9_gap_45 : decode cX9_gap 45 = .ok (.iconst 0, 1) := by decide +kernel
theorem dX9_gap_46 : decode cX9_gap 46 = .ok (.istore_n 2, 1) := by decide +kernel
theorem dX9_gap_47 : decode cX9_gap 47 = .ok (.iconst 0, 1) := by decide +kernel
theorem dX9_gap_48 : decode cX9_gap 48 = .ok (.istore_n 3, 1) := by decide +kernel
theorem dX9_gap_49 : decode cX9_gap 49 = .ok (.iconst 0, 1) := by decide +kernel
theorem dX9_gap_50 : decode cX9_gap 50 = .ok (.istore 4, 2) := by decide +kernel
theorem dX9_gap_52 : decode cX9_gap 52 = .ok (.iload 4, 2) := by decide +kernel
theorem dX9_gap_54 : decode cX9_gap 54 = .ok (.aload_n 0, 1) := by decide +kernel
theorem dX9_gap_55 : decode cX9_gap 55 = .ok (.iconst 0, 1) := by decide +kernel
theorem dX9_gap_56 : decode cX9_gap 56 = .ok (.invokevirtual 50, 3) := by decide +kernel
theorem dX9_gap_59 : decode cX9_gap 59 = .ok (.if_icmp .ge 71, 3) := by decide +kernel
theorem dX9_gap_62 : decode cX9_gap 62 = .ok (.iload_n 2, 1) := by decide +kernel
theorem dX9_gap_63 : decode cX9_gap 63 = .ok (.aload_n 0, 1) := by decide +kernel
theorem dX9_gap_64 : decode cX9_gap 64 = .ok (.iload 4, 2) := by decide +kernel
theorem dX9_gap_66 : decode cX9_gap 66 = .ok (.iconst 0, 1) := by decide +kernel
theorem dX9_gap_67 : decode cX9_gap 67 = .ok (.invokevirtual 300, 3) := by decide +kernel
theorem dX9_gap_70 : decode cX9_gap 70 = .ok (.aload_n 0, 1) := by decide +kernel
theorem dX9_gap_71 : decode cX9_gap 71 = .ok (.iload 4, 2) := by decide +kernel
theorem dX9_gap_73 : decode cX9_gap 73 = .ok (.iconst 1, 1) := by decide +kernel
theorem dX9_gap_74 : decode cX9_gap 74 = .ok (.invokevirtual 300, 3) := by decide +kernel
theorem dX9_gap_77 : decode cX9_gap 77 = .ok (.isub, 1) := by decide +kernel
theorem dX9_gap_78 : decode cX9_gap 78 = .ok (.iadd, 1) := by decide +kernel
theorem dX9_gap_79 : decode cX9_gap 79 = .ok (.istore_n 2, 1) := by decide +kernel
theorem dX9_gap_80 : decode cX9_gap 80 = .ok (.iload_n 3, 1) := by decide +kernel
theorem dX9_gap_81 : decode cX9_gap 81 = .ok (.aload_n 0, 1) := by decide +kernel
theorem dX9_gap_82 : decode cX9_gap 82 = .ok (.iload 4, 2) := by decide +kernel
theorem dX9_gap_84 : decode cX9_gap 84 = .ok (.iconst 0, 1) := by decide +kernel
theorem dX9_gap_85 : decode cX9_gap 85 = .ok (.invokevirtual 65, 3) := by decide +kernel
theorem dX9_gap_88 : decode cX9_gap 88 = .ok (.bipush 20, 2) := by decide +kernel
theorem dX9_gap_90 : decode cX9_gap 90 = .ok (.if_icmp .le 7, 3) := by decide +kernel
theorem dX9_gap_93 : decode cX9_gap 93 = .ok (.iconst 1, 1) := by decide +kernel
theorem dX9_gap_94 : decode cX9_gap 94 = .ok (.goto 4, 3) := by decide +kernel
theorem dX9_gap_97 : decode cX9_gap 97 = .ok (.iconst 0, 1) := by decide +kernel
theorem dX9_gap_98 : decode cX9_gap 98 = .ok (.invokestatic 110, 3) := by decide +kernel
theorem dX9_gap_101 : decode cX9_gap 101 = .ok (.aload_n 0, 1) := by decide +kernel
theorem dX9_gap_102 : decode cX9_gap 102 = .ok (.iload 4, 2) := by decide +kernel
theorem dX9_gap_104 : decode cX9_gap 104 = .ok (.iconst 1, 1) := by decide +kernel
theorem dX9_gap_105 : decode cX9_gap 105 = .ok (.invokevirtual 65, 3) := by decide +kernel
theorem dX9_gap_108 : decode cX9_gap 108 = .ok (.bipush 20, 2) := by decide +kernel
theorem dX9_gap_110 : decode cX9_gap 110 = .ok (.if_icmp .le 7, 3) := by decide +kernel
theorem dX9_gap_113 : decode cX9_gap 113 = .ok (.iconst 1, 1) := by decide +kernel
theorem dX9_gap_114 : decode cX9_gap 114 = .ok (.goto 4, 3) := by decide +kernel
theorem dX9_gap_117 : decode cX9_gap 117 = .ok (.iconst 0, 1) := by decide +kernel
theorem dX9_gap_118 : decode cX9_gap 118 = .ok (.invokestatic 110, 3) := by decide +kernel
theorem dX9_gap_121 : decode cX9_gap 121 = .ok (.iadd, 1) := by decide +kernel
theorem dX9_gap_122 : decode cX9_gap 122 = .ok (.iadd, 1) := by decide +kernel
theorem dX9_gap_123 : decode cX9_gap 123 = .ok (.istore_n 3, 1) := by decide +kernel
theorem dX9_gap_124 : decode cX9_gap 124 = .ok (.iinc 4 1, 3) := by decide +kernel
theorem dX9_gap_127 : decode cX9_gap 127 = .ok (.goto (-75), 3) := by decide +kernel
theorem dX9_gap_130 : decode cX9_gap 130 = .ok (.iload_n 1, 1) := by decide +kernel
theorem dX9_gap_131 : decode cX9_gap 131 = .ok (.invokestatic 90, 3) := by decide +kernel
theorem dX9_gap_134 : decode cX9_gap 134 = .ok (.iload_n 2, 1) := by decide +kernel
theorem dX9_gap_135 : decode cX9_gap 135 = .ok (.invokestatic 90, 3) := by decide +kernel
theorem dX9_gap_138 : decode cX9_gap 138 = .ok (.iadd, 1) := by decide +kernel
theorem dX9_gap_139 : decode cX9_gap 139 = .ok (.iload_n 3, 1) := by decide +kernel
theorem dX9_gap_140 : decode cX9_gap 140 = .ok (.iadd, 1) := by decide +kernel
theorem dX9_gap_141 : decode cX9_gap 141 = .ok (.ireturn, 1) := by decide +kernel
theorem dX9_meanMarks_0 : decode cX9_meanMarks 0 = .ok (.aload_n 0, 1) := by decide +kernel
theorem dX9_meanMarks_1 : decode cX9_meanMarks 1 = .ok (.iconst 0, 1) := by decide +kernel
theorem dX9_meanMarks_2 : decode cX9_meanMarks 2 = .ok (.putfield 41, 3) := by decide +kernel
theorem dX9_meanMarks_5 : decode cX9_meanMarks 5 = .ok (.aload_n 0, 1) := by decide +kernel
theorem dX9_meanMarks_6 : decode cX9_meanMarks 6 = .ok (.bipush 7, 2) := by decide +kernel
theorem dX9_meanMarks_8 : decode cX9_meanMarks 8 = .ok (.invokevirtual 81, 3) := by decide +kernel
theorem dX9_meanMarks_11 : decode cX9_meanMarks 11 = .ok (.i2d, 1) := by decide +kernel
theorem dX9_meanMarks_12 : decode cX9_meanMarks 12 = .ok (.aload_n 0, 1) := by decide +kernel
theorem dX9_meanMarks_13 : decode cX9_meanMarks 13 = .ok (.iconst 0, 1) := by decide +kernel
theorem dX9_meanMarks_14 : decode cX9_meanMarks 14 = .ok (.invokevirtual 50, 3) := by decide +kernel
theorem dX9_meanMarks_17 : decode cX9_meanMarks 17 = .ok (.i2d, 1) := by decide +kernel
theorem dX9_meanMarks_18 : decode cX9_meanMarks 18 = .ok (.ddiv, 1) := by decide +kernel
theorem dX9_meanMarks_19 : decode cX9_meanMarks 19 = .ok (.dreturn, 1) := by decide +kernel
theorem dX9_ownShare_0 : decode cX9_ownShare 0 = .ok (.aload_n 0, 1) := by decide +kernel
theorem dX9_ownShare_1 : decode cX9_ownShare 1 = .ok (.iconst 0, 1) := by decide +kernel
theorem dX9_ownShare_2 : decode cX9_ownShare 2 = .ok (.putfield 41, 3) := by decide +kernel
theorem dX9_ownShare_5 : decode cX9_ownShare 5 = .ok (.aload_n 0, 1) := by decide +kernel
