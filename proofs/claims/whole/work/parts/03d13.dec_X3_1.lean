theorem dX3_makePieces_49 : decode cX3_makePieces 49 = .ok (.iconst 1, 1) := by decide +kernel
theorem dX3_makePieces_50 : decode cX3_makePieces 50 = .ok (.dup2, 1) := by decide +kernel
theorem dX3_makePieces_51 : decode cX3_makePieces 51 = .ok (.iaload, 1) := by decide +kernel
theorem dX3_makePieces_52 : decode cX3_makePieces 52 = .ok (.iload_n 3, 1) := by decide +kernel
theorem dX3_makePieces_53 : decode cX3_makePieces 53 = .ok (.iadd, 1) := by decide +kernel
theorem dX3_makePieces_54 : decode cX3_makePieces 54 = .ok (.iastore, 1) := by decide +kernel
theorem dX3_makePieces_55 : decode cX3_makePieces 55 = .ok (.aload 4, 2) := by decide +kernel
theorem dX3_makePieces_57 : decode cX3_makePieces 57 = .ok (.getfield 179, 3) := by decide +kernel
theorem dX3_makePieces_60 : decode cX3_makePieces 60 = .ok (.ireturn, 1) := by decide +kernel
theorem dX3_swapPieces_0 : decode cX3_swapPieces 0 = .ok (.aload_n 0, 1) := by decide +kernel
theorem dX3_swapPieces_1 : decode cX3_swapPieces 1 = .ok (.getfield 11, 3) := by decide +kernel
theorem dX3_swapPieces_4 : decode cX3_swapPieces 4 = .ok (.iload_n 1, 1) := by decide +kernel
theorem dX3_swapPieces_5 : decode cX3_swapPieces 5 = .ok (.aaload, 1) := by decide +kernel
theorem dX3_swapPieces_6 : decode cX3_swapPieces 6 = .ok (.getfield 186, 3) := by decide +kernel
theorem dX3_swapPieces_9 : decode cX3_swapPieces 9 = .ok (.aload_n 0, 1) := by decide +kernel
theorem dX3_swapPieces_10 : decode cX3_swapPieces 10 = .ok (.getfield 11, 3) := by decide +kernel
theorem dX3_swapPieces_13 : decode cX3_swapPieces 13 = .ok (.iload_n 2, 1) := by decide +kernel
theorem dX3_swapPieces_14 : decode cX3_swapPieces 14 = .ok (.aaload, 1) := by decide +kernel
theorem dX3_swapPieces_15 : decode cX3_swapPieces 15 = .ok (.getfield 186, 3) := by decide +kernel
theorem dX3_swapPieces_18 : decode cX3_swapPieces 18 = .ok (.iload_n 3, 1) := by decide +kernel
theorem dX3_swapPieces_19 : decode cX3_swapPieces 19 = .ok (.invokevirtual 211, 3) := by decide +kernel
theorem dX3_swapPieces_22 : decode cX3_swapPieces 22 = .ok (.aload_n 0, 1) := by decide +kernel
theorem dX3_swapPieces_23 : decode cX3_swapPieces 23 = .ok (.getfield 11, 3) := by decide +kernel
theorem dX3_swapPieces_26 : decode cX3_swapPieces 26 = .ok (.iload_n 2, 1) := by decide +kernel
theorem dX3_swapPieces_27 : decode cX3_swapPieces 27 = .ok (.aaload, 1) := by decide +kernel
theorem dX3_swapPieces_28 : decode cX3_swapPieces 28 = .ok (.getfield 190, 3) := by decide +kernel
theorem dX3_swapPieces_31 : decode cX3_swapPieces 31 = .ok (.aload_n 0, 1) := by decide +kernel
theorem dX3_swapPieces_32 : decode cX3_swapPieces 32 = .ok (.getfield 11, 3) := by decide +kernel
theorem dX3_swapPieces_35 : decode cX3_swapPieces 35 = .ok (.iload_n 1, 1) := by decide +kernel
theorem dX3_swapPieces_36 : decode cX3_swapPieces 36 = .ok (.aaload, 1) := by decide +kernel
theorem dX3_swapPieces_37 : decode cX3_swapPieces 37 = .ok (.getfield 190, 3) := by decide +kernel
theorem dX3_swapPieces_40 : decode cX3_swapPieces 40 = .ok (.iload 4, 2) := by decide +kernel
theorem dX3_swapPieces_42 : decode cX3_swapPieces 42 = .ok (.invokevirtual 211, 3) := by decide +kernel
theorem dX3_swapPieces_45 : decode cX3_swapPieces 45 = .ok (.aload_n 0, 1) := by decide +kernel
theorem dX3_swapPieces_46 : decode cX3_swapPieces 46 = .ok (.getfield 24, 3) := by decide +kernel
theorem dX3_swapPieces_49 : decode cX3_swapPieces 49 = .ok (.iconst 2, 1) := by decide +kernel
theorem dX3_swapPieces_50 : decode cX3_swapPieces 50 = .ok (.dup2, 1) := by decide +kernel
theorem dX3_swapPieces_51 : decode cX3_swapPieces 51 = .ok (.iaload, 1) := by decide +kernel
theorem dX3_swapPieces_52 : decode cX3_swapPieces 52 = .ok (.iconst 1, 1) := by decide +kernel
theorem dX3_swapPieces_53 : decode cX3_swapPieces 53 = .ok (.iadd, 1) := by decide +kernel
theorem dX3_swapPieces_54 : decode cX3_swapPieces 54 = .ok (.iastore, 1) := by decide +kernel
theorem dX3_swapPieces_55 : decode cX3_swapPieces 55 = .ok (.aload_n 0, 1) := by decide +kernel
theorem dX3_swapPieces_56 : decode cX3_swapPieces 56 = .ok (.iload_n 1, 1) := by decide +kernel
theorem dX3_swapPieces_57 : decode cX3_swapPieces 57 = .ok (.iload_n 2, 1) := by decide +kernel
theorem dX3_swapPieces_58 : decode cX3_swapPieces 58 = .ok (.invokevirtual 215, 3) := by decide +kernel
theorem dX3_swapPieces_61 : decode cX3_swapPieces 61 = .ok (.ireturn, 1) := by decide +kernel
theorem dX3_lendPieces_0 : decode cX3_lendPieces 0 = .ok (.aload_n 0, 1) := by decide +kernel
theorem dX3_lendPieces_1 : decode cX3_lendPieces 1 = .ok (.getfield 11, 3) := by decide +kernel
theorem dX3_lendPieces_4 : decode cX3_lendPieces 4 = .ok (.iload_n 1, 1) := by decide +kernel
theorem dX3_lendPieces_5 : decode cX3_lendPieces 5 = .ok (.aaload, 1) := by decide +kernel
theorem dX3_lendPieces_6 : decode cX3_lendPieces 6 = .ok (.iload_n 3, 1) := by decide +kernel
theorem dX3_lendPieces_7 : decode cX3_lendPieces 7 = .ok (.invokevirtual 135, 3) := by decide +kernel
theorem dX3_lendPieces_10 : decode cX3_lendPieces 10 = .ok (.aload_n 0, 1) := by decide +kernel
theorem dX3_lendPieces_11 : decode cX3_lendPieces 11 = .ok (.getfield 11, 3) := by decide +kernel
theorem dX3_lendPieces_14 : decode cX3_lendPieces 14 = .ok (.iload_n 2, 1) := by decide +kernel
theorem dX3_lendPieces_15 : decode cX3_lendPieces 15 = .ok (.aaload, 1) := by decide +kernel
theorem dX3_lendPieces_16 : decode cX3_lendPieces 16 = .ok (.iload_n 3, 1) := by decide +kernel
theorem dX3_lendPieces_17 : decode cX3_lendPieces 17 = .ok (.invokevirtual 135, 3) := by decide +kernel
theorem dX3_lendPieces_20 : decode cX3_lendPieces 20 = .ok (.iload 4, 2) := by decide +kernel
theorem dX3_lendPieces_22 : decode cX3_lendPieces 22 = .ok (.invokevirtual 211, 3) := by decide +kernel
theorem dX3_lendPieces_25 : decode cX3_lendPieces 25 = .ok (.aload_n 0, 1) := by decide +kernel
theorem dX3_lendPieces_26 : decode cX3_lendPieces 26 = .ok (.getfield 24, 3) := by decide +kernel
theorem dX3_lendPieces_29 : decode cX3_lendPieces 29 = .ok (.iconst 3, 1) := by decide +kernel
theorem dX3_lendPieces_30 : decode cX3_lendPieces 30 = .ok (.dup2, 1) := by decide +kernel
theorem dX3_lendPieces_31 : decode cX3_lendPieces 31 = .ok (.iaload, 1) := by decide +kernel
theorem dX3_lendPieces_32 : decode cX3_lendPieces 32 = .ok (.iconst 1, 1) := by decide +kernel
theorem dX3_lendPieces_33 : decode cX3_lendPieces 33 = .ok (.iadd, 1) := by decide +kernel
theorem dX3_lendPieces_34 : decode cX3_lendPieces 34 = .ok (.iastore, 1) := by decide +kernel
theorem dX3_lendPieces_35 : decode cX3_lendPieces 35 = .ok (.aload_n 0, 1) := by decide +kernel
theorem dX3_lendPieces_36 : decode cX3_lendPieces 36 = .ok (.iload_n 1, 1) := by decide +kernel
theorem dX3_lendPieces_37 : decode cX3_lendPieces 37 = .ok (.iload_n 2, 1) := by decide +kernel
theorem dX3_lendPieces_38 : decode cX3_lendPieces 38 = .ok (.invokevirtual 215, 3) := by decide +kernel
theorem dX3_lendPieces_41 : decode cX3_lendPieces 41 = .ok (.pop, 1) := by decide +kernel
theorem dX3_lendPieces_42 : decode cX3_lendPieces 42 = .ok (.aload_n 0, 1) := by decide +kernel
theorem dX3_lendPieces_43 : decode cX3_lendPieces 43 = .ok (.getfield 20, 3) := by decide +kernel
theorem dX3_lendPieces_46 : decode cX3_lendPieces 46 = .ok (.iload_n 2, 1) := by decide +kernel
theorem dX3_lendPieces_47 : decode cX3_lendPieces 47 = .ok (.iload_n 1, 1) := by decide +kernel
theorem dX3_lendPieces_48 : decode cX3_lendPieces 48 = .ok (.iload_n 3, 1) := by decide +kernel
theorem dX3_lendPieces_49 : decode cX3_lendPieces 49 = .ok (.invokestatic 197, 3) := by decide +kernel
theorem dX3_lendPieces_52 : decode cX3_lendPieces 52 = .ok (.iload 4, 2) := by decide +kernel
theorem dX3_lendPieces_54 : decode cX3_lendPieces 54 = .ok (.invokevirtual 218, 3) := by decide +kernel
theorem dX3_lendPieces_57 : decode cX3_lendPieces 57 = .ok (.ireturn, 1) := by decide +kernel
theorem dX3_payPieces_0 : decode cX3_payPieces 0 = .ok (.aload_n 0, 1) := by decide +kernel
theorem dX3_payPieces_1 : decode cX3_payPieces 1 = .ok (.getfield 11, 3) := by decide +kernel
theorem dX3_payPieces_4 : decode cX3_payPieces 4 = .ok (.iload_n 1, 1) := by decide +kernel
theorem dX3_payPieces_5 : decode cX3_payPieces 5 = .ok (.aaload, 1) := by decide +kernel
theorem dX3_payPieces_6 : decode cX3_payPieces 6 = .ok (.iload_n 3, 1) := by decide +kernel
theorem dX3_payPieces_7 : decode cX3_payPieces 7 = .ok (.invokevirtual 135, 3) := by decide +kernel
theorem dX3_payPieces_10 : decode cX3_payPieces 10 = .ok (.aload_n 0, 1) := by decide +kernel
theorem dX3_payPieces_11 : decode cX3_payPieces 11 = .ok (.getfield 11, 3) := by decide +kernel
theorem dX3_payPieces_14 : decode cX3_payPieces 14 = .ok (.iload_n 2, 1) := by decide +kernel
theorem dX3_payPieces_15 : decode cX3_payPieces 15 = .ok (.aaload, 1) := by decide +kernel
theorem dX3_payPieces_16 : decode cX3_payPieces 16 = .ok (.iload_n 3, 1) := by decide +kernel
theorem dX3_payPieces_17 : decode cX3_payPieces 17 = .ok (.invokevirtual 135, 3) := by decide +kernel
theorem dX3_payPieces_20 : decode cX3_payPieces 20 = .ok (.iload 4, 2) := by decide +kernel
theorem dX3_payPieces_22 : decode cX3_payPieces 22 = .ok (.invokevirtual 211, 3) := by decide +kernel
theorem dX3_payPieces_25 : decode cX3_payPieces 25 = .ok (.aload_n 0, 1) := by decide +kernel
theorem dX3_payPieces_26 : decode cX3_payPieces 26 = .ok (.getfield 24, 3) := by decide +kernel
theorem dX3_payPieces_29 : decode cX3_payPieces 29 = .ok (.iconst 4, 1) := by decide +kernel
theorem dX3_payPieces_30 : decode cX3_payPieces 30 = .ok (.dup2, 1) := by decide +kernel
theorem dX3_payPieces_31 : decode cX3_payPieces 31 = .ok (.iaload, 1) := by decide +kernel
theorem dX3_payPieces_32 : decode cX3_payPieces 32 = .ok (.iload 4, 2) := by decide +kernel
theorem dX3_payPieces_34 : decode cX3_payPieces 34 = .ok (.iadd, 1) := by decide +kernel
theorem dX3_payPieces_35 : decode cX3_payPieces 35 = .ok (.iastore, 1) := by decide +kernel
theorem dX3_payPieces_36 : decode cX3_payPieces 36 = .ok (.aload_n 0, 1) := by decide +kernel
theorem dX3_payPieces_37 : decode cX3_payPieces 37 = .ok (.iload_n 1, 1) := by decide +kernel
theorem dX3_payPieces_38 : decode cX3_payPieces 38 = .ok (.iload_n 2, 1) := by decide +kernel
theorem dX3_payPieces_39 : decode cX3_payPieces 39 = .ok (.invokevirtual 215, 3) := by decide +kernel
theorem dX3_payPieces_42 : decode cX3_payPieces 42 = .ok (.pop, 1) := by decide +kernel
theorem dX3_payPieces_43 : decode cX3_payPieces 43 = .ok (.aload_n 0, 1) := by decide +kernel
theorem dX3_payPieces_44 : decode cX3_payPieces 44 = .ok (.getfield 20, 3) := by decide +kernel
theorem dX3_payPieces_47 : decode cX3_payPieces 47 = .ok (.iload_n 1, 1) := by decide +kernel
theorem dX3_payPieces_48 : decode cX3_payPieces 48 = .ok (.iload_n 2, 1) := by decide +kernel
theorem dX3_payPieces_49 : decode cX3_payPieces 49 = .ok (.iload_n 3, 1) := by decide +kernel
theorem dX3_payPieces_50 : decode cX3_payPieces 50 = .ok (.iload 4, 2) := by decide +kernel
theorem dX3_payPieces_52 : decode cX3_payPieces 52 = .ok (.invokevirtual 221, 3) := by decide +kernel
theorem dX3_payPieces_55 : decode cX3_payPieces 55 = .ok (.ireturn, 1) := by decide +kernel
theorem dX3_seatPupil_0 : decode cX3_seatPupil 0 = .ok (.aload_n 0, 1) := by decide +kernel
theorem dX3_seatPupil_1 : decode cX3_seatPupil 1 = .ok (.getfield 11, 3) := by decide +kernel
theorem dX3_seatPupil_4 : decode cX3_seatPupil 4 = .ok (.iload_n 1, 1) := by decide +kernel
theorem dX3_seatPupil_5 : decode cX3_seatPupil 5 = .ok (.aaload, 1) := by decide +kernel
theorem dX3_seatPupil_6 : decode cX3_seatPupil 6 = .ok (.iload_n 2, 1) := by decide +kernel
theorem dX3_seatPupil_7 : decode cX3_seatPupil 7 = .ok (.iload_n 3, 1) := by decide +kernel
theorem dX3_seatPupil_8 : decode cX3_seatPupil 8 = .ok (.invokevirtual 121, 3) := by decide +kernel
theorem dX3_seatPupil_11 : decode cX3_seatPupil 11 = .ok (.aload_n 0, 1) := by decide +kernel
theorem dX3_seatPupil_12 : decode cX3_seatPupil 12 = .ok (.iload_n 1, 1) := by decide +kernel
theorem dX3_seatPupil_13 : decode cX3_seatPupil 13 = .ok (.invokevirtual 224, 3) := by decide +kernel
theorem dX3_seatPupil_16 : decode cX3_seatPupil 16 = .ok (.invokestatic 171, 3) := by decide +kernel
theorem dX3_seatPupil_19 : decode cX3_seatPupil 19 = .ok (.ireturn, 1) := by decide +kernel
theorem dX3_endWeek_0 : decode cX3_endWeek 0 = .ok (.iconst 0, 1) := by decide +kernel
theorem dX3_endWeek_1 : decode cX3_endWeek 1 = .ok (.istore_n 1, 1) := by decide +kernel
theorem dX3_endWeek_2 : decode cX3_endWeek 2 = .ok (.iconst 0, 1) := by decide +kernel
theorem dX3_endWeek_3 : decode cX3_endWeek 3 = .ok (.istore_n 2, 1) := by decide +kernel
theorem dX3_endWeek_4 : decode cX3_endWeek 4 = .ok (.iload_n 2, 1) := by decide +kernel
theorem dX3_endWeek_5 : decode cX3_endWeek 5 = .ok (.aload_n 0, 1) := by decide +kernel
theorem dX3_endWeek_6 : decode cX3_endWeek 6 = .ok (.getfield 31, 3) := by decide +kernel
theorem dX3_endWeek_9 : decode cX3_endWeek 9 = .ok (.if_icmp .ge 19, 3) := by decide +kernel
theorem dX3_endWeek_12 : decode cX3_endWeek 12 = .ok (.aload_n 0, 1) := by decide +kernel
theorem dX3_endWeek_13 : decode cX3_endWeek 13 = .ok (.aload_n 0, 1) := by decide +kernel
theorem dX3_endWeek_14 : decode cX3_endWeek 14 = .ok (.getfield 11, 3) := by decide +kernel
theorem dX3_endWeek_17 : decode cX3_endWeek 17 = .ok (.iload_n 2, 1) := by decide +kernel
theorem dX3_endWeek_18 : decode cX3_endWeek 18 = .ok (.aaload, 1) := by decide +kernel
theorem dX3_endWeek_19 : decode cX3_endWeek 19 = .ok (.invokevirtual 227, 3) := by decide +kernel
theorem dX3_endWeek_22 : decode cX3_endWeek 22 = .ok (.iinc 2 1, 3) := by decide +kernel
theorem dX3_endWeek_25 : decode cX3_endWeek 25 = .ok (.goto (-21), 3) := by decide +kernel
theorem dX3_endWeek_28 : decode cX3_endWeek 28 = .ok (.iconst 0, 1) := by decide +kernel
theorem dX3_endWeek_29 : decode cX3_endWeek 29 = .ok (.istore_n 2, 1) := by decide +kernel
theorem dX3_endWeek_30 : decode cX3_endWeek 30 = .ok (.iload_n 2, 1) := by decide +kernel
theorem dX3_endWeek_31 : decode cX3_endWeek 31 = .ok (.aload_n 0, 1) := by decide +kernel
theorem dX3_endWeek_32 : decode cX3_endWeek 32 = .ok (.getfield 31, 3) := by decide +kernel
theorem dX3_endWeek_35 : decode cX3_endWeek 35 = .ok (.if_icmp .ge 22, 3) := by decide +kernel
theorem dX3_endWeek_38 : decode cX3_endWeek 38 = .ok (.iload_n 1, 1) := by decide +kernel
theorem dX3_endWeek_39 : decode cX3_endWeek 39 = .ok (.aload_n 0, 1) := by decide +kernel
theorem dX3_endWeek_40 : decode cX3_endWeek 40 = .ok (.aload_n 0, 1) := by decide +kernel
theorem dX3_endWeek_41 : decode cX3_endWeek 41 = .ok (.getfield 11, 3) := by decide +kernel
theorem dX3_endWeek_44 : decode cX3_endWeek 44 = .ok (.iload_n 2, 1) := by decide +kernel
theorem dX3_endWeek_45 : decode cX3_endWeek 45 = .ok (.aaload, 1) := by decide +kernel
theorem dX3_endWeek_46 : decode cX3_endWeek 46 = .ok (.invokevirtual 230, 3) := by decide +kernel
theorem dX3_endWeek_49 : decode cX3_endWeek 49 = .ok (.iadd, 1) := by decide +kernel
theorem dX3_endWeek_50 : decode cX3_endWeek 50 = .ok (.istore_n 1, 1) := by decide +kernel
theorem dX3_endWeek_51 : decode cX3_endWeek 51 = .ok (.iinc 2 1, 3) := by decide +kernel
theorem dX3_endWeek_54 : decode cX3_endWeek 54 = .ok (.goto (-24), 3) := by decide +kernel
theorem dX3_endWeek_57 : decode cX3_endWeek 57 = .ok (.iconst 0, 1) := by decide +kernel
theorem dX3_endWeek_58 : decode cX3_endWeek 58 = .ok (.istore_n 2, 1) := by decide +kernel
theorem dX3_endWeek_59 : decode cX3_endWeek 59 = .ok (.iload_n 2, 1) := by decide +kernel
theorem dX3_endWeek_60 : decode cX3_endWeek 60 = .ok (.aload_n 0, 1) := by decide +kernel
theorem dX3_endWeek_61 : decode cX3_endWeek 61 = .ok (.getfield 31, 3) := by decide +kernel
theorem dX3_endWeek_64 : decode cX3_endWeek 64 = .ok (.if_icmp .ge 43, 3) := by decide +kernel
theorem dX3_endWeek_67 : decode cX3_endWeek 67 = .ok (.aload_n 0, 1) := by decide +kernel
theorem dX3_endWeek_68 : decode cX3_endWeek 68 = .ok (.getfield 11, 3) := by decide +kernel
theorem dX3_endWeek_71 : decode cX3_endWeek 71 = .ok (.iload_n 2, 1) := by decide +kernel
theorem dX3_endWeek_72 : decode cX3_endWeek 72 = .ok (.aaload, 1) := by decide +kernel
theorem dX3_endWeek_73 : decode cX3_endWeek 73 = .ok (.aload_n 0, 1) := by decide +kernel
theorem dX3_endWeek_74 : decode cX3_endWeek 74 = .ok (.getfield 11, 3) := by decide +kernel
theorem dX3_endWeek_77 : decode cX3_endWeek 77 = .ok (.iload_n 2, 1) := by decide +kernel
theorem dX3_endWeek_78 : decode cX3_endWeek 78 = .ok (.aaload, 1) := by decide +kernel
theorem dX3_endWeek_79 : decode cX3_endWeek 79 = .ok (.invokevirtual 142, 3) := by decide +kernel
theorem dX3_endWeek_82 : decode cX3_endWeek 82 = .ok (.ifCond .eq 12, 3) := by decide +kernel
theorem dX3_endWeek_85 : decode cX3_endWeek 85 = .ok (.aload_n 0, 1) := by decide +kernel
theorem dX3_endWeek_86 : decode cX3_endWeek 86 = .ok (.getfield 51, 3) := by decide +kernel
theorem dX3_endWeek_89 : decode cX3_endWeek 89 = .ok (.iconst 2, 1) := by decide +kernel
theorem dX3_endWeek_90 : decode cX3_endWeek 90 = .ok (.idiv, 1) := by decide +kernel
theorem dX3_endWeek_91 : decode cX3_endWeek 91 = .ok (.goto 7, 3) := by decide +kernel
theorem dX3_endWeek_94 : decode cX3_endWeek 94 = .ok (.aload_n 0, 1) := by decide +kernel
theorem dX3_endWeek_95 : decode cX3_endWeek 95 = .ok (.getfield 51, 3) := by decide +kernel
theorem dX3_endWeek_98 : decode cX3_endWeek 98 = .ok (.putfield 179, 3) := by decide +kernel
theorem dX3_endWeek_101 : decode cX3_endWeek 101 = .ok (.iinc 2 1, 3) := by decide +kernel
theorem dX3_endWeek_104 : decode cX3_endWeek 104 = .ok (.goto (-45), 3) := by decide +kernel
theorem dX3_endWeek_107 : decode cX3_endWeek 107 = .ok (.aload_n 0, 1) := by decide +kernel
theorem dX3_endWeek_108 : decode cX3_endWeek 108 = .ok (.getfield 24, 3) := by decide +kernel
theorem dX3_endWeek_111 : decode cX3_endWeek 111 = .ok (.bipush 8, 2) := by decide +kernel
theorem dX3_endWeek_113 : decode cX3_endWeek 113 = .ok (.dup2, 1) := by decide +kernel
theorem dX3_endWeek_114 : decode cX3_endWeek 114 = .ok (.iaload, 1) := by decide +kernel
theorem dX3_endWeek_115 : decode cX3_endWeek 115 = .ok (.iload_n 1, 1) := by decide +kernel
theorem dX3_endWeek_116 : decode cX3_endWeek 116 = .ok (.iadd, 1) := by decide +kernel
theorem dX3_endWeek_117 : decode cX3_endWeek 117 = .ok (.iastore, 1) := by decide +kernel
theorem dX3_endWeek_118 : decode cX3_endWeek 118 = .ok (.aload_n 0, 1) := by decide +kernel
theorem dX3_endWeek_119 : decode cX3_endWeek 119 = .ok (.getfield 24, 3) := by decide +kernel
theorem dX3_endWeek_122 : decode cX3_endWeek 122 = .ok (.bipush 9, 2) := by decide +kernel
theorem dX3_endWeek_124 : decode cX3_endWeek 124 = .ok (.dup2, 1) := by decide +kernel
theorem dX3_endWeek_125 : decode cX3_endWeek 125 = .ok (.iaload, 1) := by decide +kernel
theorem dX3_endWeek_126 : decode cX3_endWeek 126 = .ok (.aload_n 0, 1) := by decide +kernel
theorem dX3_endWeek_127 : decode cX3_endWeek 127 = .ok (.getfield 20, 3) := by decide +kernel
theorem dX3_endWeek_130 : decode cX3_endWeek 130 = .ok (.invokevirtual 234, 3) := by decide +kernel
theorem dX3_endWeek_133 : decode cX3_endWeek 133 = .ok (.iadd, 1) := by decide +kernel
theorem dX3_endWeek_134 : decode cX3_endWeek 134 = .ok (.iastore, 1) := by decide +kernel
theorem dX3_endWeek_135 : decode cX3_endWeek 135 = .ok (.aload_n 0, 1) := by decide +kernel
theorem dX3_endWeek_136 : decode cX3_endWeek 136 = .ok (.dup, 1) := by decide +kernel
theorem dX3_endWeek_137 : decode cX3_endWeek 137 = .ok (.getfield 48, 3) := by decide +kernel
theorem dX3_endWeek_140 : decode cX3_endWeek 140 = .ok (.iconst 1, 1) := by decide +kernel
theorem dX3_endWeek_141 : decode cX3_endWeek 141 = .ok (.iadd, 1) := by decide +kernel
theorem dX3_endWeek_142 : decode cX3_endWeek 142 = .ok (.putfield 48, 3) := by decide +kernel
theorem dX3_endWeek_145 : decode cX3_endWeek 145 = .ok (.iload_n 1, 1) := by decide +kernel
theorem dX3_endWeek_146 : decode cX3_endWeek 146 = .ok (.ireturn, 1) := by decide +kernel
theorem dX3_handIn_0 : decode cX3_handIn 0 = .ok (.aload_n 0, 1) := by decide +kernel
theorem dX3_handIn_1 : decode cX3_handIn 1 = .ok (.aload_n 1, 1) := by decide +kernel
theorem dX3_handIn_2 : decode cX3_handIn 2 = .ok (.iconst 0, 1) := by decide +kernel
theorem dX3_handIn_3 : decode cX3_handIn 3 = .ok (.invokevirtual 238, 3) := by decide +kernel
theorem dX3_handIn_6 : decode cX3_handIn 6 = .ok (.istore_n 2, 1) := by decide +kernel
theorem dX3_handIn_7 : decode cX3_handIn 7 = .ok (.aload_n 0, 1) := by decide +kernel
theorem dX3_handIn_8 : decode cX3_handIn 8 = .ok (.aload_n 1, 1) := by decide +kernel
theorem dX3_handIn_9 : decode cX3_handIn 9 = .ok (.iconst 1, 1) := by decide +kernel
theorem dX3_handIn_10 : decode cX3_handIn 10 = .ok (.invokevirtual 238, 3) := by decide +kernel
theorem dX3_handIn_13 : decode cX3_handIn 13 = .ok (.istore_n 3, 1) := by decide +kernel
theorem dX3_handIn_14 : decode cX3_handIn 14 = .ok (.aload_n 1, 1) := by decide +kernel
theorem dX3_handIn_15 : decode cX3_handIn 15 = .ok (.dup, 1) := by decide +kernel
theorem dX3_handIn_16 : decode cX3_handIn 16 = .ok (.getfield 145, 3) := by decide +kernel
theorem dX3_handIn_19 : decode cX3_handIn 19 = .ok (.aload_n 0, 1) := by decide +kernel
theorem dX3_handIn_20 : decode cX3_handIn 20 = .ok (.getfield 57, 3) := by decide +kernel
theorem dX3_handIn_23 : decode cX3_handIn 23 = .ok (.iload_n 2, 1) := by decide +kernel
theorem dX3_handIn_24 : decode cX3_handIn 24 = .ok (.isub, 1) := by decide +kernel
theorem dX3_handIn_25 : decode cX3_handIn 25 = .ok (.aload_n 0, 1) := by decide +kernel
theorem dX3_handIn_26 : decode cX3_handIn 26 = .ok (.getfield 60, 3) := by decide +kernel
theorem dX3_handIn_29 : decode cX3_handIn 29 = .ok (.iadd, 1) := by decide +kernel
theorem dX3_handIn_30 : decode cX3_handIn 30 = .ok (.iload_n 3, 1) := by decide +kernel
theorem dX3_handIn_31 : decode cX3_handIn 31 = .ok (.isub, 1) := by decide +kernel
theorem dX3_handIn_32 : decode cX3_handIn 32 = .ok (.iadd, 1) := by decide +kernel
theorem dX3_handIn_33 : decode cX3_handIn 33 = .ok (.putfield 145, 3) := by decide +kernel
theorem dX3_handIn_36 : decode cX3_handIn 36 = .ok (.aload_n 1, 1) := by decide +kernel
theorem dX3_handIn_37 : decode cX3_handIn 37 = .ok (.dup, 1) := by decide +kernel
theorem dX3_handIn_38 : decode cX3_handIn 38 = .ok (.getfield 242, 3) := by decide +kernel
theorem dX3_handIn_41 : decode cX3_handIn 41 = .ok (.aload_n 1, 1) := by decide +kernel
theorem dX3_handIn_42 : decode cX3_handIn 42 = .ok (.iload_n 2, 1) := by decide +kernel
theorem dX3_handIn_43 : decode cX3_handIn 43 = .ok (.iload_n 3, 1) := by decide +kernel
theorem dX3_handIn_44 : decode cX3_handIn 44 = .ok (.invokevirtual 245, 3) := by decide +kernel
theorem dX3_handIn_47 : decode cX3_handIn 47 = .ok (.iadd, 1) := by decide +kernel
theorem dX3_handIn_48 : decode cX3_handIn 48 = .ok (.putfield 242, 3) := by decide +kernel
theorem dX3_handIn_51 : decode cX3_handIn 51 = .ok (.aload_n 1, 1) := by decide +kernel
theorem dX3_handIn_52 : decode cX3_handIn 52 = .ok (.getfield 186, 3) := by decide +kernel
theorem dX3_handIn_55 : decode cX3_handIn 55 = .ok (.iload_n 2, 1) := by decide +kernel
theorem dX3_handIn_56 : decode cX3_handIn 56 = .ok (.invokevirtual 248, 3) := by decide +kernel
theorem dX3_handIn_59 : decode cX3_handIn 59 = .ok (.aload_n 1, 1) := by decide +kernel
theorem dX3_handIn_60 : decode cX3_handIn 60 = .ok (.getfield 190, 3) := by decide +kernel
theorem dX3_handIn_63 : decode cX3_handIn 63 = .ok (.iload_n 3, 1) := by decide +kernel
theorem dX3_handIn_64 : decode cX3_handIn 64 = .ok (.invokevirtual 248, 3) := by decide +kernel
theorem dX3_handIn_67 : decode cX3_handIn 67 = .ok (.aload_n 0, 1) := by decide +kernel
theorem dX3_handIn_68 : decode cX3_handIn 68 = .ok (.getfield 24, 3) := by decide +kernel
theorem dX3_handIn_71 : decode cX3_handIn 71 = .ok (.iconst 5, 1) := by decide +kernel
theorem dX3_handIn_72 : decode cX3_handIn 72 = .ok (.dup2, 1) := by decide +kernel
theorem dX3_handIn_73 : decode cX3_handIn 73 = .ok (.iaload, 1) := by decide +kernel
theorem dX3_handIn_74 : decode cX3_handIn 74 = .ok (.iload_n 2, 1) := by decide +kernel
theorem dX3_handIn_75 : decode cX3_handIn 75 = .ok (.iload_n 3, 1) := by decide +kernel
theorem dX3_handIn_76 : decode cX3_handIn 76 = .ok (.iadd, 1) := by decide +kernel
theorem dX3_handIn_77 : decode cX3_handIn 77 = .ok (.iadd, 1) := by decide +kernel
theorem dX3_handIn_78 : decode cX3_handIn 78 = .ok (.iastore, 1) := by decide +kernel
theorem dX3_handIn_79 : decode cX3_handIn 79 = .ok (.return_, 1) := by decide +kernel
theorem dX3_lookAtProof_0 : decode cX3_lookAtProof 0 = .ok (.aload_n 1, 1) := by decide +kernel
theorem dX3_lookAtProof_1 : decode cX3_lookAtProof 1 = .ok (.getfield 242, 3) := by decide +kernel
theorem dX3_lookAtProof_4 : decode cX3_lookAtProof 4 = .ok (.aload_n 0, 1) := by decide +kernel
theorem dX3_lookAtProof_5 : decode cX3_lookAtProof 5 = .ok (.getfield 54, 3) := by decide +kernel
theorem dX3_lookAtProof_8 : decode cX3_lookAtProof 8 = .ok (.if_icmp .lt 7, 3) := by decide +kernel
theorem dX3_lookAtProof_11 : decode cX3_lookAtProof 11 = .ok (.iconst 1, 1) := by decide +kernel
theorem dX3_lookAtProof_12 : decode cX3_lookAtProof 12 = .ok (.goto 4, 3) := by decide +kernel
theorem dX3_lookAtProof_15 : decode cX3_lookAtProof 15 = .ok (.iconst 0, 1) := by decide +kernel
theorem dX3_lookAtProof_16 : decode cX3_lookAtProof 16 = .ok (.istore_n 2, 1) := by decide +kernel
theorem dX3_lookAtProof_17 : decode cX3_lookAtProof 17 = .ok (.aload_n 1, 1) := by decide +kernel
theorem dX3_lookAtProof_18 : decode cX3_lookAtProof 18 = .ok (.aload_n 0, 1) := by decide +kernel
theorem dX3_lookAtProof_19 : decode cX3_lookAtProof 19 = .ok (.aload_n 1, 1) := by decide +kernel
theorem dX3_lookAtProof_20 : decode cX3_lookAtProof 20 = .ok (.aload_n 1, 1) := by decide +kernel
theorem dX3_lookAtProof_21 : decode cX3_lookAtProof 21 = .ok (.getfield 242, 3) := by decide +kernel
theorem dX3_lookAtProof_24 : decode cX3_lookAtProof 24 = .ok (.invokevirtual 251, 3) := by decide +kernel
theorem dX3_lookAtProof_27 : decode cX3_lookAtProof 27 = .ok (.putfield 254, 3) := by decide +kernel
theorem dX3_lookAtProof_30 : decode cX3_lookAtProof 30 = .ok (.iload_n 2, 1) := by decide +kernel
theorem dX3_lookAtProof_31 : decode cX3_lookAtProof 31 = .ok (.ifCond .ne 5, 3) := by decide +kernel
theorem dX3_lookAtProof_34 : decode cX3_lookAtProof 34 = .ok (.iconst 0, 1) := by decide +kernel
theorem dX3_lookAtProof_35 : decode cX3_lookAtProof 35 = .ok (.ireturn, 1) := by decide +kernel
theorem dX3_lookAtProof_36 : decode cX3_lookAtProof 36 = .ok (.aload_n 1, 1) := by decide +kernel
theorem dX3_lookAtProof_37 : decode cX3_lookAtProof 37 = .ok (.iconst 0, 1) := by decide +kernel
theorem dX3_lookAtProof_38 : decode cX3_lookAtProof 38 = .ok (.putfield 242, 3) := by decide +kernel
theorem dX3_lookAtProof_41 : decode cX3_lookAtProof 41 = .ok (.aload_n 1, 1) := by decide +kernel
theorem dX3_lookAtProof_42 : decode cX3_lookAtProof 42 = .ok (.iconst 0, 1) := by decide +kernel
theorem dX3_lookAtProof_43 : decode cX3_lookAtProof 43 = .ok (.putfield 257, 3) := by decide +kernel
theorem dX3_lookAtProof_46 : decode cX3_lookAtProof 46 = .ok (.aload_n 0, 1) := by decide +kernel
theorem dX3_lookAtProof_47 : decode cX3_lookAtProof 47 = .ok (.getfield 24, 3) := by decide +kernel
theorem dX3_lookAtProof_50 : decode cX3_lookAtProof 50 = .ok (.bipush 6, 2) := by decide +kernel
theorem dX3_lookAtProof_52 : decode cX3_lookAtProof 52 = .ok (.dup2, 1) := by decide +kernel
theorem dX3_lookAtProof_53 : decode cX3_lookAtProof 53 = .ok (.iaload, 1) := by decide +kernel
theorem dX3_lookAtProof_54 : decode cX3_lookAtProof 54 = .ok (.aload_n 1, 1) := by decide +kernel
theorem dX3_lookAtProof_55 : decode cX3_lookAtProof 55 = .ok (.getfield 186, 3) := by decide +kernel
theorem dX3_lookAtProof_58 : decode cX3_lookAtProof 58 = .ok (.getfield 139, 3) := by decide +kernel
theorem dX3_lookAtProof_61 : decode cX3_lookAtProof 61 = .ok (.aload_n 1, 1) := by decide +kernel
theorem dX3_lookAtProof_62 : decode cX3_lookAtProof 62 = .ok (.getfield 190, 3) := by decide +kernel
theorem dX3_lookAtProof_65 : decode cX3_lookAtProof 65 = .ok (.getfield 139, 3) := by decide +kernel
theorem dX3_lookAtProof_68 : decode cX3_lookAtProof 68 = .ok (.iadd, 1) := by decide +kernel
theorem dX3_lookAtProof_69 : decode cX3_lookAtProof 69 = .ok (.iadd, 1) := by decide +kernel
theorem dX3_lookAtProof_70 : decode cX3_lookAtProof 70 = .ok (.iastore, 1) := by decide +kernel
theorem dX3_lookAtProof_71 : decode cX3_lookAtProof 71 = .ok (.aload_n 1, 1) := by decide +kernel
theorem dX3_lookAtProof_72 : decode cX3_lookAtProof 72 = .ok (.invokevirtual 260, 3) := by decide +kernel
theorem dX3_lookAtProof_75 : decode cX3_lookAtProof 75 = .ok (.iconst 1, 1) := by decide +kernel
theorem dX3_lookAtProof_76 : decode cX3_lookAtProof 76 = .ok (.ireturn, 1) := by decide +kernel
theorem dX3_handedIn_0 : decode cX3_handedIn 0 = .ok (.aload_n 0, 1) := by decide +kernel
theorem dX3_handedIn_1 : decode cX3_handedIn 1 = .ok (.iload_n 2, 1) := by decide +kernel
theorem dX3_handedIn_2 : decode cX3_handedIn 2 = .ok (.invokevirtual 263, 3) := by decide +kernel
theorem dX3_handedIn_5 : decode cX3_handedIn 5 = .ok (.aload_n 1, 1) := by decide +kernel
theorem dX3_handedIn_6 : decode cX3_handedIn 6 = .ok (.iload_n 2, 1) := by decide +kernel
theorem dX3_handedIn_7 : decode cX3_handedIn 7 = .ok (.invokevirtual 135, 3) := by decide +kernel
theorem dX3_handedIn_10 : decode cX3_handedIn 10 = .ok (.getfield 139, 3) := by decide +kernel
theorem dX3_handedIn_13 : decode cX3_handedIn 13 = .ok (.invokestatic 266, 3) := by decide +kernel
theorem dX3_handedIn_16 : decode cX3_handedIn 16 = .ok (.ireturn, 1) := by decide +kernel
theorem dX3_lackingOf_0 : decode cX3_lackingOf 0 = .ok (.aload_n 0, 1) := by decide +kernel
theorem dX3_lackingOf_1 : decode cX3_lackingOf 1 = .ok (.iload_n 2, 1) := by decide +kernel
theorem dX3_lackingOf_2 : decode cX3_lackingOf 2 = .ok (.invokevirtual 263, 3) := by decide +kernel
theorem dX3_lackingOf_5 : decode cX3_lackingOf 5 = .ok (.aload_n 0, 1) := by decide +kernel
theorem dX3_lackingOf_6 : decode cX3_lackingOf 6 = .ok (.aload_n 1, 1) := by decide +kernel
theorem dX3_lackingOf_7 : decode cX3_lackingOf 7 = .ok (.iload_n 2, 1) := by decide +kernel
theorem dX3_lackingOf_8 : decode cX3_lackingOf 8 = .ok (.invokevirtual 238, 3) := by decide +kernel
theorem dX3_lackingOf_11 : decode cX3_lackingOf 11 = .ok (.isub, 1) := by decide +kernel
theorem dX3_lackingOf_12 : decode cX3_lackingOf 12 = .ok (.ireturn, 1) := by decide +kernel
theorem dX3_lacking_0 : decode cX3_lacking 0 = .ok (.aload_n 0, 1) := by decide +kernel
theorem dX3_lacking_1 : decode cX3_lacking 1 = .ok (.aload_n 1, 1) := by decide +kernel
theorem dX3_lacking_2 : decode cX3_lacking 2 = .ok (.iconst 0, 1) := by decide +kernel
theorem dX3_lacking_3 : decode cX3_lacking 3 = .ok (.invokevirtual 271, 3) := by decide +kernel
theorem dX3_lacking_6 : decode cX3_lacking 6 = .ok (.aload_n 0, 1) := by decide +kernel
theorem dX3_lacking_7 : decode cX3_lacking 7 = .ok (.aload_n 1, 1) := by decide +kernel
theorem dX3_lacking_8 : decode cX3_lacking 8 = .ok (.iconst 1, 1) := by decide +kernel
theorem dX3_lacking_9 : decode cX3_lacking 9 = .ok (.invokevirtual 271, 3) := by decide +kernel
theorem dX3_lacking_12 : decode cX3_lacking 12 = .ok (.iadd, 1) := by decide +kernel
theorem dX3_lacking_13 : decode cX3_lacking 13 = .ok (.ireturn, 1) := by decide +kernel
theorem dX3_proofOfHandingIn_0 : decode cX3_proofOfHandingIn 0 = .ok (.aload_n 1, 1) := by decide +kernel
theorem dX3_proofOfHandingIn_1 : decode cX3_proofOfHandingIn 1 = .ok (.aload_n 0, 1) := by decide +kernel
theorem dX3_proofOfHandingIn_2 : decode cX3_proofOfHandingIn 2 = .ok (.aload_n 1, 1) := by decide +kernel
theorem dX3_proofOfHandingIn_3 : decode cX3_proofOfHandingIn 3 = .ok (.iconst 0, 1) := by decide +kernel
theorem dX3_proofOfHandingIn_4 : decode cX3_proofOfHandingIn 4 = .ok (.invokevirtual 238, 3) := by decide +kernel
theorem dX3_proofOfHandingIn_7 : decode cX3_proofOfHandingIn 7 = .ok (.aload_n 0, 1) := by decide +kernel
theorem dX3_proofOfHandingIn_8 : decode cX3_proofOfHandingIn 8 = .ok (.aload_n 1, 1) := by decide +kernel
theorem dX3_proofOfHandingIn_9 : decode cX3_proofOfHandingIn 9 = .ok (.iconst 1, 1) := by decide +kernel
theorem dX3_proofOfHandingIn_10 : decode cX3_proofOfHandingIn 10 = .ok (.invokevirtual 238, 3) := by decide +kernel
theorem dX3_proofOfHandingIn_13 : decode cX3_proofOfHandingIn 13 = .ok (.invokevirtual 245, 3) := by decide +kernel
theorem dX3_proofOfHandingIn_16 : decode cX3_proofOfHandingIn 16 = .ok (.ireturn, 1) := by decide +kernel
theorem dX3_proofLookedAt_0 : decode cX3_proofLookedAt 0 = .ok (.aload_n 1, 1) := by decide +kernel
theorem dX3_proofLookedAt_1 : decode cX3_proofLookedAt 1 = .ok (.getfield 242, 3) := by decide +kernel
theorem dX3_proofLookedAt_4 : decode cX3_proofLookedAt 4 = .ok (.aload_n 0, 1) := by decide +kernel
theorem dX3_proofLookedAt_5 : decode cX3_proofLookedAt 5 = .ok (.aload_n 1, 1) := by decide +kernel
theorem dX3_proofLookedAt_6 : decode cX3_proofLookedAt 6 = .ok (.invokevirtual 274, 3) := by decide +kernel
theorem dX3_proofLookedAt_9 : decode cX3_proofLookedAt 9 = .ok (.iadd, 1) := by decide +kernel
theorem dX3_proofLookedAt_10 : decode cX3_proofLookedAt 10 = .ok (.ireturn, 1) := by decide +kernel
theorem dX3_detentionBehind_0 : decode cX3_detentionBehind 0 = .ok (.iload_n 2, 1) := by decide +kernel
theorem dX3_detentionBehind_1 : decode cX3_detentionBehind 1 = .ok (.aload_n 0, 1) := by decide +kernel
theorem dX3_detentionBehind_2 : decode cX3_detentionBehind 2 = .ok (.getfield 54, 3) := by decide +kernel
theorem dX3_detentionBehind_5 : decode cX3_detentionBehind 5 = .ok (.if_icmp .lt 19, 3) := by decide +kernel
theorem dX3_detentionBehind_8 : decode cX3_detentionBehind 8 = .ok (.iconst 1, 1) := by decide +kernel
theorem dX3_detentionBehind_9 : decode cX3_detentionBehind 9 = .ok (.iload_n 2, 1) := by decide +kernel
theorem dX3_detentionBehind_10 : decode cX3_detentionBehind 10 = .ok (.aload_n 0, 1) := by decide +kernel
theorem dX3_detentionBehind_11 : decode cX3_detentionBehind 11 = .ok (.getfield 54, 3) := by decide +kernel
theorem dX3_detentionBehind_14 : decode cX3_detentionBehind 14 = .ok (.isub, 1) := by decide +kernel
theorem dX3_detentionBehind_15 : decode cX3_detentionBehind 15 = .ok (.iconst 3, 1) := by decide +kernel
theorem dX3_detentionBehind_16 : decode cX3_detentionBehind 16 = .ok (.idiv, 1) := by decide +kernel
theorem dX3_detentionBehind_17 : decode cX3_detentionBehind 17 = .ok (.iadd, 1) := by decide +kernel
theorem dX3_detentionBehind_18 : decode cX3_detentionBehind 18 = .ok (.bipush 9, 2) := by decide +kernel
theorem dX3_detentionBehind_20 : decode cX3_detentionBehind 20 = .ok (.invokestatic 266, 3) := by decide +kernel
theorem dX3_detentionBehind_23 : decode cX3_detentionBehind 23 = .ok (.ireturn, 1) := by decide +kernel
theorem dX3_detentionBehind_24 : decode cX3_detentionBehind 24 = .ok (.aload_n 1, 1) := by decide +kernel
theorem dX3_detentionBehind_25 : decode cX3_detentionBehind 25 = .ok (.getfield 254, 3) := by decide +kernel
theorem dX3_detentionBehind_28 : decode cX3_detentionBehind 28 = .ok (.iconst 1, 1) := by decide +kernel
theorem dX3_detentionBehind_29 : decode cX3_detentionBehind 29 = .ok (.isub, 1) := by decide +kernel
theorem dX3_detentionBehind_30 : decode cX3_detentionBehind 30 = .ok (.iconst 0, 1) := by decide +kernel
theorem dX3_detentionBehind_31 : decode cX3_detentionBehind 31 = .ok (.invokestatic 277, 3) := by decide +kernel
theorem dX3_detentionBehind_34 : decode cX3_detentionBehind 34 = .ok (.ireturn, 1) := by decide +kernel
theorem dX3_standing_0 : decode cX3_standing 0 = .ok (.aload_n 1, 1) := by decide +kernel
theorem dX3_standing_1 : decode cX3_standing 1 = .ok (.invokevirtual 142, 3) := by decide +kernel
theorem dX3_standing_4 : decode cX3_standing 4 = .ok (.ifCond .eq 5, 3) := by decide +kernel
theorem dX3_standing_7 : decode cX3_standing 7 = .ok (.iconst 1, 1) := by decide +kernel
theorem dX3_standing_8 : decode cX3_standing 8 = .ok (.ireturn, 1) := by decide +kernel
theorem dX3_standing_9 : decode cX3_standing 9 = .ok (.aload_n 0, 1) := by decide +kernel
theorem dX3_standing_10 : decode cX3_standing 10 = .ok (.aload_n 1, 1) := by decide +kernel
theorem dX3_standing_11 : decode cX3_standing 11 = .ok (.invokevirtual 280, 3) := by decide +kernel
theorem dX3_standing_14 : decode cX3_standing 14 = .ok (.aload_n 0, 1) := by decide +kernel
theorem dX3_standing_15 : decode cX3_standing 15 = .ok (.getfield 54, 3) := by decide +kernel
theorem dX3_standing_18 : decode cX3_standing 18 = .ok (.if_icmp .lt 5, 3) := by decide +kernel
theorem dX3_standing_21 : decode cX3_standing 21 = .ok (.iconst 2, 1) := by decide +kernel
theorem dX3_standing_22 : decode cX3_standing 22 = .ok (.ireturn, 1) := by decide +kernel
theorem dX3_standing_23 : decode cX3_standing 23 = .ok (.aload_n 0, 1) := by decide +kernel
theorem dX3_standing_24 : decode cX3_standing 24 = .ok (.aload_n 1, 1) := by decide +kernel
theorem dX3_standing_25 : decode cX3_standing 25 = .ok (.invokevirtual 283, 3) := by decide +kernel
theorem dX3_standing_28 : decode cX3_standing 28 = .ok (.ifCond .le 5, 3) := by decide +kernel
theorem dX3_standing_31 : decode cX3_standing 31 = .ok (.iconst 3, 1) := by decide +kernel
theorem dX3_standing_32 : decode cX3_standing 32 = .ok (.ireturn, 1) := by decide +kernel
theorem dX3_standing_33 : decode cX3_standing 33 = .ok (.aload_n 0, 1) := by decide +kernel
theorem dX3_standing_34 : decode cX3_standing 34 = .ok (.aload_n 1, 1) := by decide +kernel
theorem dX3_standing_35 : decode cX3_standing 35 = .ok (.invokevirtual 286, 3) := by decide +kernel
theorem dX3_standing_38 : decode cX3_standing 38 = .ok (.iconst (-1), 1) := by decide +kernel
theorem dX3_standing_39 : decode cX3_standing 39 = .ok (.if_icmp .ne 7, 3) := by decide +kernel
theorem dX3_standing_42 : decode cX3_standing 42 = .ok (.iconst 5, 1) := by decide +kernel
theorem dX3_standing_43 : decode cX3_standing 43 = .ok (.goto 4, 3) := by decide +kernel
theorem dX3_standing_46 : decode cX3_standing 46 = .ok (.iconst 4, 1) := by decide +kernel
theorem dX3_standing_47 : decode cX3_standing 47 = .ok (.ireturn, 1) := by decide +kernel
theorem dX3_debtBeyondSatchel_0 : decode cX3_debtBeyondSatchel 0 = .ok (.iconst 0, 1) := by decide +kernel
theorem dX3_debtBeyondSatchel_1 : decode cX3_debtBeyondSatchel 1 = .ok (.istore_n 2, 1) := by decide +kernel
theorem dX3_debtBeyondSatchel_2 : decode cX3_debtBeyondSatchel 2 = .ok (.iload_n 2, 1) := by decide +kernel
theorem dX3_debtBeyondSatchel_3 : decode cX3_debtBeyondSatchel 3 = .ok (.aload_n 0, 1) := by decide +kernel
theorem dX3_debtBeyondSatchel_4 : decode cX3_debtBeyondSatchel 4 = .ok (.getfield 20, 3) := by decide +kernel
theorem dX3_debtBeyondSatchel_7 : decode cX3_debtBeyondSatchel 7 = .ok (.getfield 96, 3) := by decide +kernel
theorem dX3_debtBeyondSatchel_10 : decode cX3_debtBeyondSatchel 10 = .ok (.if_icmp .ge 58, 3) := by decide +kernel
theorem dX3_debtBeyondSatchel_13 : decode cX3_debtBeyondSatchel 13 = .ok (.aload_n 0, 1) := by decide +kernel
theorem dX3_debtBeyondSatchel_14 : decode cX3_debtBeyondSatchel 14 = .ok (.getfield 20, 3) := by decide +kernel
theorem dX3_debtBeyondSatchel_17 : decode cX3_debtBeyondSatchel 17 = .ok (.getfield 289, 3) := by decide +kernel
theorem dX3_debtBeyondSatchel_20 : decode cX3_debtBeyondSatchel 20 = .ok (.iload_n 2, 1) := by decide +kernel
theorem dX3_debtBeyondSatchel_21 : decode cX3_debtBeyondSatchel 21 = .ok (.iaload, 1) := by decide +kernel
theorem dX3_debtBeyondSatchel_22 : decode cX3_debtBeyondSatchel 22 = .ok (.aload_n 1, 1) := by decide +kernel
theorem dX3_debtBeyondSatchel_23 : decode cX3_debtBeyondSatchel 23 = .ok (.getfield 292, 3) := by decide +kernel
theorem dX3_debtBeyondSatchel_26 : decode cX3_debtBeyondSatchel 26 = .ok (.if_icmp .eq 6, 3) := by decide +kernel
theorem dX3_debtBeyondSatchel_29 : decode cX3_debtBeyondSatchel 29 = .ok (.goto 33, 3) := by decide +kernel
theorem dX3_debtBeyondSatchel_32 : decode cX3_debtBeyondSatchel 32 = .ok (.aload_n 0, 1) := by decide +kernel
theorem dX3_debtBeyondSatchel_33 : decode cX3_debtBeyondSatchel 33 = .ok (.getfield 20, 3) := by decide +kernel
theorem dX3_debtBeyondSatchel_36 : decode cX3_debtBeyondSatchel 36 = .ok (.getfield 295, 3) := by decide +kernel
theorem dX3_debtBeyondSatchel_39 : decode cX3_debtBeyondSatchel 39 = .ok (.iload_n 2, 1) := by decide +kernel
theorem dX3_debtBeyondSatchel_40 : decode cX3_debtBeyondSatchel 40 = .ok (.iaload, 1) := by decide +kernel
theorem dX3_debtBeyondSatchel_41 : decode cX3_debtBeyondSatchel 41 = .ok (.aload_n 1, 1) := by decide +kernel
theorem dX3_debtBeyondSatchel_42 : decode cX3_debtBeyondSatchel 42 = .ok (.aload_n 0, 1) := by decide +kernel
theorem dX3_debtBeyondSatchel_43 : decode cX3_debtBeyondSatchel 43 = .ok (.getfield 20, 3) := by decide +kernel
theorem dX3_debtBeyondSatchel_46 : decode cX3_debtBeyondSatchel 46 = .ok (.getfield 298, 3) := by decide +kernel
theorem dX3_debtBeyondSatchel_49 : decode cX3_debtBeyondSatchel 49 = .ok (.iload_n 2, 1) := by decide +kernel
theorem dX3_debtBeyondSatchel_50 : decode cX3_debtBeyondSatchel 50 = .ok (.iaload, 1) := by decide +kernel
theorem dX3_debtBeyondSatchel_51 : decode cX3_debtBeyondSatchel 51 = .ok (.invokevirtual 135, 3) := by decide +kernel
theorem dX3_debtBeyondSatchel_54 : decode cX3_debtBeyondSatchel 54 = .ok (.getfield 139, 3) := by decide +kernel
theorem dX3_debtBeyondSatchel_57 : decode cX3_debtBeyondSatchel 57 = .ok (.if_icmp .le 5, 3) := by decide +kernel
theorem dX3_debtBeyondSatchel_60 : decode cX3_debtBeyondSatchel 60 = .ok (.iload_n 2, 1) := by decide +kernel
theorem dX3_debtBeyondSatchel_61 : decode cX3_debtBeyondSatchel 61 = .ok (.ireturn, 1) := by decide +kernel
theorem dX3_debtBeyondSatchel_62 : decode cX3_debtBeyondSatchel 62 = .ok (.iinc 2 1, 3) := by decide +kernel
theorem dX3_debtBeyondSatchel_65 : decode cX3_debtBeyondSatchel 65 = .ok (.goto (-63), 3) := by decide +kernel
theorem dX3_debtBeyondSatchel_68 : decode cX3_debtBeyondSatchel 68 = .ok (.iconst (-1), 1) := by decide +kernel
theorem dX3_debtBeyondSatchel_69 : decode cX3_debtBeyondSatchel 69 = .ok (.ireturn, 1) := by decide +kernel
