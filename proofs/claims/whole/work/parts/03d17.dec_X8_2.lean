theorem dX8_doPass_38 : decode cX8_doPass 38 = .ok (.iload_n 1, 1) := by decide +kernel
theorem dX8_doPass_39 : decode cX8_doPass 39 = .ok (.if_icmp .ge 19, 3) := by decide +kernel
theorem dX8_doPass_42 : decode cX8_doPass 42 = .ok (.iload_n 2, 1) := by decide +kernel
theorem dX8_doPass_43 : decode cX8_doPass 43 = .ok (.aload_n 0, 1) := by decide +kernel
theorem dX8_doPass_44 : decode cX8_doPass 44 = .ok (.getfield 26, 3) := by decide +kernel
theorem dX8_doPass_47 : decode cX8_doPass 47 = .ok (.invokevirtual 364, 3) := by decide +kernel
theorem dX8_doPass_50 : decode cX8_doPass 50 = .ok (.iadd, 1) := by decide +kernel
theorem dX8_doPass_51 : decode cX8_doPass 51 = .ok (.istore_n 2, 1) := by decide +kernel
theorem dX8_doPass_52 : decode cX8_doPass 52 = .ok (.iinc 3 1, 3) := by decide +kernel
theorem dX8_doPass_55 : decode cX8_doPass 55 = .ok (.goto (-18), 3) := by decide +kernel
theorem dX8_doPass_58 : decode cX8_doPass 58 = .ok (.iload_n 2, 1) := by decide +kernel
theorem dX8_doPass_59 : decode cX8_doPass 59 = .ok (.ireturn, 1) := by decide +kernel
theorem dX8_refuse_0 : decode cX8_refuse 0 = .ok (.iload_n 1, 1) := by decide +kernel
theorem dX8_refuse_1 : decode cX8_refuse 1 = .ok (.ifCond .le 22, 3) := by decide +kernel
theorem dX8_refuse_4 : decode cX8_refuse 4 = .ok (.iload_n 1, 1) := by decide +kernel
theorem dX8_refuse_5 : decode cX8_refuse 5 = .ok (.aload_n 0, 1) := by decide +kernel
theorem dX8_refuse_6 : decode cX8_refuse 6 = .ok (.getfield 48, 3) := by decide +kernel
theorem dX8_refuse_9 : decode cX8_refuse 9 = .ok (.arraylength, 1) := by decide +kernel
theorem dX8_refuse_10 : decode cX8_refuse 10 = .ok (.if_icmp .ge 13, 3) := by decide +kernel
theorem dX8_refuse_13 : decode cX8_refuse 13 = .ok (.aload_n 0, 1) := by decide +kernel
theorem dX8_refuse_14 : decode cX8_refuse 14 = .ok (.getfield 48, 3) := by decide +kernel
theorem dX8_refuse_17 : decode cX8_refuse 17 = .ok (.iload_n 1, 1) := by decide +kernel
theorem dX8_refuse_18 : decode cX8_refuse 18 = .ok (.dup2, 1) := by decide +kernel
theorem dX8_refuse_19 : decode cX8_refuse 19 = .ok (.iaload, 1) := by decide +kernel
theorem dX8_refuse_20 : decode cX8_refuse 20 = .ok (.iconst 1, 1) := by decide +kernel
theorem dX8_refuse_21 : decode cX8_refuse 21 = .ok (.iadd, 1) := by decide +kernel
theorem dX8_refuse_22 : decode cX8_refuse 22 = .ok (.iastore, 1) := by decide +kernel
theorem dX8_refuse_23 : decode cX8_refuse 23 = .ok (.iload_n 1, 1) := by decide +kernel
theorem dX8_refuse_24 : decode cX8_refuse 24 = .ok (.ineg, 1) := by decide +kernel
theorem dX8_refuse_25 : decode cX8_refuse 25 = .ok (.ireturn, 1) := by decide +kernel
theorem dX8_write_0 : decode cX8_write 0 = .ok (.aload_n 0, 1) := by decide +kernel
theorem dX8_write_1 : decode cX8_write 1 = .ok (.iload_n 1, 1) := by decide +kernel
theorem dX8_write_2 : decode cX8_write 2 = .ok (.invokevirtual 200, 3) := by decide +kernel
theorem dX8_write_5 : decode cX8_write 5 = .ok (.aload_n 0, 1) := by decide +kernel
theorem dX8_write_6 : decode cX8_write 6 = .ok (.getfield 57, 3) := by decide +kernel
theorem dX8_write_9 : decode cX8_write 9 = .ok (.iconst 0, 1) := by decide +kernel
theorem dX8_write_10 : decode cX8_write 10 = .ok (.invokevirtual 90, 3) := by decide +kernel
theorem dX8_write_13 : decode cX8_write 13 = .ok (.aload_n 0, 1) := by decide +kernel
theorem dX8_write_14 : decode cX8_write 14 = .ok (.aload_n 0, 1) := by decide +kernel
theorem dX8_write_15 : decode cX8_write 15 = .ok (.getfield 26, 3) := by decide +kernel
theorem dX8_write_18 : decode cX8_write 18 = .ok (.getfield 203, 3) := by decide +kernel
theorem dX8_write_21 : decode cX8_write 21 = .ok (.iload_n 1, 1) := by decide +kernel
theorem dX8_write_22 : decode cX8_write 22 = .ok (.aaload, 1) := by decide +kernel
theorem dX8_write_23 : decode cX8_write 23 = .ok (.getfield 234, 3) := by decide +kernel
theorem dX8_write_26 : decode cX8_write 26 = .ok (.invokevirtual 418, 3) := by decide +kernel
theorem dX8_write_29 : decode cX8_write 29 = .ok (.aload_n 0, 1) := by decide +kernel
theorem dX8_write_30 : decode cX8_write 30 = .ok (.getfield 57, 3) := by decide +kernel
theorem dX8_write_33 : decode cX8_write 33 = .ok (.bipush 47, 2) := by decide +kernel
theorem dX8_write_35 : decode cX8_write 35 = .ok (.invokevirtual 83, 3) := by decide +kernel
theorem dX8_write_38 : decode cX8_write 38 = .ok (.aload_n 0, 1) := by decide +kernel
theorem dX8_write_39 : decode cX8_write 39 = .ok (.aload_n 0, 1) := by decide +kernel
theorem dX8_write_40 : decode cX8_write 40 = .ok (.getfield 26, 3) := by decide +kernel
theorem dX8_write_43 : decode cX8_write 43 = .ok (.getfield 203, 3) := by decide +kernel
theorem dX8_write_46 : decode cX8_write 46 = .ok (.iload_n 1, 1) := by decide +kernel
theorem dX8_write_47 : decode cX8_write 47 = .ok (.aaload, 1) := by decide +kernel
theorem dX8_write_48 : decode cX8_write 48 = .ok (.getfield 241, 3) := by decide +kernel
theorem dX8_write_51 : decode cX8_write 51 = .ok (.invokevirtual 418, 3) := by decide +kernel
theorem dX8_write_54 : decode cX8_write 54 = .ok (.iconst 0, 1) := by decide +kernel
theorem dX8_write_55 : decode cX8_write 55 = .ok (.istore_n 2, 1) := by decide +kernel
theorem dX8_write_56 : decode cX8_write 56 = .ok (.iload_n 2, 1) := by decide +kernel
theorem dX8_write_57 : decode cX8_write 57 = .ok (.aload_n 0, 1) := by decide +kernel
theorem dX8_write_58 : decode cX8_write 58 = .ok (.getfield 26, 3) := by decide +kernel
theorem dX8_write_61 : decode cX8_write 61 = .ok (.getfield 174, 3) := by decide +kernel
theorem dX8_write_64 : decode cX8_write 64 = .ok (.getfield 178, 3) := by decide +kernel
theorem dX8_write_67 : decode cX8_write 67 = .ok (.if_icmp .ge 30, 3) := by decide +kernel
theorem dX8_write_70 : decode cX8_write 70 = .ok (.aload_n 0, 1) := by decide +kernel
theorem dX8_write_71 : decode cX8_write 71 = .ok (.getfield 26, 3) := by decide +kernel
theorem dX8_write_74 : decode cX8_write 74 = .ok (.getfield 174, 3) := by decide +kernel
theorem dX8_write_77 : decode cX8_write 77 = .ok (.getfield 276, 3) := by decide +kernel
theorem dX8_write_80 : decode cX8_write 80 = .ok (.iload_n 2, 1) := by decide +kernel
theorem dX8_write_81 : decode cX8_write 81 = .ok (.iaload, 1) := by decide +kernel
theorem dX8_write_82 : decode cX8_write 82 = .ok (.iload_n 1, 1) := by decide +kernel
theorem dX8_write_83 : decode cX8_write 83 = .ok (.if_icmp .ne 8, 3) := by decide +kernel
theorem dX8_write_86 : decode cX8_write 86 = .ok (.aload_n 0, 1) := by decide +kernel
theorem dX8_write_87 : decode cX8_write 87 = .ok (.iload_n 2, 1) := by decide +kernel
theorem dX8_write_88 : decode cX8_write 88 = .ok (.invokevirtual 422, 3) := by decide +kernel
theorem dX8_write_91 : decode cX8_write 91 = .ok (.iinc 2 1, 3) := by decide +kernel
theorem dX8_write_94 : decode cX8_write 94 = .ok (.goto (-38), 3) := by decide +kernel
theorem dX8_write_97 : decode cX8_write 97 = .ok (.aload_n 0, 1) := by decide +kernel
theorem dX8_write_98 : decode cX8_write 98 = .ok (.getfield 57, 3) := by decide +kernel
theorem dX8_write_101 : decode cX8_write 101 = .ok (.getfield 72, 3) := by decide +kernel
theorem dX8_write_104 : decode cX8_write 104 = .ok (.ireturn, 1) := by decide +kernel
theorem dX8_output_0 : decode cX8_output 0 = .ok (.aload_n 0, 1) := by decide +kernel
theorem dX8_output_1 : decode cX8_output 1 = .ok (.getfield 57, 3) := by decide +kernel
theorem dX8_output_4 : decode cX8_output 4 = .ok (.iload_n 1, 1) := by decide +kernel
theorem dX8_output_5 : decode cX8_output 5 = .ok (.invokevirtual 425, 3) := by decide +kernel
theorem dX8_output_8 : decode cX8_output 8 = .ok (.ireturn, 1) := by decide +kernel
theorem dX8_writeMakers_0 : decode cX8_writeMakers 0 = .ok (.iconst 0, 1) := by decide +kernel
theorem dX8_writeMakers_1 : decode cX8_writeMakers 1 = .ok (.istore_n 2, 1) := by decide +kernel
theorem dX8_writeMakers_2 : decode cX8_writeMakers 2 = .ok (.iload_n 2, 1) := by decide +kernel
theorem dX8_writeMakers_3 : decode cX8_writeMakers 3 = .ok (.aload_n 1, 1) := by decide +kernel
theorem dX8_writeMakers_4 : decode cX8_writeMakers 4 = .ok (.getfield 238, 3) := by decide +kernel
theorem dX8_writeMakers_7 : decode cX8_writeMakers 7 = .ok (.if_icmp .ge 24, 3) := by decide +kernel
theorem dX8_writeMakers_10 : decode cX8_writeMakers 10 = .ok (.aload_n 0, 1) := by decide +kernel
theorem dX8_writeMakers_11 : decode cX8_writeMakers 11 = .ok (.getfield 57, 3) := by decide +kernel
theorem dX8_writeMakers_14 : decode cX8_writeMakers 14 = .ok (.bipush 97, 2) := by decide +kernel
theorem dX8_writeMakers_16 : decode cX8_writeMakers 16 = .ok (.aload_n 1, 1) := by decide +kernel
theorem dX8_writeMakers_17 : decode cX8_writeMakers 17 = .ok (.iload_n 2, 1) := by decide +kernel
theorem dX8_writeMakers_18 : decode cX8_writeMakers 18 = .ok (.invokevirtual 267, 3) := by decide +kernel
theorem dX8_writeMakers_21 : decode cX8_writeMakers 21 = .ok (.iadd, 1) := by decide +kernel
theorem dX8_writeMakers_22 : decode cX8_writeMakers 22 = .ok (.invokevirtual 83, 3) := by decide +kernel
theorem dX8_writeMakers_25 : decode cX8_writeMakers 25 = .ok (.iinc 2 1, 3) := by decide +kernel
theorem dX8_writeMakers_28 : decode cX8_writeMakers 28 = .ok (.goto (-26), 3) := by decide +kernel
theorem dX8_writeMakers_31 : decode cX8_writeMakers 31 = .ok (.return_, 1) := by decide +kernel
theorem dX8_writeDebt_0 : decode cX8_writeDebt 0 = .ok (.aload_n 0, 1) := by decide +kernel
theorem dX8_writeDebt_1 : decode cX8_writeDebt 1 = .ok (.getfield 26, 3) := by decide +kernel
theorem dX8_writeDebt_4 : decode cX8_writeDebt 4 = .ok (.getfield 174, 3) := by decide +kernel
theorem dX8_writeDebt_7 : decode cX8_writeDebt 7 = .ok (.getfield 285, 3) := by decide +kernel
theorem dX8_writeDebt_10 : decode cX8_writeDebt 10 = .ok (.iload_n 1, 1) := by decide +kernel
theorem dX8_writeDebt_11 : decode cX8_writeDebt 11 = .ok (.iaload, 1) := by decide +kernel
theorem dX8_writeDebt_12 : decode cX8_writeDebt 12 = .ok (.istore_n 2, 1) := by decide +kernel
theorem dX8_writeDebt_13 : decode cX8_writeDebt 13 = .ok (.aload_n 0, 1) := by decide +kernel
theorem dX8_writeDebt_14 : decode cX8_writeDebt 14 = .ok (.getfield 57, 3) := by decide +kernel
theorem dX8_writeDebt_17 : decode cX8_writeDebt 17 = .ok (.bipush 32, 2) := by decide +kernel
theorem dX8_writeDebt_19 : decode cX8_writeDebt 19 = .ok (.invokevirtual 83, 3) := by decide +kernel
theorem dX8_writeDebt_22 : decode cX8_writeDebt 22 = .ok (.aload_n 0, 1) := by decide +kernel
theorem dX8_writeDebt_23 : decode cX8_writeDebt 23 = .ok (.getfield 57, 3) := by decide +kernel
theorem dX8_writeDebt_26 : decode cX8_writeDebt 26 = .ok (.bipush 97, 2) := by decide +kernel
theorem dX8_writeDebt_28 : decode cX8_writeDebt 28 = .ok (.aload_n 0, 1) := by decide +kernel
theorem dX8_writeDebt_29 : decode cX8_writeDebt 29 = .ok (.getfield 26, 3) := by decide +kernel
theorem dX8_writeDebt_32 : decode cX8_writeDebt 32 = .ok (.getfield 174, 3) := by decide +kernel
theorem dX8_writeDebt_35 : decode cX8_writeDebt 35 = .ok (.getfield 279, 3) := by decide +kernel
theorem dX8_writeDebt_38 : decode cX8_writeDebt 38 = .ok (.iload_n 1, 1) := by decide +kernel
theorem dX8_writeDebt_39 : decode cX8_writeDebt 39 = .ok (.iaload, 1) := by decide +kernel
theorem dX8_writeDebt_40 : decode cX8_writeDebt 40 = .ok (.iadd, 1) := by decide +kernel
theorem dX8_writeDebt_41 : decode cX8_writeDebt 41 = .ok (.invokevirtual 83, 3) := by decide +kernel
theorem dX8_writeDebt_44 : decode cX8_writeDebt 44 = .ok (.aload_n 0, 1) := by decide +kernel
theorem dX8_writeDebt_45 : decode cX8_writeDebt 45 = .ok (.getfield 57, 3) := by decide +kernel
theorem dX8_writeDebt_48 : decode cX8_writeDebt 48 = .ok (.aload_n 0, 1) := by decide +kernel
theorem dX8_writeDebt_49 : decode cX8_writeDebt 49 = .ok (.getfield 26, 3) := by decide +kernel
theorem dX8_writeDebt_52 : decode cX8_writeDebt 52 = .ok (.getfield 174, 3) := by decide +kernel
theorem dX8_writeDebt_55 : decode cX8_writeDebt 55 = .ok (.getfield 282, 3) := by decide +kernel
theorem dX8_writeDebt_58 : decode cX8_writeDebt 58 = .ok (.iload_n 1, 1) := by decide +kernel
theorem dX8_writeDebt_59 : decode cX8_writeDebt 59 = .ok (.iaload, 1) := by decide +kernel
theorem dX8_writeDebt_60 : decode cX8_writeDebt 60 = .ok (.ifCond .ne 8, 3) := by decide +kernel
theorem dX8_writeDebt_63 : decode cX8_writeDebt 63 = .ok (.bipush 115, 2) := by decide +kernel
theorem dX8_writeDebt_65 : decode cX8_writeDebt 65 = .ok (.goto 5, 3) := by decide +kernel
theorem dX8_writeDebt_68 : decode cX8_writeDebt 68 = .ok (.bipush 118, 2) := by decide +kernel
theorem dX8_writeDebt_70 : decode cX8_writeDebt 70 = .ok (.invokevirtual 83, 3) := by decide +kernel
theorem dX8_writeDebt_73 : decode cX8_writeDebt 73 = .ok (.iload_n 2, 1) := by decide +kernel
theorem dX8_writeDebt_74 : decode cX8_writeDebt 74 = .ok (.bipush 9, 2) := by decide +kernel
theorem dX8_writeDebt_76 : decode cX8_writeDebt 76 = .ok (.if_icmp .le 17, 3) := by decide +kernel
theorem dX8_writeDebt_79 : decode cX8_writeDebt 79 = .ok (.aload_n 0, 1) := by decide +kernel
theorem dX8_writeDebt_80 : decode cX8_writeDebt 80 = .ok (.getfield 57, 3) := by decide +kernel
theorem dX8_writeDebt_83 : decode cX8_writeDebt 83 = .ok (.bipush 48, 2) := by decide +kernel
theorem dX8_writeDebt_85 : decode cX8_writeDebt 85 = .ok (.iload_n 2, 1) := by decide +kernel
theorem dX8_writeDebt_86 : decode cX8_writeDebt 86 = .ok (.bipush 10, 2) := by decide +kernel
theorem dX8_writeDebt_88 : decode cX8_writeDebt 88 = .ok (.idiv, 1) := by decide +kernel
theorem dX8_writeDebt_89 : decode cX8_writeDebt 89 = .ok (.iadd, 1) := by decide +kernel
theorem dX8_writeDebt_90 : decode cX8_writeDebt 90 = .ok (.invokevirtual 83, 3) := by decide +kernel
theorem dX8_writeDebt_93 : decode cX8_writeDebt 93 = .ok (.aload_n 0, 1) := by decide +kernel
theorem dX8_writeDebt_94 : decode cX8_writeDebt 94 = .ok (.getfield 57, 3) := by decide +kernel
theorem dX8_writeDebt_97 : decode cX8_writeDebt 97 = .ok (.bipush 48, 2) := by decide +kernel
theorem dX8_writeDebt_99 : decode cX8_writeDebt 99 = .ok (.iload_n 2, 1) := by decide +kernel
theorem dX8_writeDebt_100 : decode cX8_writeDebt 100 = .ok (.bipush 10, 2) := by decide +kernel
theorem dX8_writeDebt_102 : decode cX8_writeDebt 102 = .ok (.irem, 1) := by decide +kernel
theorem dX8_writeDebt_103 : decode cX8_writeDebt 103 = .ok (.iadd, 1) := by decide +kernel
theorem dX8_writeDebt_104 : decode cX8_writeDebt 104 = .ok (.invokevirtual 83, 3) := by decide +kernel
theorem dX8_writeDebt_107 : decode cX8_writeDebt 107 = .ok (.return_, 1) := by decide +kernel
theorem dX8_undo_0 : decode cX8_undo 0 = .ok (.aload_n 0, 1) := by decide +kernel
theorem dX8_undo_1 : decode cX8_undo 1 = .ok (.getfield 36, 3) := by decide +kernel
theorem dX8_undo_4 : decode cX8_undo 4 = .ok (.getfield 191, 3) := by decide +kernel
theorem dX8_undo_7 : decode cX8_undo 7 = .ok (.ifCond .ne 5, 3) := by decide +kernel
theorem dX8_undo_10 : decode cX8_undo 10 = .ok (.iconst (-1), 1) := by decide +kernel
theorem dX8_undo_11 : decode cX8_undo 11 = .ok (.ireturn, 1) := by decide +kernel
theorem dX8_undo_12 : decode cX8_undo 12 = .ok (.aload_n 0, 1) := by decide +kernel
theorem dX8_undo_13 : decode cX8_undo 13 = .ok (.getfield 36, 3) := by decide +kernel
theorem dX8_undo_16 : decode cX8_undo 16 = .ok (.aload_n 0, 1) := by decide +kernel
theorem dX8_undo_17 : decode cX8_undo 17 = .ok (.getfield 26, 3) := by decide +kernel
theorem dX8_undo_20 : decode cX8_undo 20 = .ok (.invokevirtual 428, 3) := by decide +kernel
theorem dX8_undo_23 : decode cX8_undo 23 = .ok (.aload_n 0, 1) := by decide +kernel
theorem dX8_undo_24 : decode cX8_undo 24 = .ok (.getfield 36, 3) := by decide +kernel
theorem dX8_undo_27 : decode cX8_undo 27 = .ok (.getfield 191, 3) := by decide +kernel
theorem dX8_undo_30 : decode cX8_undo 30 = .ok (.ireturn, 1) := by decide +kernel
theorem dX8_save_0 : decode cX8_save 0 = .ok (.iload_n 1, 1) := by decide +kernel
theorem dX8_save_1 : decode cX8_save 1 = .ok (.iconst 0, 1) := by decide +kernel
theorem dX8_save_2 : decode cX8_save 2 = .ok (.iconst 1, 1) := by decide +kernel
theorem dX8_save_3 : decode cX8_save 3 = .ok (.invokestatic 86, 3) := by decide +kernel
theorem dX8_save_6 : decode cX8_save 6 = .ok (.aload_n 0, 1) := by decide +kernel
theorem dX8_save_7 : decode cX8_save 7 = .ok (.getfield 40, 3) := by decide +kernel
theorem dX8_save_10 : decode cX8_save 10 = .ok (.iload_n 1, 1) := by decide +kernel
theorem dX8_save_11 : decode cX8_save 11 = .ok (.aaload, 1) := by decide +kernel
theorem dX8_save_12 : decode cX8_save 12 = .ok (.aload_n 0, 1) := by decide +kernel
theorem dX8_save_13 : decode cX8_save 13 = .ok (.getfield 26, 3) := by decide +kernel
theorem dX8_save_16 : decode cX8_save 16 = .ok (.invokevirtual 101, 3) := by decide +kernel
theorem dX8_save_19 : decode cX8_save 19 = .ok (.aload_n 0, 1) := by decide +kernel
theorem dX8_save_20 : decode cX8_save 20 = .ok (.getfield 44, 3) := by decide +kernel
theorem dX8_save_23 : decode cX8_save 23 = .ok (.iload_n 1, 1) := by decide +kernel
theorem dX8_save_24 : decode cX8_save 24 = .ok (.iconst 1, 1) := by decide +kernel
theorem dX8_save_25 : decode cX8_save 25 = .ok (.bastore, 1) := by decide +kernel
theorem dX8_save_26 : decode cX8_save 26 = .ok (.return_, 1) := by decide +kernel
theorem dX8_restore_0 : decode cX8_restore 0 = .ok (.iload_n 1, 1) := by decide +kernel
theorem dX8_restore_1 : decode cX8_restore 1 = .ok (.iconst 0, 1) := by decide +kernel
theorem dX8_restore_2 : decode cX8_restore 2 = .ok (.iconst 1, 1) := by decide +kernel
theorem dX8_restore_3 : decode cX8_restore 3 = .ok (.invokestatic 86, 3) := by decide +kernel
theorem dX8_restore_6 : decode cX8_restore 6 = .ok (.aload_n 0, 1) := by decide +kernel
theorem dX8_restore_7 : decode cX8_restore 7 = .ok (.getfield 44, 3) := by decide +kernel
theorem dX8_restore_10 : decode cX8_restore 10 = .ok (.iload_n 1, 1) := by decide +kernel
theorem dX8_restore_11 : decode cX8_restore 11 = .ok (.baload, 1) := by decide +kernel
theorem dX8_restore_12 : decode cX8_restore 12 = .ok (.ifCond .ne 14, 3) := by decide +kernel
theorem dX8_restore_15 : decode cX8_restore 15 = .ok (.new 76, 3) := by decide +kernel
theorem dX8_restore_18 : decode cX8_restore 18 = .ok (.dup, 1) := by decide +kernel
theorem dX8_restore_19 : decode cX8_restore 19 = .ok (.ldc_w 431, 3) := by decide +kernel
theorem dX8_restore_22 : decode cX8_restore 22 = .ok (.invokespecial 80, 3) := by decide +kernel
theorem dX8_restore_25 : decode cX8_restore 25 = .ok (.athrow, 1) := by decide +kernel
theorem dX8_restore_26 : decode cX8_restore 26 = .ok (.aload_n 0, 1) := by decide +kernel
theorem dX8_restore_27 : decode cX8_restore 27 = .ok (.getfield 26, 3) := by decide +kernel
theorem dX8_restore_30 : decode cX8_restore 30 = .ok (.aload_n 0, 1) := by decide +kernel
theorem dX8_restore_31 : decode cX8_restore 31 = .ok (.getfield 40, 3) := by decide +kernel
theorem dX8_restore_34 : decode cX8_restore 34 = .ok (.iload_n 1, 1) := by decide +kernel
theorem dX8_restore_35 : decode cX8_restore 35 = .ok (.aaload, 1) := by decide +kernel
theorem dX8_restore_36 : decode cX8_restore 36 = .ok (.invokevirtual 101, 3) := by decide +kernel
theorem dX8_restore_39 : decode cX8_restore 39 = .ok (.aload_n 0, 1) := by decide +kernel
theorem dX8_restore_40 : decode cX8_restore 40 = .ok (.getfield 36, 3) := by decide +kernel
theorem dX8_restore_43 : decode cX8_restore 43 = .ok (.invokevirtual 105, 3) := by decide +kernel
theorem dX8_restore_46 : decode cX8_restore 46 = .ok (.return_, 1) := by decide +kernel
theorem dX8_needPupil_0 : decode cX8_needPupil 0 = .ok (.aload_n 0, 1) := by decide +kernel
theorem dX8_needPupil_1 : decode cX8_needPupil 1 = .ok (.getfield 26, 3) := by decide +kernel
theorem dX8_needPupil_4 : decode cX8_needPupil 4 = .ok (.iload_n 1, 1) := by decide +kernel
theorem dX8_needPupil_5 : decode cX8_needPupil 5 = .ok (.invokevirtual 135, 3) := by decide +kernel
theorem dX8_needPupil_8 : decode cX8_needPupil 8 = .ok (.ifCond .ne 14, 3) := by decide +kernel
theorem dX8_needPupil_11 : decode cX8_needPupil 11 = .ok (.new 433, 3) := by decide +kernel
theorem dX8_needPupil_14 : decode cX8_needPupil 14 = .ok (.dup, 1) := by decide +kernel
theorem dX8_needPupil_15 : decode cX8_needPupil 15 = .ok (.ldc_w 435, 3) := by decide +kernel
theorem dX8_needPupil_18 : decode cX8_needPupil 18 = .ok (.invokespecial 437, 3) := by decide +kernel
theorem dX8_needPupil_21 : decode cX8_needPupil 21 = .ok (.athrow, 1) := by decide +kernel
theorem dX8_needPupil_22 : decode cX8_needPupil 22 = .ok (.return_, 1) := by decide +kernel
theorem dX8_needDebt_0 : decode cX8_needDebt 0 = .ok (.iload_n 1, 1) := by decide +kernel
theorem dX8_needDebt_1 : decode cX8_needDebt 1 = .ok (.ifCond .lt 17, 3) := by decide +kernel
theorem dX8_needDebt_4 : decode cX8_needDebt 4 = .ok (.iload_n 1, 1) := by decide +kernel
theorem dX8_needDebt_5 : decode cX8_needDebt 5 = .ok (.aload_n 0, 1) := by decide +kernel
theorem dX8_needDebt_6 : decode cX8_needDebt 6 = .ok (.getfield 26, 3) := by decide +kernel
theorem dX8_needDebt_9 : decode cX8_needDebt 9 = .ok (.getfield 174, 3) := by decide +kernel
theorem dX8_needDebt_12 : decode cX8_needDebt 12 = .ok (.getfield 178, 3) := by decide +kernel
theorem dX8_needDebt_15 : decode cX8_needDebt 15 = .ok (.if_icmp .lt 14, 3) := by decide +kernel
theorem dX8_needDebt_18 : decode cX8_needDebt 18 = .ok (.new 433, 3) := by decide +kernel
theorem dX8_needDebt_21 : decode cX8_needDebt 21 = .ok (.dup, 1) := by decide +kernel
theorem dX8_needDebt_22 : decode cX8_needDebt 22 = .ok (.ldc_w 438, 3) := by decide +kernel
theorem dX8_needDebt_25 : decode cX8_needDebt 25 = .ok (.invokespecial 437, 3) := by decide +kernel
theorem dX8_needDebt_28 : decode cX8_needDebt 28 = .ok (.athrow, 1) := by decide +kernel
theorem dX8_needDebt_29 : decode cX8_needDebt 29 = .ok (.return_, 1) := by decide +kernel
theorem dX8_needRange_0 : decode cX8_needRange 0 = .ok (.iload_n 0, 1) := by decide +kernel
theorem dX8_needRange_1 : decode cX8_needRange 1 = .ok (.iload_n 1, 1) := by decide +kernel
theorem dX8_needRange_2 : decode cX8_needRange 2 = .ok (.if_icmp .lt 8, 3) := by decide +kernel
theorem dX8_needRange_5 : decode cX8_needRange 5 = .ok (.iload_n 0, 1) := by decide +kernel
theorem dX8_needRange_6 : decode cX8_needRange 6 = .ok (.iload_n 2, 1) := by decide +kernel
theorem dX8_needRange_7 : decode cX8_needRange 7 = .ok (.if_icmp .le 14, 3) := by decide +kernel
theorem dX8_needRange_10 : decode cX8_needRange 10 = .ok (.new 192, 3) := by decide +kernel
theorem dX8_needRange_13 : decode cX8_needRange 13 = .ok (.dup, 1) := by decide +kernel
theorem dX8_needRange_14 : decode cX8_needRange 14 = .ok (.ldc_w 440, 3) := by decide +kernel
theorem dX8_needRange_17 : decode cX8_needRange 17 = .ok (.invokespecial 196, 3) := by decide +kernel
theorem dX8_needRange_20 : decode cX8_needRange 20 = .ok (.athrow, 1) := by decide +kernel
theorem dX8_needRange_21 : decode cX8_needRange 21 = .ok (.return_, 1) := by decide +kernel
theorem dX8_needSubject_0 : decode cX8_needSubject 0 = .ok (.iload_n 0, 1) := by decide +kernel
theorem dX8_needSubject_1 : decode cX8_needSubject 1 = .ok (.iconst 0, 1) := by decide +kernel
theorem dX8_needSubject_2 : decode cX8_needSubject 2 = .ok (.iconst 1, 1) := by decide +kernel
theorem dX8_needSubject_3 : decode cX8_needSubject 3 = .ok (.invokestatic 86, 3) := by decide +kernel
theorem dX8_needSubject_6 : decode cX8_needSubject 6 = .ok (.return_, 1) := by decide +kernel
theorem dX8_needBench_0 : decode cX8_needBench 0 = .ok (.iload_n 0, 1) := by decide +kernel
theorem dX8_needBench_1 : decode cX8_needBench 1 = .ok (.iconst 0, 1) := by decide +kernel
theorem dX8_needBench_2 : decode cX8_needBench 2 = .ok (.iconst 5, 1) := by decide +kernel
theorem dX8_needBench_3 : decode cX8_needBench 3 = .ok (.invokestatic 86, 3) := by decide +kernel
theorem dX8_needBench_6 : decode cX8_needBench 6 = .ok (.iload_n 1, 1) := by decide +kernel
theorem dX8_needBench_7 : decode cX8_needBench 7 = .ok (.iconst 0, 1) := by decide +kernel
theorem dX8_needBench_8 : decode cX8_needBench 8 = .ok (.iconst 5, 1) := by decide +kernel
theorem dX8_needBench_9 : decode cX8_needBench 9 = .ok (.invokestatic 86, 3) := by decide +kernel
theorem dX8_needBench_12 : decode cX8_needBench 12 = .ok (.return_, 1) := by decide +kernel
theorem dX8_needSwap_0 : decode cX8_needSwap 0 = .ok (.aload_n 0, 1) := by decide +kernel
theorem dX8_needSwap_1 : decode cX8_needSwap 1 = .ok (.iload_n 1, 1) := by decide +kernel
theorem dX8_needSwap_2 : decode cX8_needSwap 2 = .ok (.invokevirtual 200, 3) := by decide +kernel
theorem dX8_needSwap_5 : decode cX8_needSwap 5 = .ok (.aload_n 0, 1) := by decide +kernel
theorem dX8_needSwap_6 : decode cX8_needSwap 6 = .ok (.iload_n 2, 1) := by decide +kernel
theorem dX8_needSwap_7 : decode cX8_needSwap 7 = .ok (.invokevirtual 200, 3) := by decide +kernel
theorem dX8_needSwap_10 : decode cX8_needSwap 10 = .ok (.iload_n 3, 1) := by decide +kernel
theorem dX8_needSwap_11 : decode cX8_needSwap 11 = .ok (.iconst 0, 1) := by decide +kernel
theorem dX8_needSwap_12 : decode cX8_needSwap 12 = .ok (.bipush 20, 2) := by decide +kernel
theorem dX8_needSwap_14 : decode cX8_needSwap 14 = .ok (.invokestatic 86, 3) := by decide +kernel
theorem dX8_needSwap_17 : decode cX8_needSwap 17 = .ok (.iload 4, 2) := by decide +kernel
theorem dX8_needSwap_19 : decode cX8_needSwap 19 = .ok (.iconst 0, 1) := by decide +kernel
theorem dX8_needSwap_20 : decode cX8_needSwap 20 = .ok (.bipush 20, 2) := by decide +kernel
theorem dX8_needSwap_22 : decode cX8_needSwap 22 = .ok (.invokestatic 86, 3) := by decide +kernel
theorem dX8_needSwap_25 : decode cX8_needSwap 25 = .ok (.return_, 1) := by decide +kernel
theorem dX8_needLoan_0 : decode cX8_needLoan 0 = .ok (.aload_n 0, 1) := by decide +kernel
theorem dX8_needLoan_1 : decode cX8_needLoan 1 = .ok (.iload_n 1, 1) := by decide +kernel
theorem dX8_needLoan_2 : decode cX8_needLoan 2 = .ok (.invokevirtual 200, 3) := by decide +kernel
theorem dX8_needLoan_5 : decode cX8_needLoan 5 = .ok (.aload_n 0, 1) := by decide +kernel
theorem dX8_needLoan_6 : decode cX8_needLoan 6 = .ok (.iload_n 2, 1) := by decide +kernel
theorem dX8_needLoan_7 : decode cX8_needLoan 7 = .ok (.invokevirtual 200, 3) := by decide +kernel
theorem dX8_needLoan_10 : decode cX8_needLoan 10 = .ok (.iload_n 3, 1) := by decide +kernel
theorem dX8_needLoan_11 : decode cX8_needLoan 11 = .ok (.invokestatic 260, 3) := by decide +kernel
theorem dX8_needLoan_14 : decode cX8_needLoan 14 = .ok (.iload 4, 2) := by decide +kernel
theorem dX8_needLoan_16 : decode cX8_needLoan 16 = .ok (.iconst 1, 1) := by decide +kernel
theorem dX8_needLoan_17 : decode cX8_needLoan 17 = .ok (.bipush 20, 2) := by decide +kernel
theorem dX8_needLoan_19 : decode cX8_needLoan 19 = .ok (.invokestatic 86, 3) := by decide +kernel
theorem dX8_needLoan_22 : decode cX8_needLoan 22 = .ok (.return_, 1) := by decide +kernel
theorem dX8_lowest_0 : decode cX8_lowest 0 = .ok (.iload_n 1, 1) := by decide +kernel
theorem dX8_lowest_1 : decode cX8_lowest 1 = .ok (.istore_n 2, 1) := by decide +kernel
theorem dX8_lowest_2 : decode cX8_lowest 2 = .ok (.iconst 0, 1) := by decide +kernel
theorem dX8_lowest_3 : decode cX8_lowest 3 = .ok (.istore_n 3, 1) := by decide +kernel
theorem dX8_lowest_4 : decode cX8_lowest 4 = .ok (.iload_n 3, 1) := by decide +kernel
theorem dX8_lowest_5 : decode cX8_lowest 5 = .ok (.bipush 12, 2) := by decide +kernel
theorem dX8_lowest_7 : decode cX8_lowest 7 = .ok (.if_icmp .ge 29, 3) := by decide +kernel
theorem dX8_lowest_10 : decode cX8_lowest 10 = .ok (.iload_n 0, 1) := by decide +kernel
theorem dX8_lowest_11 : decode cX8_lowest 11 = .ok (.iload_n 3, 1) := by decide +kernel
theorem dX8_lowest_12 : decode cX8_lowest 12 = .ok (.ishr, 1) := by decide +kernel
theorem dX8_lowest_13 : decode cX8_lowest 13 = .ok (.iconst 1, 1) := by decide +kernel
theorem dX8_lowest_14 : decode cX8_lowest 14 = .ok (.iand, 1) := by decide +kernel
theorem dX8_lowest_15 : decode cX8_lowest 15 = .ok (.ifCond .ne 6, 3) := by decide +kernel
theorem dX8_lowest_18 : decode cX8_lowest 18 = .ok (.goto 12, 3) := by decide +kernel
theorem dX8_lowest_21 : decode cX8_lowest 21 = .ok (.iload_n 2, 1) := by decide +kernel
theorem dX8_lowest_22 : decode cX8_lowest 22 = .ok (.ifCond .ne 5, 3) := by decide +kernel
theorem dX8_lowest_25 : decode cX8_lowest 25 = .ok (.iload_n 3, 1) := by decide +kernel
theorem dX8_lowest_26 : decode cX8_lowest 26 = .ok (.ireturn, 1) := by decide +kernel
theorem dX8_lowest_27 : decode cX8_lowest 27 = .ok (.iinc 2 (-1), 3) := by decide +kernel
theorem dX8_lowest_30 : decode cX8_lowest 30 = .ok (.iinc 3 1, 3) := by decide +kernel
theorem dX8_lowest_33 : decode cX8_lowest 33 = .ok (.goto (-29), 3) := by decide +kernel
theorem dX8_lowest_36 : decode cX8_lowest 36 = .ok (.iconst (-1), 1) := by decide +kernel
theorem dX8_lowest_37 : decode cX8_lowest 37 = .ok (.ireturn, 1) := by decide +kernel
