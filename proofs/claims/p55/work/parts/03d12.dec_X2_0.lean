theorem dX2_init_0 : decode cX2_init 0 = .ok (.aload_n 0, 1) := by decide +kernel
theorem dX2_init_1 : decode cX2_init 1 = .ok (.invokespecial 3, 3) := by decide +kernel
theorem dX2_init_4 : decode cX2_init 4 = .ok (.aload_n 0, 1) := by decide +kernel
theorem dX2_init_5 : decode cX2_init 5 = .ok (.bipush 20, 2) := by decide +kernel
theorem dX2_init_7 : decode cX2_init 7 = .ok (.newarray .int, 2) := by decide +kernel
theorem dX2_init_9 : decode cX2_init 9 = .ok (.putfield 9, 3) := by decide +kernel
theorem dX2_init_12 : decode cX2_init 12 = .ok (.return_, 1) := by decide +kernel
theorem dX2_copyFrom_0 : decode cX2_copyFrom 0 = .ok (.aload_n 1, 1) := by decide +kernel
theorem dX2_copyFrom_1 : decode cX2_copyFrom 1 = .ok (.getfield 9, 3) := by decide +kernel
theorem dX2_copyFrom_4 : decode cX2_copyFrom 4 = .ok (.iconst 0, 1) := by decide +kernel
theorem dX2_copyFrom_5 : decode cX2_copyFrom 5 = .ok (.aload_n 0, 1) := by decide +kernel
theorem dX2_copyFrom_6 : decode cX2_copyFrom 6 = .ok (.getfield 9, 3) := by decide +kernel
theorem dX2_copyFrom_9 : decode cX2_copyFrom 9 = .ok (.iconst 0, 1) := by decide +kernel
theorem dX2_copyFrom_10 : decode cX2_copyFrom 10 = .ok (.bipush 20, 2) := by decide +kernel
theorem dX2_copyFrom_12 : decode cX2_copyFrom 12 = .ok (.invokestatic 15, 3) := by decide +kernel
theorem dX2_copyFrom_15 : decode cX2_copyFrom 15 = .ok (.aload_n 0, 1) := by decide +kernel
theorem dX2_copyFrom_16 : decode cX2_copyFrom 16 = .ok (.aload_n 1, 1) := by decide +kernel
theorem dX2_copyFrom_17 : decode cX2_copyFrom 17 = .ok (.getfield 21, 3) := by decide +kernel
theorem dX2_copyFrom_20 : decode cX2_copyFrom 20 = .ok (.putfield 21, 3) := by decide +kernel
theorem dX2_copyFrom_23 : decode cX2_copyFrom 23 = .ok (.return_, 1) := by decide +kernel
theorem dX2_hasRoomFor_0 : decode cX2_hasRoomFor 0 = .ok (.iload_n 1, 1) := by decide +kernel
theorem dX2_hasRoomFor_1 : decode cX2_hasRoomFor 1 = .ok (.bipush 20, 2) := by decide +kernel
theorem dX2_hasRoomFor_3 : decode cX2_hasRoomFor 3 = .ok (.aload_n 0, 1) := by decide +kernel
theorem dX2_hasRoomFor_4 : decode cX2_hasRoomFor 4 = .ok (.getfield 21, 3) := by decide +kernel
theorem dX2_hasRoomFor_7 : decode cX2_hasRoomFor 7 = .ok (.isub, 1) := by decide +kernel
theorem dX2_hasRoomFor_8 : decode cX2_hasRoomFor 8 = .ok (.if_icmp .gt 7, 3) := by decide +kernel
theorem dX2_hasRoomFor_11 : decode cX2_hasRoomFor 11 = .ok (.iconst 1, 1) := by decide +kernel
theorem dX2_hasRoomFor_12 : decode cX2_hasRoomFor 12 = .ok (.goto 4, 3) := by decide +kernel
theorem dX2_hasRoomFor_15 : decode cX2_hasRoomFor 15 = .ok (.iconst 0, 1) := by decide +kernel
theorem dX2_hasRoomFor_16 : decode cX2_hasRoomFor 16 = .ok (.ireturn, 1) := by decide +kernel
theorem dX2_makerAt_0 : decode cX2_makerAt 0 = .ok (.iload_n 1, 1) := by decide +kernel
theorem dX2_makerAt_1 : decode cX2_makerAt 1 = .ok (.ifCond .lt 20, 3) := by decide +kernel
theorem dX2_makerAt_4 : decode cX2_makerAt 4 = .ok (.iload_n 1, 1) := by decide +kernel
theorem dX2_makerAt_5 : decode cX2_makerAt 5 = .ok (.aload_n 0, 1) := by decide +kernel
theorem dX2_makerAt_6 : decode cX2_makerAt 6 = .ok (.getfield 21, 3) := by decide +kernel
theorem dX2_makerAt_9 : decode cX2_makerAt 9 = .ok (.if_icmp .ge 12, 3) := by decide +kernel
theorem dX2_makerAt_12 : decode cX2_makerAt 12 = .ok (.aload_n 0, 1) := by decide +kernel
theorem dX2_makerAt_13 : decode cX2_makerAt 13 = .ok (.getfield 9, 3) := by decide +kernel
theorem dX2_makerAt_16 : decode cX2_makerAt 16 = .ok (.iload_n 1, 1) := by decide +kernel
theorem dX2_makerAt_17 : decode cX2_makerAt 17 = .ok (.iaload, 1) := by decide +kernel
theorem dX2_makerAt_18 : decode cX2_makerAt 18 = .ok (.goto 4, 3) := by decide +kernel
theorem dX2_makerAt_21 : decode cX2_makerAt 21 = .ok (.iconst (-1), 1) := by decide +kernel
theorem dX2_makerAt_22 : decode cX2_makerAt 22 = .ok (.ireturn, 1) := by decide +kernel
theorem dX2_put_0 : decode cX2_put 0 = .ok (.iconst 0, 1) := by decide +kernel
theorem dX2_put_1 : decode cX2_put 1 = .ok (.istore_n 3, 1) := by decide +kernel
theorem dX2_put_2 : decode cX2_put 2 = .ok (.iload_n 3, 1) := by decide +kernel
theorem dX2_put_3 : decode cX2_put 3 = .ok (.iload_n 2, 1) := by decide +kernel
theorem dX2_put_4 : decode cX2_put 4 = .ok (.if_icmp .ge 38, 3) := by decide +kernel
theorem dX2_put_7 : decode cX2_put 7 = .ok (.aload_n 0, 1) := by decide +kernel
theorem dX2_put_8 : decode cX2_put 8 = .ok (.getfield 21, 3) := by decide +kernel
theorem dX2_put_11 : decode cX2_put 11 = .ok (.bipush 20, 2) := by decide +kernel
theorem dX2_put_13 : decode cX2_put 13 = .ok (.if_icmp .ge 29, 3) := by decide +kernel
theorem dX2_put_16 : decode cX2_put 16 = .ok (.aload_n 0, 1) := by decide +kernel
theorem dX2_put_17 : decode cX2_put 17 = .ok (.getfield 9, 3) := by decide +kernel
theorem dX2_put_20 : decode cX2_put 20 = .ok (.aload_n 0, 1) := by decide +kernel
theorem dX2_put_21 : decode cX2_put 21 = .ok (.getfield 21, 3) := by decide +kernel
theorem dX2_put_24 : decode cX2_put 24 = .ok (.iload_n 1, 1) := by decide +kernel
theorem dX2_put_25 : decode cX2_put 25 = .ok (.iastore, 1) := by decide +kernel
theorem dX2_put_26 : decode cX2_put 26 = .ok (.aload_n 0, 1) := by decide +kernel
theorem dX2_put_27 : decode cX2_put 27 = .ok (.dup, 1) := by decide +kernel
theorem dX2_put_28 : decode cX2_put 28 = .ok (.getfield 21, 3) := by decide +kernel
theorem dX2_put_31 : decode cX2_put 31 = .ok (.iconst 1, 1) := by decide +kernel
theorem dX2_put_32 : decode cX2_put 32 = .ok (.iadd, 1) := by decide +kernel
theorem dX2_put_33 : decode cX2_put 33 = .ok (.putfield 21, 3) := by decide +kernel
theorem dX2_put_36 : decode cX2_put 36 = .ok (.iinc 3 1, 3) := by decide +kernel
theorem dX2_put_39 : decode cX2_put 39 = .ok (.goto (-37), 3) := by decide +kernel
theorem dX2_put_42 : decode cX2_put 42 = .ok (.return_, 1) := by decide +kernel
theorem dX2_giveEldest_0 : decode cX2_giveEldest 0 = .ok (.iconst 0, 1) := by decide +kernel
theorem dX2_giveEldest_1 : decode cX2_giveEldest 1 = .ok (.istore_n 3, 1) := by decide +kernel
theorem dX2_giveEldest_2 : decode cX2_giveEldest 2 = .ok (.iload_n 3, 1) := by decide +kernel
theorem dX2_giveEldest_3 : decode cX2_giveEldest 3 = .ok (.iload_n 2, 1) := by decide +kernel
theorem dX2_giveEldest_4 : decode cX2_giveEldest 4 = .ok (.if_icmp .ge 28, 3) := by decide +kernel
theorem dX2_giveEldest_7 : decode cX2_giveEldest 7 = .ok (.iload_n 3, 1) := by decide +kernel
theorem dX2_giveEldest_8 : decode cX2_giveEldest 8 = .ok (.aload_n 0, 1) := by decide +kernel
theorem dX2_giveEldest_9 : decode cX2_giveEldest 9 = .ok (.getfield 21, 3) := by decide +kernel
theorem dX2_giveEldest_12 : decode cX2_giveEldest 12 = .ok (.if_icmp .ge 20, 3) := by decide +kernel
theorem dX2_giveEldest_15 : decode cX2_giveEldest 15 = .ok (.aload_n 1, 1) := by decide +kernel
theorem dX2_giveEldest_16 : decode cX2_giveEldest 16 = .ok (.aload_n 0, 1) := by decide +kernel
theorem dX2_giveEldest_17 : decode cX2_giveEldest 17 = .ok (.getfield 9, 3) := by decide +kernel
theorem dX2_giveEldest_20 : decode cX2_giveEldest 20 = .ok (.iload_n 3, 1) := by decide +kernel
theorem dX2_giveEldest_21 : decode cX2_giveEldest 21 = .ok (.iaload, 1) := by decide +kernel
theorem dX2_giveEldest_22 : decode cX2_giveEldest 22 = .ok (.iconst 1, 1) := by decide +kernel
theorem dX2_giveEldest_23 : decode cX2_giveEldest 23 = .ok (.invokevirtual 25, 3) := by decide +kernel
theorem dX2_giveEldest_26 : decode cX2_giveEldest 26 = .ok (.iinc 3 1, 3) := by decide +kernel
theorem dX2_giveEldest_29 : decode cX2_giveEldest 29 = .ok (.goto (-27), 3) := by decide +kernel
theorem dX2_giveEldest_32 : decode cX2_giveEldest 32 = .ok (.aload_n 0, 1) := by decide +kernel
theorem dX2_giveEldest_33 : decode cX2_giveEldest 33 = .ok (.iload_n 2, 1) := by decide +kernel
theorem dX2_giveEldest_34 : decode cX2_giveEldest 34 = .ok (.invokevirtual 29, 3) := by decide +kernel
theorem dX2_giveEldest_37 : decode cX2_giveEldest 37 = .ok (.return_, 1) := by decide +kernel
theorem dX2_dropEldest_0 : decode cX2_dropEldest 0 = .ok (.iload_n 1, 1) := by decide +kernel
theorem dX2_dropEldest_1 : decode cX2_dropEldest 1 = .ok (.ifCond .lt 11, 3) := by decide +kernel
theorem dX2_dropEldest_4 : decode cX2_dropEldest 4 = .ok (.iload_n 1, 1) := by decide +kernel
theorem dX2_dropEldest_5 : decode cX2_dropEldest 5 = .ok (.aload_n 0, 1) := by decide +kernel
theorem dX2_dropEldest_6 : decode cX2_dropEldest 6 = .ok (.getfield 21, 3) := by decide +kernel
theorem dX2_dropEldest_9 : decode cX2_dropEldest 9 = .ok (.if_icmp .le 4, 3) := by decide +kernel
theorem dX2_dropEldest_12 : decode cX2_dropEldest 12 = .ok (.return_, 1) := by decide +kernel
theorem dX2_dropEldest_13 : decode cX2_dropEldest 13 = .ok (.aload_n 0, 1) := by decide +kernel
theorem dX2_dropEldest_14 : decode cX2_dropEldest 14 = .ok (.getfield 9, 3) := by decide +kernel
theorem dX2_dropEldest_17 : decode cX2_dropEldest 17 = .ok (.iload_n 1, 1) := by decide +kernel
theorem dX2_dropEldest_18 : decode cX2_dropEldest 18 = .ok (.aload_n 0, 1) := by decide +kernel
theorem dX2_dropEldest_19 : decode cX2_dropEldest 19 = .ok (.getfield 9, 3) := by decide +kernel
theorem dX2_dropEldest_22 : decode cX2_dropEldest 22 = .ok (.iconst 0, 1) := by decide +kernel
theorem dX2_dropEldest_23 : decode cX2_dropEldest 23 = .ok (.aload_n 0, 1) := by decide +kernel
theorem dX2_dropEldest_24 : decode cX2_dropEldest 24 = .ok (.getfield 21, 3) := by decide +kernel
theorem dX2_dropEldest_27 : decode cX2_dropEldest 27 = .ok (.iload_n 1, 1) := by decide +kernel
theorem dX2_dropEldest_28 : decode cX2_dropEldest 28 = .ok (.isub, 1) := by decide +kernel
theorem dX2_dropEldest_29 : decode cX2_dropEldest 29 = .ok (.invokestatic 15, 3) := by decide +kernel
theorem dX2_dropEldest_32 : decode cX2_dropEldest 32 = .ok (.aload_n 0, 1) := by decide +kernel
theorem dX2_dropEldest_33 : decode cX2_dropEldest 33 = .ok (.dup, 1) := by decide +kernel
theorem dX2_dropEldest_34 : decode cX2_dropEldest 34 = .ok (.getfield 21, 3) := by decide +kernel
theorem dX2_dropEldest_37 : decode cX2_dropEldest 37 = .ok (.iload_n 1, 1) := by decide +kernel
theorem dX2_dropEldest_38 : decode cX2_dropEldest 38 = .ok (.isub, 1) := by decide +kernel
theorem dX2_dropEldest_39 : decode cX2_dropEldest 39 = .ok (.putfield 21, 3) := by decide +kernel
theorem dX2_dropEldest_42 : decode cX2_dropEldest 42 = .ok (.return_, 1) := by decide +kernel
theorem dX2_piecesBy_0 : decode cX2_piecesBy 0 = .ok (.iconst 0, 1) := by decide +kernel
theorem dX2_piecesBy_1 : decode cX2_piecesBy 1 = .ok (.istore_n 2, 1) := by decide +kernel
theorem dX2_piecesBy_2 : decode cX2_piecesBy 2 = .ok (.iconst 0, 1) := by decide +kernel
theorem dX2_piecesBy_3 : decode cX2_piecesBy 3 = .ok (.istore_n 3, 1) := by decide +kernel
theorem dX2_piecesBy_4 : decode cX2_piecesBy 4 = .ok (.iload_n 3, 1) := by decide +kernel
theorem dX2_piecesBy_5 : decode cX2_piecesBy 5 = .ok (.aload_n 0, 1) := by decide +kernel
theorem dX2_piecesBy_6 : decode cX2_piecesBy 6 = .ok (.getfield 21, 3) := by decide +kernel
theorem dX2_piecesBy_9 : decode cX2_piecesBy 9 = .ok (.if_icmp .ge 22, 3) := by decide +kernel
theorem dX2_piecesBy_12 : decode cX2_piecesBy 12 = .ok (.aload_n 0, 1) := by decide +kernel
theorem dX2_piecesBy_13 : decode cX2_piecesBy 13 = .ok (.getfield 9, 3) := by decide +kernel
theorem dX2_piecesBy_16 : decode cX2_piecesBy 16 = .ok (.iload_n 3, 1) := by decide +kernel
theorem dX2_piecesBy_17 : decode cX2_piecesBy 17 = .ok (.iaload, 1) := by decide +kernel
theorem dX2_piecesBy_18 : decode cX2_piecesBy 18 = .ok (.iload_n 1, 1) := by decide +kernel
theorem dX2_piecesBy_19 : decode cX2_piecesBy 19 = .ok (.if_icmp .ne 6, 3) := by decide +kernel
theorem dX2_piecesBy_22 : decode cX2_piecesBy 22 = .ok (.iinc 2 1, 3) := by decide +kernel
theorem dX2_piecesBy_25 : decode cX2_piecesBy 25 = .ok (.iinc 3 1, 3) := by decide +kernel
theorem dX2_piecesBy_28 : decode cX2_piecesBy 28 = .ok (.goto (-24), 3) := by decide +kernel
theorem dX2_piecesBy_31 : decode cX2_piecesBy 31 = .ok (.iload_n 2, 1) := by decide +kernel
theorem dX2_piecesBy_32 : decode cX2_piecesBy 32 = .ok (.ireturn, 1) := by decide +kernel
theorem dX2_differentMakers_0 : decode cX2_differentMakers 0 = .ok (.aload_n 0, 1) := by decide +kernel
theorem dX2_differentMakers_1 : decode cX2_differentMakers 1 = .ok (.aload_n 0, 1) := by decide +kernel
theorem dX2_differentMakers_2 : decode cX2_differentMakers 2 = .ok (.getfield 21, 3) := by decide +kernel
theorem dX2_differentMakers_5 : decode cX2_differentMakers 5 = .ok (.iconst (-1), 1) := by decide +kernel
theorem dX2_differentMakers_6 : decode cX2_differentMakers 6 = .ok (.invokevirtual 33, 3) := by decide +kernel
theorem dX2_differentMakers_9 : decode cX2_differentMakers 9 = .ok (.invokestatic 37, 3) := by decide +kernel
theorem dX2_differentMakers_12 : decode cX2_differentMakers 12 = .ok (.ireturn, 1) := by decide +kernel
theorem dX2_foreignPieces_0 : decode cX2_foreignPieces 0 = .ok (.iconst 0, 1) := by decide +kernel
theorem dX2_foreignPieces_1 : decode cX2_foreignPieces 1 = .ok (.istore_n 3, 1) := by decide +kernel
theorem dX2_foreignPieces_2 : decode cX2_foreignPieces 2 = .ok (.iconst 0, 1) := by decide +kernel
theorem dX2_foreignPieces_3 : decode cX2_foreignPieces 3 = .ok (.istore 4, 2) := by decide +kernel
theorem dX2_foreignPieces_5 : decode cX2_foreignPieces 5 = .ok (.iload 4, 2) := by decide +kernel
theorem dX2_foreignPieces_7 : decode cX2_foreignPieces 7 = .ok (.iload_n 1, 1) := by decide +kernel
theorem dX2_foreignPieces_8 : decode cX2_foreignPieces 8 = .ok (.if_icmp .ge 32, 3) := by decide +kernel
theorem dX2_foreignPieces_11 : decode cX2_foreignPieces 11 = .ok (.iload 4, 2) := by decide +kernel
theorem dX2_foreignPieces_13 : decode cX2_foreignPieces 13 = .ok (.aload_n 0, 1) := by decide +kernel
theorem dX2_foreignPieces_14 : decode cX2_foreignPieces 14 = .ok (.getfield 21, 3) := by decide +kernel
theorem dX2_foreignPieces_17 : decode cX2_foreignPieces 17 = .ok (.if_icmp .ge 23, 3) := by decide +kernel
theorem dX2_foreignPieces_20 : decode cX2_foreignPieces 20 = .ok (.aload_n 0, 1) := by decide +kernel
theorem dX2_foreignPieces_21 : decode cX2_foreignPieces 21 = .ok (.getfield 9, 3) := by decide +kernel
theorem dX2_foreignPieces_24 : decode cX2_foreignPieces 24 = .ok (.iload 4, 2) := by decide +kernel
theorem dX2_foreignPieces_26 : decode cX2_foreignPieces 26 = .ok (.iaload, 1) := by decide +kernel
theorem dX2_foreignPieces_27 : decode cX2_foreignPieces 27 = .ok (.iload_n 2, 1) := by decide +kernel
theorem dX2_foreignPieces_28 : decode cX2_foreignPieces 28 = .ok (.if_icmp .eq 6, 3) := by decide +kernel
theorem dX2_foreignPieces_31 : decode cX2_foreignPieces 31 = .ok (.iinc 3 1, 3) := by decide +kernel
theorem dX2_foreignPieces_34 : decode cX2_foreignPieces 34 = .ok (.iinc 4 1, 3) := by decide +kernel
theorem dX2_foreignPieces_37 : decode cX2_foreignPieces 37 = .ok (.goto (-32), 3) := by decide +kernel
theorem dX2_foreignPieces_40 : decode cX2_foreignPieces 40 = .ok (.iload_n 3, 1) := by decide +kernel
theorem dX2_foreignPieces_41 : decode cX2_foreignPieces 41 = .ok (.ireturn, 1) := by decide +kernel
theorem dX2_makersButOne_0 : decode cX2_makersButOne 0 = .ok (.iconst 0, 1) := by decide +kernel
theorem dX2_makersButOne_1 : decode cX2_makersButOne 1 = .ok (.istore_n 3, 1) := by decide +kernel
theorem dX2_makersButOne_2 : decode cX2_makersButOne 2 = .ok (.iconst 0, 1) := by decide +kernel
theorem dX2_makersButOne_3 : decode cX2_makersButOne 3 = .ok (.istore 4, 2) := by decide +kernel
theorem dX2_makersButOne_5 : decode cX2_makersButOne 5 = .ok (.iload 4, 2) := by decide +kernel
theorem dX2_makersButOne_7 : decode cX2_makersButOne 7 = .ok (.iload_n 1, 1) := by decide +kernel
theorem dX2_makersButOne_8 : decode cX2_makersButOne 8 = .ok (.if_icmp .ge 41, 3) := by decide +kernel
theorem dX2_makersButOne_11 : decode cX2_makersButOne 11 = .ok (.iload 4, 2) := by decide +kernel
theorem dX2_makersButOne_13 : decode cX2_makersButOne 13 = .ok (.aload_n 0, 1) := by decide +kernel
theorem dX2_makersButOne_14 : decode cX2_makersButOne 14 = .ok (.getfield 21, 3) := by decide +kernel
theorem dX2_makersButOne_17 : decode cX2_makersButOne 17 = .ok (.if_icmp .ge 32, 3) := by decide +kernel
theorem dX2_makersButOne_20 : decode cX2_makersButOne 20 = .ok (.aload_n 0, 1) := by decide +kernel
theorem dX2_makersButOne_21 : decode cX2_makersButOne 21 = .ok (.getfield 9, 3) := by decide +kernel
theorem dX2_makersButOne_24 : decode cX2_makersButOne 24 = .ok (.iload 4, 2) := by decide +kernel
theorem dX2_makersButOne_26 : decode cX2_makersButOne 26 = .ok (.iaload, 1) := by decide +kernel
theorem dX2_makersButOne_27 : decode cX2_makersButOne 27 = .ok (.iload_n 2, 1) := by decide +kernel
theorem dX2_makersButOne_28 : decode cX2_makersButOne 28 = .ok (.if_icmp .eq 15, 3) := by decide +kernel
theorem dX2_makersButOne_31 : decode cX2_makersButOne 31 = .ok (.iload_n 3, 1) := by decide +kernel
theorem dX2_makersButOne_32 : decode cX2_makersButOne 32 = .ok (.iconst 1, 1) := by decide +kernel
theorem dX2_makersButOne_33 : decode cX2_makersButOne 33 = .ok (.aload_n 0, 1) := by decide +kernel
theorem dX2_makersButOne_34 : decode cX2_makersButOne 34 = .ok (.getfield 9, 3) := by decide +kernel
theorem dX2_makersButOne_37 : decode cX2_makersButOne 37 = .ok (.iload 4, 2) := by decide +kernel
theorem dX2_makersButOne_39 : decode cX2_makersButOne 39 = .ok (.iaload, 1) := by decide +kernel
theorem dX2_makersButOne_40 : decode cX2_makersButOne 40 = .ok (.ishl, 1) := by decide +kernel
theorem dX2_makersButOne_41 : decode cX2_makersButOne 41 = .ok (.ior, 1) := by decide +kernel
theorem dX2_makersButOne_42 : decode cX2_makersButOne 42 = .ok (.istore_n 3, 1) := by decide +kernel
theorem dX2_makersButOne_43 : decode cX2_makersButOne 43 = .ok (.iinc 4 1, 3) := by decide +kernel
theorem dX2_makersButOne_46 : decode cX2_makersButOne 46 = .ok (.goto (-41), 3) := by decide +kernel
theorem dX2_makersButOne_49 : decode cX2_makersButOne 49 = .ok (.iload_n 3, 1) := by decide +kernel
theorem dX2_makersButOne_50 : decode cX2_makersButOne 50 = .ok (.ireturn, 1) := by decide +kernel
