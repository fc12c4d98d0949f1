theorem dX1_countRows_34 : decode cX1_countRows 34 = .ok (.goto (-26), 3) := by decide +kernel
theorem dX1_countRows_37 : decode cX1_countRows 37 = .ok (.iload_n 1, 1) := by decide +kernel
theorem dX1_countRows_38 : decode cX1_countRows 38 = .ok (.ireturn, 1) := by decide +kernel
theorem dX1_leastMisfit_0 : decode cX1_leastMisfit 0 = .ok (.aload_n 0, 1) := by decide +kernel
theorem dX1_leastMisfit_1 : decode cX1_leastMisfit 1 = .ok (.invokevirtual 38, 3) := by decide +kernel
theorem dX1_leastMisfit_4 : decode cX1_leastMisfit 4 = .ok (.istore_n 1, 1) := by decide +kernel
theorem dX1_leastMisfit_5 : decode cX1_leastMisfit 5 = .ok (.iload_n 1, 1) := by decide +kernel
theorem dX1_leastMisfit_6 : decode cX1_leastMisfit 6 = .ok (.bipush (-9), 2) := by decide +kernel
theorem dX1_leastMisfit_8 : decode cX1_leastMisfit 8 = .ok (.if_icmp .ne 8, 3) := by decide +kernel
theorem dX1_leastMisfit_11 : decode cX1_leastMisfit 11 = .ok (.bipush (-9), 2) := by decide +kernel
theorem dX1_leastMisfit_13 : decode cX1_leastMisfit 13 = .ok (.goto 15, 3) := by decide +kernel
theorem dX1_leastMisfit_16 : decode cX1_leastMisfit 16 = .ok (.aload_n 0, 1) := by decide +kernel
theorem dX1_leastMisfit_17 : decode cX1_leastMisfit 17 = .ok (.getfield 28, 3) := by decide +kernel
theorem dX1_leastMisfit_20 : decode cX1_leastMisfit 20 = .ok (.iconst 1, 1) := by decide +kernel
theorem dX1_leastMisfit_21 : decode cX1_leastMisfit 21 = .ok (.iload_n 1, 1) := by decide +kernel
theorem dX1_leastMisfit_22 : decode cX1_leastMisfit 22 = .ok (.ishl, 1) := by decide +kernel
theorem dX1_leastMisfit_23 : decode cX1_leastMisfit 23 = .ok (.iload_n 1, 1) := by decide +kernel
theorem dX1_leastMisfit_24 : decode cX1_leastMisfit 24 = .ok (.invokestatic 34, 3) := by decide +kernel
theorem dX1_leastMisfit_27 : decode cX1_leastMisfit 27 = .ok (.iaload, 1) := by decide +kernel
theorem dX1_leastMisfit_28 : decode cX1_leastMisfit 28 = .ok (.ireturn, 1) := by decide +kernel
theorem dX1_pieceAt_0 : decode cX1_pieceAt 0 = .ok (.aload_n 0, 1) := by decide +kernel
theorem dX1_pieceAt_1 : decode cX1_pieceAt 1 = .ok (.invokevirtual 38, 3) := by decide +kernel
theorem dX1_pieceAt_4 : decode cX1_pieceAt 4 = .ok (.istore_n 2, 1) := by decide +kernel
theorem dX1_pieceAt_5 : decode cX1_pieceAt 5 = .ok (.iload_n 2, 1) := by decide +kernel
theorem dX1_pieceAt_6 : decode cX1_pieceAt 6 = .ok (.bipush (-9), 2) := by decide +kernel
theorem dX1_pieceAt_8 : decode cX1_pieceAt 8 = .ok (.if_icmp .eq 15, 3) := by decide +kernel
theorem dX1_pieceAt_11 : decode cX1_pieceAt 11 = .ok (.iload_n 1, 1) := by decide +kernel
theorem dX1_pieceAt_12 : decode cX1_pieceAt 12 = .ok (.ifCond .lt 11, 3) := by decide +kernel
theorem dX1_pieceAt_15 : decode cX1_pieceAt 15 = .ok (.iload_n 1, 1) := by decide +kernel
theorem dX1_pieceAt_16 : decode cX1_pieceAt 16 = .ok (.aload_n 0, 1) := by decide +kernel
theorem dX1_pieceAt_17 : decode cX1_pieceAt 17 = .ok (.getfield 15, 3) := by decide +kernel
theorem dX1_pieceAt_20 : decode cX1_pieceAt 20 = .ok (.if_icmp .lt 6, 3) := by decide +kernel
theorem dX1_pieceAt_23 : decode cX1_pieceAt 23 = .ok (.bipush (-9), 2) := by decide +kernel
theorem dX1_pieceAt_25 : decode cX1_pieceAt 25 = .ok (.ireturn, 1) := by decide +kernel
theorem dX1_pieceAt_26 : decode cX1_pieceAt 26 = .ok (.iconst 0, 1) := by decide +kernel
theorem dX1_pieceAt_27 : decode cX1_pieceAt 27 = .ok (.istore_n 3, 1) := by decide +kernel
theorem dX1_pieceAt_28 : decode cX1_pieceAt 28 = .ok (.iconst 0, 1) := by decide +kernel
theorem dX1_pieceAt_29 : decode cX1_pieceAt 29 = .ok (.istore 4, 2) := by decide +kernel
theorem dX1_pieceAt_31 : decode cX1_pieceAt 31 = .ok (.iload 4, 2) := by decide +kernel
theorem dX1_pieceAt_33 : decode cX1_pieceAt 33 = .ok (.iload_n 1, 1) := by decide +kernel
theorem dX1_pieceAt_34 : decode cX1_pieceAt 34 = .ok (.if_icmp .ge 28, 3) := by decide +kernel
theorem dX1_pieceAt_37 : decode cX1_pieceAt 37 = .ok (.iload_n 2, 1) := by decide +kernel
theorem dX1_pieceAt_38 : decode cX1_pieceAt 38 = .ok (.bipush (-9), 2) := by decide +kernel
theorem dX1_pieceAt_40 : decode cX1_pieceAt 40 = .ok (.if_icmp .eq 22, 3) := by decide +kernel
theorem dX1_pieceAt_43 : decode cX1_pieceAt 43 = .ok (.iload_n 3, 1) := by decide +kernel
theorem dX1_pieceAt_44 : decode cX1_pieceAt 44 = .ok (.iconst 1, 1) := by decide +kernel
theorem dX1_pieceAt_45 : decode cX1_pieceAt 45 = .ok (.iload_n 2, 1) := by decide +kernel
theorem dX1_pieceAt_46 : decode cX1_pieceAt 46 = .ok (.ishl, 1) := by decide +kernel
theorem dX1_pieceAt_47 : decode cX1_pieceAt 47 = .ok (.ior, 1) := by decide +kernel
theorem dX1_pieceAt_48 : decode cX1_pieceAt 48 = .ok (.istore_n 3, 1) := by decide +kernel
theorem dX1_pieceAt_49 : decode cX1_pieceAt 49 = .ok (.aload_n 0, 1) := by decide +kernel
theorem dX1_pieceAt_50 : decode cX1_pieceAt 50 = .ok (.iload_n 3, 1) := by decide +kernel
theorem dX1_pieceAt_51 : decode cX1_pieceAt 51 = .ok (.iload_n 2, 1) := by decide +kernel
theorem dX1_pieceAt_52 : decode cX1_pieceAt 52 = .ok (.invokevirtual 42, 3) := by decide +kernel
theorem dX1_pieceAt_55 : decode cX1_pieceAt 55 = .ok (.istore_n 2, 1) := by decide +kernel
theorem dX1_pieceAt_56 : decode cX1_pieceAt 56 = .ok (.iinc 4 1, 3) := by decide +kernel
theorem dX1_pieceAt_59 : decode cX1_pieceAt 59 = .ok (.goto (-28), 3) := by decide +kernel
theorem dX1_pieceAt_62 : decode cX1_pieceAt 62 = .ok (.iload_n 2, 1) := by decide +kernel
theorem dX1_pieceAt_63 : decode cX1_pieceAt 63 = .ok (.ireturn, 1) := by decide +kernel
theorem dX1_firstPiece_0 : decode cX1_firstPiece 0 = .ok (.aload_n 0, 1) := by decide +kernel
theorem dX1_firstPiece_1 : decode cX1_firstPiece 1 = .ok (.invokevirtual 31, 3) := by decide +kernel
theorem dX1_firstPiece_4 : decode cX1_firstPiece 4 = .ok (.bipush (-9), 2) := by decide +kernel
theorem dX1_firstPiece_6 : decode cX1_firstPiece 6 = .ok (.istore_n 1, 1) := by decide +kernel
theorem dX1_firstPiece_7 : decode cX1_firstPiece 7 = .ok (.bipush (-9), 2) := by decide +kernel
theorem dX1_firstPiece_9 : decode cX1_firstPiece 9 = .ok (.istore_n 2, 1) := by decide +kernel
theorem dX1_firstPiece_10 : decode cX1_firstPiece 10 = .ok (.iconst 0, 1) := by decide +kernel
theorem dX1_firstPiece_11 : decode cX1_firstPiece 11 = .ok (.istore_n 3, 1) := by decide +kernel
theorem dX1_firstPiece_12 : decode cX1_firstPiece 12 = .ok (.iload_n 3, 1) := by decide +kernel
theorem dX1_firstPiece_13 : decode cX1_firstPiece 13 = .ok (.aload_n 0, 1) := by decide +kernel
theorem dX1_firstPiece_14 : decode cX1_firstPiece 14 = .ok (.getfield 15, 3) := by decide +kernel
theorem dX1_firstPiece_17 : decode cX1_firstPiece 17 = .ok (.if_icmp .ge 47, 3) := by decide +kernel
theorem dX1_firstPiece_20 : decode cX1_firstPiece 20 = .ok (.aload_n 0, 1) := by decide +kernel
theorem dX1_firstPiece_21 : decode cX1_firstPiece 21 = .ok (.getfield 28, 3) := by decide +kernel
theorem dX1_firstPiece_24 : decode cX1_firstPiece 24 = .ok (.iconst 1, 1) := by decide +kernel
theorem dX1_firstPiece_25 : decode cX1_firstPiece 25 = .ok (.iload_n 3, 1) := by decide +kernel
theorem dX1_firstPiece_26 : decode cX1_firstPiece 26 = .ok (.ishl, 1) := by decide +kernel
theorem dX1_firstPiece_27 : decode cX1_firstPiece 27 = .ok (.iload_n 3, 1) := by decide +kernel
theorem dX1_firstPiece_28 : decode cX1_firstPiece 28 = .ok (.invokestatic 34, 3) := by decide +kernel
theorem dX1_firstPiece_31 : decode cX1_firstPiece 31 = .ok (.iaload, 1) := by decide +kernel
theorem dX1_firstPiece_32 : decode cX1_firstPiece 32 = .ok (.istore 4, 2) := by decide +kernel
theorem dX1_firstPiece_34 : decode cX1_firstPiece 34 = .ok (.iload 4, 2) := by decide +kernel
theorem dX1_firstPiece_36 : decode cX1_firstPiece 36 = .ok (.bipush (-9), 2) := by decide +kernel
theorem dX1_firstPiece_38 : decode cX1_firstPiece 38 = .ok (.if_icmp .eq 20, 3) := by decide +kernel
theorem dX1_firstPiece_41 : decode cX1_firstPiece 41 = .ok (.iload_n 1, 1) := by decide +kernel
theorem dX1_firstPiece_42 : decode cX1_firstPiece 42 = .ok (.bipush (-9), 2) := by decide +kernel
theorem dX1_firstPiece_44 : decode cX1_firstPiece 44 = .ok (.if_icmp .eq 9, 3) := by decide +kernel
theorem dX1_firstPiece_47 : decode cX1_firstPiece 47 = .ok (.iload 4, 2) := by decide +kernel
theorem dX1_firstPiece_49 : decode cX1_firstPiece 49 = .ok (.iload_n 2, 1) := by decide +kernel
theorem dX1_firstPiece_50 : decode cX1_firstPiece 50 = .ok (.if_icmp .ge 8, 3) := by decide +kernel
theorem dX1_firstPiece_53 : decode cX1_firstPiece 53 = .ok (.iload_n 3, 1) := by decide +kernel
theorem dX1_firstPiece_54 : decode cX1_firstPiece 54 = .ok (.istore_n 1, 1) := by decide +kernel
theorem dX1_firstPiece_55 : decode cX1_firstPiece 55 = .ok (.iload 4, 2) := by decide +kernel
theorem dX1_firstPiece_57 : decode cX1_firstPiece 57 = .ok (.istore_n 2, 1) := by decide +kernel
theorem dX1_firstPiece_58 : decode cX1_firstPiece 58 = .ok (.iinc 3 1, 3) := by decide +kernel
theorem dX1_firstPiece_61 : decode cX1_firstPiece 61 = .ok (.goto (-49), 3) := by decide +kernel
theorem dX1_firstPiece_64 : decode cX1_firstPiece 64 = .ok (.iload_n 1, 1) := by decide +kernel
theorem dX1_firstPiece_65 : decode cX1_firstPiece 65 = .ok (.ireturn, 1) := by decide +kernel
theorem dX1_nextPiece_0 : decode cX1_nextPiece 0 = .ok (.iconst 0, 1) := by decide +kernel
theorem dX1_nextPiece_1 : decode cX1_nextPiece 1 = .ok (.istore_n 3, 1) := by decide +kernel
theorem dX1_nextPiece_2 : decode cX1_nextPiece 2 = .ok (.iload_n 3, 1) := by decide +kernel
theorem dX1_nextPiece_3 : decode cX1_nextPiece 3 = .ok (.aload_n 0, 1) := by decide +kernel
theorem dX1_nextPiece_4 : decode cX1_nextPiece 4 = .ok (.getfield 15, 3) := by decide +kernel
theorem dX1_nextPiece_7 : decode cX1_nextPiece 7 = .ok (.if_icmp .ge 74, 3) := by decide +kernel
theorem dX1_nextPiece_10 : decode cX1_nextPiece 10 = .ok (.aload_n 0, 1) := by decide +kernel
theorem dX1_nextPiece_11 : decode cX1_nextPiece 11 = .ok (.iload_n 1, 1) := by decide +kernel
theorem dX1_nextPiece_12 : decode cX1_nextPiece 12 = .ok (.iload_n 2, 1) := by decide +kernel
theorem dX1_nextPiece_13 : decode cX1_nextPiece 13 = .ok (.iload_n 3, 1) := by decide +kernel
theorem dX1_nextPiece_14 : decode cX1_nextPiece 14 = .ok (.invokevirtual 45, 3) := by decide +kernel
theorem dX1_nextPiece_17 : decode cX1_nextPiece 17 = .ok (.ifCond .eq 58, 3) := by decide +kernel
theorem dX1_nextPiece_20 : decode cX1_nextPiece 20 = .ok (.aload_n 0, 1) := by decide +kernel
theorem dX1_nextPiece_21 : decode cX1_nextPiece 21 = .ok (.getfield 28, 3) := by decide +kernel
theorem dX1_nextPiece_24 : decode cX1_nextPiece 24 = .ok (.iload_n 1, 1) := by decide +kernel
theorem dX1_nextPiece_25 : decode cX1_nextPiece 25 = .ok (.iconst 1, 1) := by decide +kernel
theorem dX1_nextPiece_26 : decode cX1_nextPiece 26 = .ok (.iload_n 3, 1) := by decide +kernel
theorem dX1_nextPiece_27 : decode cX1_nextPiece 27 = .ok (.ishl, 1) := by decide +kernel
theorem dX1_nextPiece_28 : decode cX1_nextPiece 28 = .ok (.ior, 1) := by decide +kernel
theorem dX1_nextPiece_29 : decode cX1_nextPiece 29 = .ok (.iload_n 3, 1) := by decide +kernel
theorem dX1_nextPiece_30 : decode cX1_nextPiece 30 = .ok (.invokestatic 34, 3) := by decide +kernel
theorem dX1_nextPiece_33 : decode cX1_nextPiece 33 = .ok (.iaload, 1) := by decide +kernel
theorem dX1_nextPiece_34 : decode cX1_nextPiece 34 = .ok (.bipush (-9), 2) := by decide +kernel
theorem dX1_nextPiece_36 : decode cX1_nextPiece 36 = .ok (.if_icmp .eq 39, 3) := by decide +kernel
theorem dX1_nextPiece_39 : decode cX1_nextPiece 39 = .ok (.aload_n 0, 1) := by decide +kernel
theorem dX1_nextPiece_40 : decode cX1_nextPiece 40 = .ok (.iload_n 2, 1) := by decide +kernel
theorem dX1_nextPiece_41 : decode cX1_nextPiece 41 = .ok (.iload_n 3, 1) := by decide +kernel
theorem dX1_nextPiece_42 : decode cX1_nextPiece 42 = .ok (.invokevirtual 49, 3) := by decide +kernel
theorem dX1_nextPiece_45 : decode cX1_nextPiece 45 = .ok (.aload_n 0, 1) := by decide +kernel
theorem dX1_nextPiece_46 : decode cX1_nextPiece 46 = .ok (.getfield 28, 3) := by decide +kernel
theorem dX1_nextPiece_49 : decode cX1_nextPiece 49 = .ok (.iload_n 1, 1) := by decide +kernel
theorem dX1_nextPiece_50 : decode cX1_nextPiece 50 = .ok (.iconst 1, 1) := by decide +kernel
theorem dX1_nextPiece_51 : decode cX1_nextPiece 51 = .ok (.iload_n 3, 1) := by decide +kernel
theorem dX1_nextPiece_52 : decode cX1_nextPiece 52 = .ok (.ishl, 1) := by decide +kernel
theorem dX1_nextPiece_53 : decode cX1_nextPiece 53 = .ok (.ior, 1) := by decide +kernel
theorem dX1_nextPiece_54 : decode cX1_nextPiece 54 = .ok (.iload_n 3, 1) := by decide +kernel
theorem dX1_nextPiece_55 : decode cX1_nextPiece 55 = .ok (.invokestatic 34, 3) := by decide +kernel
theorem dX1_nextPiece_58 : decode cX1_nextPiece 58 = .ok (.iaload, 1) := by decide +kernel
theorem dX1_nextPiece_59 : decode cX1_nextPiece 59 = .ok (.iadd, 1) := by decide +kernel
theorem dX1_nextPiece_60 : decode cX1_nextPiece 60 = .ok (.aload_n 0, 1) := by decide +kernel
theorem dX1_nextPiece_61 : decode cX1_nextPiece 61 = .ok (.getfield 28, 3) := by decide +kernel
theorem dX1_nextPiece_64 : decode cX1_nextPiece 64 = .ok (.iload_n 1, 1) := by decide +kernel
theorem dX1_nextPiece_65 : decode cX1_nextPiece 65 = .ok (.iload_n 2, 1) := by decide +kernel
theorem dX1_nextPiece_66 : decode cX1_nextPiece 66 = .ok (.invokestatic 34, 3) := by decide +kernel
theorem dX1_nextPiece_69 : decode cX1_nextPiece 69 = .ok (.iaload, 1) := by decide +kernel
theorem dX1_nextPiece_70 : decode cX1_nextPiece 70 = .ok (.if_icmp .ne 5, 3) := by decide +kernel
theorem dX1_nextPiece_73 : decode cX1_nextPiece 73 = .ok (.iload_n 3, 1) := by decide +kernel
theorem dX1_nextPiece_74 : decode cX1_nextPiece 74 = .ok (.ireturn, 1) := by decide +kernel
theorem dX1_nextPiece_75 : decode cX1_nextPiece 75 = .ok (.iinc 3 1, 3) := by decide +kernel
theorem dX1_nextPiece_78 : decode cX1_nextPiece 78 = .ok (.goto (-76), 3) := by decide +kernel
theorem dX1_nextPiece_81 : decode cX1_nextPiece 81 = .ok (.bipush (-9), 2) := by decide +kernel
theorem dX1_nextPiece_83 : decode cX1_nextPiece 83 = .ok (.ireturn, 1) := by decide +kernel
theorem dX1_weighAll_0 : decode cX1_weighAll 0 = .ok (.iconst 1, 1) := by decide +kernel
theorem dX1_weighAll_1 : decode cX1_weighAll 1 = .ok (.aload_n 0, 1) := by decide +kernel
theorem dX1_weighAll_2 : decode cX1_weighAll 2 = .ok (.getfield 15, 3) := by decide +kernel
theorem dX1_weighAll_5 : decode cX1_weighAll 5 = .ok (.ishl, 1) := by decide +kernel
theorem dX1_weighAll_6 : decode cX1_weighAll 6 = .ok (.iconst 1, 1) := by decide +kernel
theorem dX1_weighAll_7 : decode cX1_weighAll 7 = .ok (.isub, 1) := by decide +kernel
theorem dX1_weighAll_8 : decode cX1_weighAll 8 = .ok (.istore_n 1, 1) := by decide +kernel
theorem dX1_weighAll_9 : decode cX1_weighAll 9 = .ok (.iload_n 1, 1) := by decide +kernel
theorem dX1_weighAll_10 : decode cX1_weighAll 10 = .ok (.istore_n 2, 1) := by decide +kernel
theorem dX1_weighAll_11 : decode cX1_weighAll 11 = .ok (.iload_n 2, 1) := by decide +kernel
theorem dX1_weighAll_12 : decode cX1_weighAll 12 = .ok (.ifCond .le 49, 3) := by decide +kernel
theorem dX1_weighAll_15 : decode cX1_weighAll 15 = .ok (.iconst 0, 1) := by decide +kernel
theorem dX1_weighAll_16 : decode cX1_weighAll 16 = .ok (.istore_n 3, 1) := by decide +kernel
theorem dX1_weighAll_17 : decode cX1_weighAll 17 = .ok (.iload_n 3, 1) := by decide +kernel
theorem dX1_weighAll_18 : decode cX1_weighAll 18 = .ok (.aload_n 0, 1) := by decide +kernel
theorem dX1_weighAll_19 : decode cX1_weighAll 19 = .ok (.getfield 15, 3) := by decide +kernel
theorem dX1_weighAll_22 : decode cX1_weighAll 22 = .ok (.if_icmp .ge 33, 3) := by decide +kernel
theorem dX1_weighAll_25 : decode cX1_weighAll 25 = .ok (.iload_n 2, 1) := by decide +kernel
theorem dX1_weighAll_26 : decode cX1_weighAll 26 = .ok (.iload_n 3, 1) := by decide +kernel
theorem dX1_weighAll_27 : decode cX1_weighAll 27 = .ok (.invokestatic 52, 3) := by decide +kernel
theorem dX1_weighAll_30 : decode cX1_weighAll 30 = .ok (.ifCond .eq 19, 3) := by decide +kernel
theorem dX1_weighAll_33 : decode cX1_weighAll 33 = .ok (.aload_n 0, 1) := by decide +kernel
theorem dX1_weighAll_34 : decode cX1_weighAll 34 = .ok (.iload_n 2, 1) := by decide +kernel
theorem dX1_weighAll_35 : decode cX1_weighAll 35 = .ok (.iload_n 3, 1) := by decide +kernel
theorem dX1_weighAll_36 : decode cX1_weighAll 36 = .ok (.iload_n 2, 1) := by decide +kernel
theorem dX1_weighAll_37 : decode cX1_weighAll 37 = .ok (.iload_n 1, 1) := by decide +kernel
theorem dX1_weighAll_38 : decode cX1_weighAll 38 = .ok (.if_icmp .ne 7, 3) := by decide +kernel
theorem dX1_weighAll_41 : decode cX1_weighAll 41 = .ok (.iconst 1, 1) := by decide +kernel
theorem dX1_weighAll_42 : decode cX1_weighAll 42 = .ok (.goto 4, 3) := by decide +kernel
theorem dX1_weighAll_45 : decode cX1_weighAll 45 = .ok (.iconst 0, 1) := by decide +kernel
theorem dX1_weighAll_46 : decode cX1_weighAll 46 = .ok (.invokevirtual 56, 3) := by decide +kernel
theorem dX1_weighAll_49 : decode cX1_weighAll 49 = .ok (.iinc 3 1, 3) := by decide +kernel
theorem dX1_weighAll_52 : decode cX1_weighAll 52 = .ok (.goto (-35), 3) := by decide +kernel
theorem dX1_weighAll_55 : decode cX1_weighAll 55 = .ok (.iinc 2 (-1), 3) := by decide +kernel
theorem dX1_weighAll_58 : decode cX1_weighAll 58 = .ok (.goto (-47), 3) := by decide +kernel
theorem dX1_weighAll_61 : decode cX1_weighAll 61 = .ok (.return_, 1) := by decide +kernel
theorem dX1_weigh_0 : decode cX1_weigh 0 = .ok (.iload_n 3, 1) := by decide +kernel
theorem dX1_weigh_1 : decode cX1_weigh 1 = .ok (.ifCond .eq 7, 3) := by decide +kernel
theorem dX1_weigh_4 : decode cX1_weigh 4 = .ok (.iconst 1, 1) := by decide +kernel
theorem dX1_weigh_5 : decode cX1_weigh 5 = .ok (.goto 4, 3) := by decide +kernel
theorem dX1_weigh_8 : decode cX1_weigh 8 = .ok (.iconst 0, 1) := by decide +kernel
theorem dX1_weigh_9 : decode cX1_weigh 9 = .ok (.istore 4, 2) := by decide +kernel
theorem dX1_weigh_11 : decode cX1_weigh 11 = .ok (.iload_n 3, 1) := by decide +kernel
theorem dX1_weigh_12 : decode cX1_weigh 12 = .ok (.ifCond .eq 7, 3) := by decide +kernel
theorem dX1_weigh_15 : decode cX1_weigh 15 = .ok (.iconst 0, 1) := by decide +kernel
theorem dX1_weigh_16 : decode cX1_weigh 16 = .ok (.goto 5, 3) := by decide +kernel
theorem dX1_weigh_19 : decode cX1_weigh 19 = .ok (.bipush (-9), 2) := by decide +kernel
theorem dX1_weigh_21 : decode cX1_weigh 21 = .ok (.istore 5, 2) := by decide +kernel
theorem dX1_weigh_23 : decode cX1_weigh 23 = .ok (.iconst 0, 1) := by decide +kernel
theorem dX1_weigh_24 : decode cX1_weigh 24 = .ok (.istore 6, 2) := by decide +kernel
theorem dX1_weigh_26 : decode cX1_weigh 26 = .ok (.iload 6, 2) := by decide +kernel
theorem dX1_weigh_28 : decode cX1_weigh 28 = .ok (.aload_n 0, 1) := by decide +kernel
theorem dX1_weigh_29 : decode cX1_weigh 29 = .ok (.getfield 15, 3) := by decide +kernel
theorem dX1_weigh_32 : decode cX1_weigh 32 = .ok (.if_icmp .ge 104, 3) := by decide +kernel
theorem dX1_weigh_35 : decode cX1_weigh 35 = .ok (.aload_n 0, 1) := by decide +kernel
theorem dX1_weigh_36 : decode cX1_weigh 36 = .ok (.iload_n 1, 1) := by decide +kernel
theorem dX1_weigh_37 : decode cX1_weigh 37 = .ok (.iload_n 2, 1) := by decide +kernel
theorem dX1_weigh_38 : decode cX1_weigh 38 = .ok (.iload 6, 2) := by decide +kernel
theorem dX1_weigh_40 : decode cX1_weigh 40 = .ok (.invokevirtual 45, 3) := by decide +kernel
theorem dX1_weigh_43 : decode cX1_weigh 43 = .ok (.ifCond .ne 6, 3) := by decide +kernel
theorem dX1_weigh_46 : decode cX1_weigh 46 = .ok (.goto 84, 3) := by decide +kernel
theorem dX1_weigh_49 : decode cX1_weigh 49 = .ok (.iload_n 1, 1) := by decide +kernel
theorem dX1_weigh_50 : decode cX1_weigh 50 = .ok (.iconst 1, 1) := by decide +kernel
theorem dX1_weigh_51 : decode cX1_weigh 51 = .ok (.iload 6, 2) := by decide +kernel
theorem dX1_weigh_53 : decode cX1_weigh 53 = .ok (.ishl, 1) := by decide +kernel
theorem dX1_weigh_54 : decode cX1_weigh 54 = .ok (.ior, 1) := by decide +kernel
theorem dX1_weigh_55 : decode cX1_weigh 55 = .ok (.iload 6, 2) := by decide +kernel
theorem dX1_weigh_57 : decode cX1_weigh 57 = .ok (.invokestatic 34, 3) := by decide +kernel
theorem dX1_weigh_60 : decode cX1_weigh 60 = .ok (.istore 7, 2) := by decide +kernel
theorem dX1_weigh_62 : decode cX1_weigh 62 = .ok (.iload 4, 2) := by decide +kernel
theorem dX1_weigh_64 : decode cX1_weigh 64 = .ok (.aload_n 0, 1) := by decide +kernel
theorem dX1_weigh_65 : decode cX1_weigh 65 = .ok (.getfield 25, 3) := by decide +kernel
theorem dX1_weigh_68 : decode cX1_weigh 68 = .ok (.iload 7, 2) := by decide +kernel
theorem dX1_weigh_70 : decode cX1_weigh 70 = .ok (.iaload, 1) := by decide +kernel
theorem dX1_weigh_71 : decode cX1_weigh 71 = .ok (.iadd, 1) := by decide +kernel
theorem dX1_weigh_72 : decode cX1_weigh 72 = .ok (.istore 4, 2) := by decide +kernel
theorem dX1_weigh_74 : decode cX1_weigh 74 = .ok (.aload_n 0, 1) := by decide +kernel
theorem dX1_weigh_75 : decode cX1_weigh 75 = .ok (.getfield 28, 3) := by decide +kernel
theorem dX1_weigh_78 : decode cX1_weigh 78 = .ok (.iload 7, 2) := by decide +kernel
theorem dX1_weigh_80 : decode cX1_weigh 80 = .ok (.iaload, 1) := by decide +kernel
theorem dX1_weigh_81 : decode cX1_weigh 81 = .ok (.bipush (-9), 2) := by decide +kernel
theorem dX1_weigh_83 : decode cX1_weigh 83 = .ok (.if_icmp .eq 47, 3) := by decide +kernel
theorem dX1_weigh_86 : decode cX1_weigh 86 = .ok (.iload 5, 2) := by decide +kernel
theorem dX1_weigh_88 : decode cX1_weigh 88 = .ok (.bipush (-9), 2) := by decide +kernel
theorem dX1_weigh_90 : decode cX1_weigh 90 = .ok (.if_icmp .eq 23, 3) := by decide +kernel
theorem dX1_weigh_93 : decode cX1_weigh 93 = .ok (.aload_n 0, 1) := by decide +kernel
theorem dX1_weigh_94 : decode cX1_weigh 94 = .ok (.iload_n 2, 1) := by decide +kernel
theorem dX1_weigh_95 : decode cX1_weigh 95 = .ok (.iload 6, 2) := by decide +kernel
theorem dX1_weigh_97 : decode cX1_weigh 97 = .ok (.invokevirtual 49, 3) := by decide +kernel
theorem dX1_weigh_100 : decode cX1_weigh 100 = .ok (.aload_n 0, 1) := by decide +kernel
theorem dX1_weigh_101 : decode cX1_weigh 101 = .ok (.getfield 28, 3) := by decide +kernel
theorem dX1_weigh_104 : decode cX1_weigh 104 = .ok (.iload 7, 2) := by decide +kernel
theorem dX1_weigh_106 : decode cX1_weigh 106 = .ok (.iaload, 1) := by decide +kernel
theorem dX1_weigh_107 : decode cX1_weigh 107 = .ok (.iadd, 1) := by decide +kernel
theorem dX1_weigh_108 : decode cX1_weigh 108 = .ok (.iload 5, 2) := by decide +kernel
theorem dX1_weigh_110 : decode cX1_weigh 110 = .ok (.if_icmp .ge 20, 3) := by decide +kernel
theorem dX1_weigh_113 : decode cX1_weigh 113 = .ok (.aload_n 0, 1) := by decide +kernel
theorem dX1_weigh_114 : decode cX1_weigh 114 = .ok (.iload_n 2, 1) := by decide +kernel
theorem dX1_weigh_115 : decode cX1_weigh 115 = .ok (.iload 6, 2) := by decide +kernel
theorem dX1_weigh_117 : decode cX1_weigh 117 = .ok (.invokevirtual 49, 3) := by decide +kernel
theorem dX1_weigh_120 : decode cX1_weigh 120 = .ok (.aload_n 0, 1) := by decide +kernel
theorem dX1_weigh_121 : decode cX1_weigh 121 = .ok (.getfield 28, 3) := by decide +kernel
theorem dX1_weigh_124 : decode cX1_weigh 124 = .ok (.iload 7, 2) := by decide +kernel
theorem dX1_weigh_126 : decode cX1_weigh 126 = .ok (.iaload, 1) := by decide +kernel
theorem dX1_weigh_127 : decode cX1_weigh 127 = .ok (.iadd, 1) := by decide +kernel
theorem dX1_weigh_128 : decode cX1_weigh 128 = .ok (.istore 5, 2) := by decide +kernel
theorem dX1_weigh_130 : decode cX1_weigh 130 = .ok (.iinc 6 1, 3) := by decide +kernel
theorem dX1_weigh_133 : decode cX1_weigh 133 = .ok (.goto (-107), 3) := by decide +kernel
theorem dX1_weigh_136 : decode cX1_weigh 136 = .ok (.aload_n 0, 1) := by decide +kernel
theorem dX1_weigh_137 : decode cX1_weigh 137 = .ok (.getfield 25, 3) := by decide +kernel
theorem dX1_weigh_140 : decode cX1_weigh 140 = .ok (.iload_n 1, 1) := by decide +kernel
theorem dX1_weigh_141 : decode cX1_weigh 141 = .ok (.iload_n 2, 1) := by decide +kernel
theorem dX1_weigh_142 : decode cX1_weigh 142 = .ok (.invokestatic 34, 3) := by decide +kernel
theorem dX1_weigh_145 : decode cX1_weigh 145 = .ok (.iload 4, 2) := by decide +kernel
theorem dX1_weigh_147 : decode cX1_weigh 147 = .ok (.iastore, 1) := by decide +kernel
theorem dX1_weigh_148 : decode cX1_weigh 148 = .ok (.aload_n 0, 1) := by decide +kernel
theorem dX1_weigh_149 : decode cX1_weigh 149 = .ok (.getfield 28, 3) := by decide +kernel
theorem dX1_weigh_152 : decode cX1_weigh 152 = .ok (.iload_n 1, 1) := by decide +kernel
theorem dX1_weigh_153 : decode cX1_weigh 153 = .ok (.iload_n 2, 1) := by decide +kernel
theorem dX1_weigh_154 : decode cX1_weigh 154 = .ok (.invokestatic 34, 3) := by decide +kernel
theorem dX1_weigh_157 : decode cX1_weigh 157 = .ok (.iload 5, 2) := by decide +kernel
theorem dX1_weigh_159 : decode cX1_weigh 159 = .ok (.iastore, 1) := by decide +kernel
theorem dX1_weigh_160 : decode cX1_weigh 160 = .ok (.return_, 1) := by decide +kernel
theorem dX1_canFollow_0 : decode cX1_canFollow 0 = .ok (.iload_n 1, 1) := by decide +kernel
theorem dX1_canFollow_1 : decode cX1_canFollow 1 = .ok (.iload_n 3, 1) := by decide +kernel
theorem dX1_canFollow_2 : decode cX1_canFollow 2 = .ok (.invokestatic 52, 3) := by decide +kernel
theorem dX1_canFollow_5 : decode cX1_canFollow 5 = .ok (.ifCond .ne 20, 3) := by decide +kernel
theorem dX1_canFollow_8 : decode cX1_canFollow 8 = .ok (.aload_n 0, 1) := by decide +kernel
theorem dX1_canFollow_9 : decode cX1_canFollow 9 = .ok (.iload_n 2, 1) := by decide +kernel
theorem dX1_canFollow_10 : decode cX1_canFollow 10 = .ok (.iload_n 3, 1) := by decide +kernel
theorem dX1_canFollow_11 : decode cX1_canFollow 11 = .ok (.invokevirtual 49, 3) := by decide +kernel
theorem dX1_canFollow_14 : decode cX1_canFollow 14 = .ok (.aload_n 0, 1) := by decide +kernel
theorem dX1_canFollow_15 : decode cX1_canFollow 15 = .ok (.getfield 11, 3) := by decide +kernel
theorem dX1_canFollow_18 : decode cX1_canFollow 18 = .ok (.if_icmp .gt 7, 3) := by decide +kernel
theorem dX1_canFollow_21 : decode cX1_canFollow 21 = .ok (.iconst 1, 1) := by decide +kernel
theorem dX1_canFollow_22 : decode cX1_canFollow 22 = .ok (.goto 4, 3) := by decide +kernel
theorem dX1_canFollow_25 : decode cX1_canFollow 25 = .ok (.iconst 0, 1) := by decide +kernel
theorem dX1_canFollow_26 : decode cX1_canFollow 26 = .ok (.ireturn, 1) := by decide +kernel
theorem dX1_gap_0 : decode cX1_gap 0 = .ok (.aload_n 0, 1) := by decide +kernel
theorem dX1_gap_1 : decode cX1_gap 1 = .ok (.getfield 22, 3) := by decide +kernel
theorem dX1_gap_4 : decode cX1_gap 4 = .ok (.iload_n 1, 1) := by decide +kernel
theorem dX1_gap_5 : decode cX1_gap 5 = .ok (.iaload, 1) := by decide +kernel
theorem dX1_gap_6 : decode cX1_gap 6 = .ok (.aload_n 0, 1) := by decide +kernel
theorem dX1_gap_7 : decode cX1_gap 7 = .ok (.getfield 18, 3) := by decide +kernel
theorem dX1_gap_10 : decode cX1_gap 10 = .ok (.iload_n 2, 1) := by decide +kernel
theorem dX1_gap_11 : decode cX1_gap 11 = .ok (.iaload, 1) := by decide +kernel
theorem dX1_gap_12 : decode cX1_gap 12 = .ok (.isub, 1) := by decide +kernel
theorem dX1_gap_13 : decode cX1_gap 13 = .ok (.invokestatic 60, 3) := by decide +kernel
theorem dX1_gap_16 : decode cX1_gap 16 = .ok (.ireturn, 1) := by decide +kernel
theorem dX1_cell_0 : decode cX1_cell 0 = .ok (.iload_n 0, 1) := by decide +kernel
theorem dX1_cell_1 : decode cX1_cell 1 = .ok (.bipush 7, 2) := by decide +kernel
theorem dX1_cell_3 : decode cX1_cell 3 = .ok (.imul, 1) := by decide +kernel
theorem dX1_cell_4 : decode cX1_cell 4 = .ok (.iload_n 1, 1) := by decide +kernel
theorem dX1_cell_5 : decode cX1_cell 5 = .ok (.iadd, 1) := by decide +kernel
theorem dX1_cell_6 : decode cX1_cell 6 = .ok (.ireturn, 1) := by decide +kernel
theorem dX2_init_0 : decode cX2_init 0 = .ok (.aload_n 0, 1) := by decide +kernel
theorem dX2_init_1 : decode cX2_init 1 = .ok (.invokespecial 3, 3) := by decide +kernel
theorem dX2_init_4 : decode cX2_init 4 = .ok (.aload_n 0, 1) := by decide +kernel
theorem dX2_init_5 : decode cX2_init 5 = .ok (.iload_n 1, 1) := by decide +kernel
theorem dX2_init_6 : decode cX2_init 6 = .ok (.putfield 9, 3) := by decide +kernel
theorem dX2_init_9 : decode cX2_init 9 = .ok (.aload_n 0, 1) := by decide +kernel
theorem dX2_init_10 : decode cX2_init 10 = .ok (.iload_n 2, 1) := by decide +kernel
theorem dX2_init_11 : decode cX2_init 11 = .ok (.putfield 15, 3) := by decide +kernel
theorem dX2_init_14 : decode cX2_init 14 = .ok (.aload_n 0, 1) := by decide +kernel
theorem dX2_init_15 : decode cX2_init 15 = .ok (.iload_n 3, 1) := by decide +kernel
theorem dX2_init_16 : decode cX2_init 16 = .ok (.putfield 18, 3) := by decide +kernel
theorem dX2_init_19 : decode cX2_init 19 = .ok (.aload_n 0, 1) := by decide +kernel
theorem dX2_init_20 : decode cX2_init 20 = .ok (.iload 4, 2) := by decide +kernel
theorem dX2_init_22 : decode cX2_init 22 = .ok (.putfield 21, 3) := by decide +kernel
theorem dX2_init_25 : decode cX2_init 25 = .ok (.aload_n 0, 1) := by decide +kernel
theorem dX2_init_26 : decode cX2_init 26 = .ok (.bipush 10, 2) := by decide +kernel
theorem dX2_init_28 : decode cX2_init 28 = .ok (.putfield 24, 3) := by decide +kernel
theorem dX2_init_31 : decode cX2_init 31 = .ok (.aload_n 0, 1) := by decide +kernel
theorem dX2_init_32 : decode cX2_init 32 = .ok (.iconst 5, 1) := by decide +kernel
theorem dX2_init_33 : decode cX2_init 33 = .ok (.putfield 27, 3) := by decide +kernel
theorem dX2_init_36 : decode cX2_init 36 = .ok (.aload_n 0, 1) := by decide +kernel
theorem dX2_init_37 : decode cX2_init 37 = .ok (.iconst 0, 1) := by decide +kernel
theorem dX2_init_38 : decode cX2_init 38 = .ok (.putfield 30, 3) := by decide +kernel
theorem dX2_init_41 : decode cX2_init 41 = .ok (.aload_n 0, 1) := by decide +kernel
theorem dX2_init_42 : decode cX2_init 42 = .ok (.bipush (-9), 2) := by decide +kernel
theorem dX2_init_44 : decode cX2_init 44 = .ok (.putfield 33, 3) := by decide +kernel
theorem dX2_init_47 : decode cX2_init 47 = .ok (.aload_n 0, 1) := by decide +kernel
theorem dX2_init_48 : decode cX2_init 48 = .ok (.bipush (-9), 2) := by decide +kernel
theorem dX2_init_50 : decode cX2_init 50 = .ok (.putfield 36, 3) := by decide +kernel
theorem dX2_init_53 : decode cX2_init 53 = .ok (.aload_n 0, 1) := by decide +kernel
theorem dX2_init_54 : decode cX2_init 54 = .ok (.iconst 0, 1) := by decide +kernel
theorem dX2_init_55 : decode cX2_init 55 = .ok (.putfield 39, 3) := by decide +kernel
theorem dX2_init_58 : decode cX2_init 58 = .ok (.aload_n 0, 1) := by decide +kernel
theorem dX2_init_59 : decode cX2_init 59 = .ok (.iconst 0, 1) := by decide +kernel
theorem dX2_init_60 : decode cX2_init 60 = .ok (.putfield 42, 3) := by decide +kernel
theorem dX2_init_63 : decode cX2_init 63 = .ok (.return_, 1) := by decide +kernel
theorem dX2_lose_0 : decode cX2_lose 0 = .ok (.aload_n 0, 1) := by decide +kernel
theorem dX2_lose_1 : decode cX2_lose 1 = .ok (.iconst 0, 1) := by decide +kernel
theorem dX2_lose_2 : decode cX2_lose 2 = .ok (.aload_n 0, 1) := by decide +kernel
theorem dX2_lose_3 : decode cX2_lose 3 = .ok (.getfield 15, 3) := by decide +kernel
theorem dX2_lose_6 : decode cX2_lose 6 = .ok (.iload_n 1, 1) := by decide +kernel
theorem dX2_lose_7 : decode cX2_lose 7 = .ok (.isub, 1) := by decide +kernel
theorem dX2_lose_8 : decode cX2_lose 8 = .ok (.invokestatic 45, 3) := by decide +kernel
theorem dX2_lose_11 : decode cX2_lose 11 = .ok (.putfield 15, 3) := by decide +kernel
theorem dX2_lose_14 : decode cX2_lose 14 = .ok (.return_, 1) := by decide +kernel
theorem dX2_savedIn_0 : decode cX2_savedIn 0 = .ok (.aload_n 0, 1) := by decide +kernel
theorem dX2_savedIn_1 : decode cX2_savedIn 1 = .ok (.getfield 21, 3) := by decide +kernel
theorem dX2_savedIn_4 : decode cX2_savedIn 4 = .ok (.iload_n 1, 1) := by decide +kernel
theorem dX2_savedIn_5 : decode cX2_savedIn 5 = .ok (.imul, 1) := by decide +kernel
theorem dX2_savedIn_6 : decode cX2_savedIn 6 = .ok (.iload_n 2, 1) := by decide +kernel
theorem dX2_savedIn_7 : decode cX2_savedIn 7 = .ok (.ifCond .eq 10, 3) := by decide +kernel
theorem dX2_savedIn_10 : decode cX2_savedIn 10 = .ok (.aload_n 0, 1) := by decide +kernel
theorem dX2_savedIn_11 : decode cX2_savedIn 11 = .ok (.getfield 18, 3) := by decide +kernel
theorem dX2_savedIn_14 : decode cX2_savedIn 14 = .ok (.goto 4, 3) := by decide +kernel
theorem dX2_savedIn_17 : decode cX2_savedIn 17 = .ok (.iconst 0, 1) := by decide +kernel
theorem dX2_savedIn_18 : decode cX2_savedIn 18 = .ok (.iadd, 1) := by decide +kernel
theorem dX2_savedIn_19 : decode cX2_savedIn 19 = .ok (.istore_n 3, 1) := by decide +kernel
theorem dX2_savedIn_20 : decode cX2_savedIn 20 = .ok (.aload_n 0, 1) := by decide +kernel
theorem dX2_savedIn_21 : decode cX2_savedIn 21 = .ok (.getfield 9, 3) := by decide +kernel
theorem dX2_savedIn_24 : decode cX2_savedIn 24 = .ok (.iconst 0, 1) := by decide +kernel
theorem dX2_savedIn_25 : decode cX2_savedIn 25 = .ok (.aload_n 0, 1) := by decide +kernel
theorem dX2_savedIn_26 : decode cX2_savedIn 26 = .ok (.getfield 15, 3) := by decide +kernel
theorem dX2_savedIn_29 : decode cX2_savedIn 29 = .ok (.iload_n 3, 1) := by decide +kernel
theorem dX2_savedIn_30 : decode cX2_savedIn 30 = .ok (.isub, 1) := by decide +kernel
theorem dX2_savedIn_31 : decode cX2_savedIn 31 = .ok (.invokestatic 45, 3) := by decide +kernel
theorem dX2_savedIn_34 : decode cX2_savedIn 34 = .ok (.imul, 1) := by decide +kernel
theorem dX2_savedIn_35 : decode cX2_savedIn 35 = .ok (.ireturn, 1) := by decide +kernel
theorem dX2_asked_0 : decode cX2_asked 0 = .ok (.aload_n 0, 1) := by decide +kernel
theorem dX2_asked_1 : decode cX2_asked 1 = .ok (.getfield 39, 3) := by decide +kernel
theorem dX2_asked_4 : decode cX2_asked 4 = .ok (.aload_n 0, 1) := by decide +kernel
theorem dX2_asked_5 : decode cX2_asked 5 = .ok (.getfield 42, 3) := by decide +kernel
theorem dX2_asked_8 : decode cX2_asked 8 = .ok (.bipush 8, 2) := by decide +kernel
theorem dX2_asked_10 : decode cX2_asked 10 = .ok (.imul, 1) := by decide +kernel
theorem dX2_asked_11 : decode cX2_asked 11 = .ok (.ishl, 1) := by decide +kernel
theorem dX2_asked_12 : decode cX2_asked 12 = .ok (.ireturn, 1) := by decide +kernel
theorem dX2_isLetBy_0 : decode cX2_isLetBy 0 = .ok (.aload_n 0, 1) := by decide +kernel
theorem dX2_isLetBy_1 : decode cX2_isLetBy 1 = .ok (.invokevirtual 51, 3) := by decide +kernel
theorem dX2_isLetBy_4 : decode cX2_isLetBy 4 = .ok (.iload_n 1, 1) := by decide +kernel
theorem dX2_isLetBy_5 : decode cX2_isLetBy 5 = .ok (.iconst (-1), 1) := by decide +kernel
theorem dX2_isLetBy_6 : decode cX2_isLetBy 6 = .ok (.ixor, 1) := by decide +kernel
theorem dX2_isLetBy_7 : decode cX2_isLetBy 7 = .ok (.iand, 1) := by decide +kernel
theorem dX2_isLetBy_8 : decode cX2_isLetBy 8 = .ok (.ifCond .ne 7, 3) := by decide +kernel
theorem dX2_isLetBy_11 : decode cX2_isLetBy 11 = .ok (.iconst 1, 1) := by decide +kernel
theorem dX2_isLetBy_12 : decode cX2_isLetBy 12 = .ok (.goto 4, 3) := by decide +kernel
theorem dX2_isLetBy_15 : decode cX2_isLetBy 15 = .ok (.iconst 0, 1) := by decide +kernel
theorem dX2_isLetBy_16 : decode cX2_isLetBy 16 = .ok (.ireturn, 1) := by decide +kernel
theorem dX3_init_0 : decode cX3_init 0 = .ok (.aload_n 0, 1) := by decide +kernel
theorem dX3_init_1 : decode cX3_init 1 = .ok (.invokespecial 1, 3) := by decide +kernel
theorem dX3_init_4 : decode cX3_init 4 = .ok (.aload_n 0, 1) := by decide +kernel
theorem dX3_init_5 : decode cX3_init 5 = .ok (.iload_n 1, 1) := by decide +kernel
theorem dX3_init_6 : decode cX3_init 6 = .ok (.putfield 7, 3) := by decide +kernel
theorem dX3_init_9 : decode cX3_init 9 = .ok (.aload_n 0, 1) := by decide +kernel
theorem dX3_init_10 : decode cX3_init 10 = .ok (.iload_n 2, 1) := by decide +kernel
theorem dX3_init_11 : decode cX3_init 11 = .ok (.putfield 13, 3) := by decide +kernel
theorem dX3_init_14 : decode cX3_init 14 = .ok (.aload_n 0, 1) := by decide +kernel
theorem dX3_init_15 : decode cX3_init 15 = .ok (.iload_n 3, 1) := by decide +kernel
theorem dX3_init_16 : decode cX3_init 16 = .ok (.putfield 16, 3) := by decide +kernel
theorem dX3_init_19 : decode cX3_init 19 = .ok (.aload_n 0, 1) := by decide +kernel
theorem dX3_init_20 : decode cX3_init 20 = .ok (.iload 4, 2) := by decide +kernel
theorem dX3_init_22 : decode cX3_init 22 = .ok (.putfield 19, 3) := by decide +kernel
theorem dX3_init_25 : decode cX3_init 25 = .ok (.aload_n 0, 1) := by decide +kernel
theorem dX3_init_26 : decode cX3_init 26 = .ok (.iconst 1, 1) := by decide +kernel
theorem dX3_init_27 : decode cX3_init 27 = .ok (.putfield 22, 3) := by decide +kernel
theorem dX3_init_30 : decode cX3_init 30 = .ok (.return_, 1) := by decide +kernel
theorem dX3_isOf_0 : decode cX3_isOf 0 = .ok (.aload_n 0, 1) := by decide +kernel
theorem dX3_isOf_1 : decode cX3_isOf 1 = .ok (.getfield 22, 3) := by decide +kernel
theorem dX3_isOf_4 : decode cX3_isOf 4 = .ok (.ifCond .eq 15, 3) := by decide +kernel
theorem dX3_isOf_7 : decode cX3_isOf 7 = .ok (.aload_n 0, 1) := by decide +kernel
theorem dX3_isOf_8 : decode cX3_isOf 8 = .ok (.getfield 7, 3) := by decide +kernel
theorem dX3_isOf_11 : decode cX3_isOf 11 = .ok (.iload_n 1, 1) := by decide +kernel
theorem dX3_isOf_12 : decode cX3_isOf 12 = .ok (.if_icmp .ne 7, 3) := by decide +kernel
theorem dX3_isOf_15 : decode cX3_isOf 15 = .ok (.iconst 1, 1) := by decide +kernel
theorem dX3_isOf_16 : decode cX3_isOf 16 = .ok (.goto 4, 3) := by decide +kernel
theorem dX3_isOf_19 : decode cX3_isOf 19 = .ok (.iconst 0, 1) := by decide +kernel
theorem dX3_isOf_20 : decode cX3_isOf 20 = .ok (.ireturn, 1) := by decide +kernel
theorem dX3_isApartFrom_0 : decode cX3_isApartFrom 0 = .ok (.aload_n 0, 1) := by decide +kernel
theorem dX3_isApartFrom_1 : decode cX3_isApartFrom 1 = .ok (.getfield 16, 3) := by decide +kernel
theorem dX3_isApartFrom_4 : decode cX3_isApartFrom 4 = .ok (.aload_n 1, 1) := by decide +kernel
theorem dX3_isApartFrom_5 : decode cX3_isApartFrom 5 = .ok (.getfield 13, 3) := by decide +kernel
theorem dX3_isApartFrom_8 : decode cX3_isApartFrom 8 = .ok (.if_icmp .lt 14, 3) := by decide +kernel
theorem dX3_isApartFrom_11 : decode cX3_isApartFrom 11 = .ok (.aload_n 1, 1) := by decide +kernel
theorem dX3_isApartFrom_12 : decode cX3_isApartFrom 12 = .ok (.getfield 16, 3) := by decide +kernel
theorem dX3_isApartFrom_15 : decode cX3_isApartFrom 15 = .ok (.aload_n 0, 1) := by decide +kernel
theorem dX3_isApartFrom_16 : decode cX3_isApartFrom 16 = .ok (.getfield 13, 3) := by decide +kernel
theorem dX3_isApartFrom_19 : decode cX3_isApartFrom 19 = .ok (.if_icmp .ge 7, 3) := by decide +kernel
theorem dX3_isApartFrom_22 : decode cX3_isApartFrom 22 = .ok (.iconst 1, 1) := by decide +kernel
theorem dX3_isApartFrom_23 : decode cX3_isApartFrom 23 = .ok (.goto 4, 3) := by decide +kernel
theorem dX3_isApartFrom_26 : decode cX3_isApartFrom 26 = .ok (.iconst 0, 1) := by decide +kernel
theorem dX3_isApartFrom_27 : decode cX3_isApartFrom 27 = .ok (.ireturn, 1) := by decide +kernel
theorem dX4_init_0 : decode cX4_init 0 = .ok (.aload_n 0, 1) := by decide +kernel
theorem dX4_init_1 : decode cX4_init 1 = .ok (.invokespecial 3, 3) := by decide +kernel
theorem dX4_init_4 : decode cX4_init 4 = .ok (.aload_n 0, 1) := by decide +kernel
theorem dX4_init_5 : decode cX4_init 5 = .ok (.bipush 60, 2) := by decide +kernel
theorem dX4_init_7 : decode cX4_init 7 = .ok (.anewarray 11, 3) := by decide +kernel
theorem dX4_init_10 : decode cX4_init 10 = .ok (.putfield 13, 3) := by decide +kernel
theorem dX4_init_13 : decode cX4_init 13 = .ok (.aload_n 0, 1) := by decide +kernel
theorem dX4_init_14 : decode cX4_init 14 = .ok (.iconst 0, 1) := by decide +kernel
theorem dX4_init_15 : decode cX4_init 15 = .ok (.putfield 17, 3) := by decide +kernel
theorem dX4_init_18 : decode cX4_init 18 = .ok (.return_, 1) := by decide +kernel
theorem dX4_isFull_0 : decode cX4_isFull 0 = .ok (.aload_n 0, 1) := by decide +kernel
theorem dX4_isFull_1 : decode cX4_isFull 1 = .ok (.getfield 17, 3) := by decide +kernel
theorem dX4_isFull_4 : decode cX4_isFull 4 = .ok (.bipush 60, 2) := by decide +kernel
theorem dX4_isFull_6 : decode cX4_isFull 6 = .ok (.if_icmp .lt 7, 3) := by decide +kernel
theorem dX4_isFull_9 : decode cX4_isFull 9 = .ok (.iconst 1, 1) := by decide +kernel
theorem dX4_isFull_10 : decode cX4_isFull 10 = .ok (.goto 4, 3) := by decide +kernel
theorem dX4_isFull_13 : decode cX4_isFull 13 = .ok (.iconst 0, 1) := by decide +kernel
theorem dX4_isFull_14 : decode cX4_isFull 14 = .ok (.ireturn, 1) := by decide +kernel
theorem dX4_has_0 : decode cX4_has 0 = .ok (.iload_n 1, 1) := by decide +kernel
theorem dX4_has_1 : decode cX4_has 1 = .ok (.ifCond .lt 15, 3) := by decide +kernel
theorem dX4_has_4 : decode cX4_has 4 = .ok (.iload_n 1, 1) := by decide +kernel
theorem dX4_has_5 : decode cX4_has 5 = .ok (.aload_n 0, 1) := by decide +kernel
theorem dX4_has_6 : decode cX4_has 6 = .ok (.getfield 17, 3) := by decide +kernel
theorem dX4_has_9 : decode cX4_has 9 = .ok (.if_icmp .ge 7, 3) := by decide +kernel
theorem dX4_has_12 : decode cX4_has 12 = .ok (.iconst 1, 1) := by decide +kernel
theorem dX4_has_13 : decode cX4_has 13 = .ok (.goto 4, 3) := by decide +kernel
theorem dX4_has_16 : decode cX4_has 16 = .ok (.iconst 0, 1) := by decide +kernel
theorem dX4_has_17 : decode cX4_has 17 = .ok (.ireturn, 1) := by decide +kernel
theorem dX4_add_0 : decode cX4_add 0 = .ok (.aload_n 0, 1) := by decide +kernel
theorem dX4_add_1 : decode cX4_add 1 = .ok (.getfield 13, 3) := by decide +kernel
theorem dX4_add_4 : decode cX4_add 4 = .ok (.aload_n 0, 1) := by decide +kernel
theorem dX4_add_5 : decode cX4_add 5 = .ok (.getfield 17, 3) := by decide +kernel
theorem dX4_add_8 : decode cX4_add 8 = .ok (.aload_n 1, 1) := by decide +kernel
theorem dX4_add_9 : decode cX4_add 9 = .ok (.aastore, 1) := by decide +kernel
theorem dX4_add_10 : decode cX4_add 10 = .ok (.aload_n 0, 1) := by decide +kernel
theorem dX4_add_11 : decode cX4_add 11 = .ok (.dup, 1) := by decide +kernel
theorem dX4_add_12 : decode cX4_add 12 = .ok (.getfield 17, 3) := by decide +kernel
theorem dX4_add_15 : decode cX4_add 15 = .ok (.iconst 1, 1) := by decide +kernel
theorem dX4_add_16 : decode cX4_add 16 = .ok (.iadd, 1) := by decide +kernel
theorem dX4_add_17 : decode cX4_add 17 = .ok (.putfield 17, 3) := by decide +kernel
theorem dX4_add_20 : decode cX4_add 20 = .ok (.aload_n 0, 1) := by decide +kernel
theorem dX4_add_21 : decode cX4_add 21 = .ok (.getfield 17, 3) := by decide +kernel
theorem dX4_add_24 : decode cX4_add 24 = .ok (.iconst 1, 1) := by decide +kernel
theorem dX4_add_25 : decode cX4_add 25 = .ok (.isub, 1) := by decide +kernel
theorem dX4_add_26 : decode cX4_add 26 = .ok (.ireturn, 1) := by decide +kernel
theorem dX4_takeOut_0 : decode cX4_takeOut 0 = .ok (.aload_n 0, 1) := by decide +kernel
theorem dX4_takeOut_1 : decode cX4_takeOut 1 = .ok (.getfield 13, 3) := by decide +kernel
theorem dX4_takeOut_4 : decode cX4_takeOut 4 = .ok (.iload_n 1, 1) := by decide +kernel
theorem dX4_takeOut_5 : decode cX4_takeOut 5 = .ok (.aaload, 1) := by decide +kernel
theorem dX4_takeOut_6 : decode cX4_takeOut 6 = .ok (.getfield 21, 3) := by decide +kernel
theorem dX4_takeOut_9 : decode cX4_takeOut 9 = .ok (.istore_n 2, 1) := by decide +kernel
theorem dX4_takeOut_10 : decode cX4_takeOut 10 = .ok (.aload_n 0, 1) := by decide +kernel
theorem dX4_takeOut_11 : decode cX4_takeOut 11 = .ok (.getfield 13, 3) := by decide +kernel
theorem dX4_takeOut_14 : decode cX4_takeOut 14 = .ok (.iload_n 1, 1) := by decide +kernel
theorem dX4_takeOut_15 : decode cX4_takeOut 15 = .ok (.aaload, 1) := by decide +kernel
theorem dX4_takeOut_16 : decode cX4_takeOut 16 = .ok (.iconst 0, 1) := by decide +kernel
theorem dX4_takeOut_17 : decode cX4_takeOut 17 = .ok (.putfield 21, 3) := by decide +kernel
theorem dX4_takeOut_20 : decode cX4_takeOut 20 = .ok (.iload_n 2, 1) := by decide +kernel
theorem dX4_takeOut_21 : decode cX4_takeOut 21 = .ok (.ireturn, 1) := by decide +kernel
theorem dX4_countLive_0 : decode cX4_countLive 0 = .ok (.iconst 0, 1) := by decide +kernel
theorem dX4_countLive_1 : decode cX4_countLive 1 = .ok (.istore_n 1, 1) := by decide +kernel
theorem dX4_countLive_2 : decode cX4_countLive 2 = .ok (.iconst 0, 1) := by decide +kernel
theorem dX4_countLive_3 : decode cX4_countLive 3 = .ok (.istore_n 2, 1) := by decide +kernel
theorem dX4_countLive_4 : decode cX4_countLive 4 = .ok (.iload_n 2, 1) := by decide +kernel
theorem dX4_countLive_5 : decode cX4_countLive 5 = .ok (.aload_n 0, 1) := by decide +kernel
theorem dX4_countLive_6 : decode cX4_countLive 6 = .ok (.getfield 17, 3) := by decide +kernel
theorem dX4_countLive_9 : decode cX4_countLive 9 = .ok (.if_icmp .ge 24, 3) := by decide +kernel
theorem dX4_countLive_12 : decode cX4_countLive 12 = .ok (.aload_n 0, 1) := by decide +kernel
theorem dX4_countLive_13 : decode cX4_countLive 13 = .ok (.getfield 13, 3) := by decide +kernel
theorem dX4_countLive_16 : decode cX4_countLive 16 = .ok (.iload_n 2, 1) := by decide +kernel
theorem dX4_countLive_17 : decode cX4_countLive 17 = .ok (.aaload, 1) := by decide +kernel
theorem dX4_countLive_18 : decode cX4_countLive 18 = .ok (.getfield 21, 3) := by decide +kernel
theorem dX4_countLive_21 : decode cX4_countLive 21 = .ok (.ifCond .eq 6, 3) := by decide +kernel
theorem dX4_countLive_24 : decode cX4_countLive 24 = .ok (.iinc 1 1, 3) := by decide +kernel
theorem dX4_countLive_27 : decode cX4_countLive 27 = .ok (.iinc 2 1, 3) := by decide +kernel
theorem dX4_countLive_30 : decode cX4_countLive 30 = .ok (.goto (-26), 3) := by decide +kernel
theorem dX4_countLive_33 : decode cX4_countLive 33 = .ok (.iload_n 1, 1) := by decide +kernel
theorem dX4_countLive_34 : decode cX4_countLive 34 = .ok (.ireturn, 1) := by decide +kernel
theorem dX4_weightAt_0 : decode cX4_weightAt 0 = .ok (.iconst 0, 1) := by decide +kernel
theorem dX4_weightAt_1 : decode cX4_weightAt 1 = .ok (.istore_n 3, 1) := by decide +kernel
theorem dX4_weightAt_2 : decode cX4_weightAt 2 = .ok (.iconst 0, 1) := by decide +kernel
theorem dX4_weightAt_3 : decode cX4_weightAt 3 = .ok (.istore 4, 2) := by decide +kernel
theorem dX4_weightAt_5 : decode cX4_weightAt 5 = .ok (.iload 4, 2) := by decide +kernel
theorem dX4_weightAt_7 : decode cX4_weightAt 7 = .ok (.aload_n 0, 1) := by decide +kernel
theorem dX4_weightAt_8 : decode cX4_weightAt 8 = .ok (.getfield 17, 3) := by decide +kernel
theorem dX4_weightAt_11 : decode cX4_weightAt 11 = .ok (.if_icmp .ge 53, 3) := by decide +kernel
theorem dX4_weightAt_14 : decode cX4_weightAt 14 = .ok (.aload_n 0, 1) := by decide +kernel
theorem dX4_weightAt_15 : decode cX4_weightAt 15 = .ok (.getfield 13, 3) := by decide +kernel
theorem dX4_weightAt_18 : decode cX4_weightAt 18 = .ok (.iload 4, 2) := by decide +kernel
theorem dX4_weightAt_20 : decode cX4_weightAt 20 = .ok (.aaload, 1) := by decide +kernel
theorem dX4_weightAt_21 : decode cX4_weightAt 21 = .ok (.astore 5, 2) := by decide +kernel
theorem dX4_weightAt_23 : decode cX4_weightAt 23 = .ok (.aload 5, 2) := by decide +kernel
theorem dX4_weightAt_25 : decode cX4_weightAt 25 = .ok (.iload_n 1, 1) := by decide +kernel
theorem dX4_weightAt_26 : decode cX4_weightAt 26 = .ok (.invokevirtual 25, 3) := by decide +kernel
theorem dX4_weightAt_29 : decode cX4_weightAt 29 = .ok (.ifCond .eq 29, 3) := by decide +kernel
theorem dX4_weightAt_32 : decode cX4_weightAt 32 = .ok (.aload 5, 2) := by decide +kernel
theorem dX4_weightAt_34 : decode cX4_weightAt 34 = .ok (.getfield 29, 3) := by decide +kernel
theorem dX4_weightAt_37 : decode cX4_weightAt 37 = .ok (.iload_n 2, 1) := by decide +kernel
theorem dX4_weightAt_38 : decode cX4_weightAt 38 = .ok (.if_icmp .gt 20, 3) := by decide +kernel
theorem dX4_weightAt_41 : decode cX4_weightAt 41 = .ok (.iload_n 2, 1) := by decide +kernel
theorem dX4_weightAt_42 : decode cX4_weightAt 42 = .ok (.aload 5, 2) := by decide +kernel
theorem dX4_weightAt_44 : decode cX4_weightAt 44 = .ok (.getfield 32, 3) := by decide +kernel
theorem dX4_weightAt_47 : decode cX4_weightAt 47 = .ok (.if_icmp .gt 11, 3) := by decide +kernel
theorem dX4_weightAt_50 : decode cX4_weightAt 50 = .ok (.iload_n 3, 1) := by decide +kernel
theorem dX4_weightAt_51 : decode cX4_weightAt 51 = .ok (.aload 5, 2) := by decide +kernel
theorem dX4_weightAt_53 : decode cX4_weightAt 53 = .ok (.getfield 35, 3) := by decide +kernel
theorem dX4_weightAt_56 : decode cX4_weightAt 56 = .ok (.iadd, 1) := by decide +kernel
theorem dX4_weightAt_57 : decode cX4_weightAt 57 = .ok (.istore_n 3, 1) := by decide +kernel
theorem dX4_weightAt_58 : decode cX4_weightAt 58 = .ok (.iinc 4 1, 3) := by decide +kernel
theorem dX4_weightAt_61 : decode cX4_weightAt 61 = .ok (.goto (-56), 3) := by decide +kernel
theorem dX4_weightAt_64 : decode cX4_weightAt 64 = .ok (.iload_n 3, 1) := by decide +kernel
theorem dX4_weightAt_65 : decode cX4_weightAt 65 = .ok (.ireturn, 1) := by decide +kernel
theorem dX4_leastHeaviest_0 : decode cX4_leastHeaviest 0 = .ok (.bipush (-9), 2) := by decide +kernel
theorem dX4_leastHeaviest_2 : decode cX4_leastHeaviest 2 = .ok (.istore_n 2, 1) := by decide +kernel
theorem dX4_leastHeaviest_3 : decode cX4_leastHeaviest 3 = .ok (.iconst 0, 1) := by decide +kernel
theorem dX4_leastHeaviest_4 : decode cX4_leastHeaviest 4 = .ok (.istore_n 3, 1) := by decide +kernel
theorem dX4_leastHeaviest_5 : decode cX4_leastHeaviest 5 = .ok (.iconst 0, 1) := by decide +kernel
theorem dX4_leastHeaviest_6 : decode cX4_leastHeaviest 6 = .ok (.istore 4, 2) := by decide +kernel
theorem dX4_leastHeaviest_8 : decode cX4_leastHeaviest 8 = .ok (.iload 4, 2) := by decide +kernel
theorem dX4_leastHeaviest_10 : decode cX4_leastHeaviest 10 = .ok (.aload_n 0, 1) := by decide +kernel
theorem dX4_leastHeaviest_11 : decode cX4_leastHeaviest 11 = .ok (.getfield 17, 3) := by decide +kernel
theorem dX4_leastHeaviest_14 : decode cX4_leastHeaviest 14 = .ok (.if_icmp .ge 71, 3) := by decide +kernel
theorem dX4_leastHeaviest_17 : decode cX4_leastHeaviest 17 = .ok (.aload_n 0, 1) := by decide +kernel
theorem dX4_leastHeaviest_18 : decode cX4_leastHeaviest 18 = .ok (.getfield 13, 3) := by decide +kernel
theorem dX4_leastHeaviest_21 : decode cX4_leastHeaviest 21 = .ok (.iload 4, 2) := by decide +kernel
theorem dX4_leastHeaviest_23 : decode cX4_leastHeaviest 23 = .ok (.aaload, 1) := by decide +kernel
theorem dX4_leastHeaviest_24 : decode cX4_leastHeaviest 24 = .ok (.iload_n 1, 1) := by decide +kernel
theorem dX4_leastHeaviest_25 : decode cX4_leastHeaviest 25 = .ok (.invokevirtual 25, 3) := by decide +kernel
theorem dX4_leastHeaviest_28 : decode cX4_leastHeaviest 28 = .ok (.ifCond .ne 6, 3) := by decide +kernel
theorem dX4_leastHeaviest_31 : decode cX4_leastHeaviest 31 = .ok (.goto 48, 3) := by decide +kernel
theorem dX4_leastHeaviest_34 : decode cX4_leastHeaviest 34 = .ok (.aload_n 0, 1) := by decide +kernel
theorem dX4_leastHeaviest_35 : decode cX4_leastHeaviest 35 = .ok (.getfield 13, 3) := by decide +kernel
theorem dX4_leastHeaviest_38 : decode cX4_leastHeaviest 38 = .ok (.iload 4, 2) := by decide +kernel
theorem dX4_leastHeaviest_40 : decode cX4_leastHeaviest 40 = .ok (.aaload, 1) := by decide +kernel
theorem dX4_leastHeaviest_41 : decode cX4_leastHeaviest 41 = .ok (.getfield 29, 3) := by decide +kernel
theorem dX4_leastHeaviest_44 : decode cX4_leastHeaviest 44 = .ok (.istore 5, 2) := by decide +kernel
theorem dX4_leastHeaviest_46 : decode cX4_leastHeaviest 46 = .ok (.aload_n 0, 1) := by decide +kernel
theorem dX4_leastHeaviest_47 : decode cX4_leastHeaviest 47 = .ok (.iload_n 1, 1) := by decide +kernel
theorem dX4_leastHeaviest_48 : decode cX4_leastHeaviest 48 = .ok (.iload 5, 2) := by decide +kernel
theorem dX4_leastHeaviest_50 : decode cX4_leastHeaviest 50 = .ok (.invokevirtual 38, 3) := by decide +kernel
theorem dX4_leastHeaviest_53 : decode cX4_leastHeaviest 53 = .ok (.istore 6, 2) := by decide +kernel
theorem dX4_leastHeaviest_55 : decode cX4_leastHeaviest 55 = .ok (.iload 6, 2) := by decide +kernel
theorem dX4_leastHeaviest_57 : decode cX4_leastHeaviest 57 = .ok (.iload_n 3, 1) := by decide +kernel
theorem dX4_leastHeaviest_58 : decode cX4_leastHeaviest 58 = .ok (.if_icmp .gt 15, 3) := by decide +kernel
theorem dX4_leastHeaviest_61 : decode cX4_leastHeaviest 61 = .ok (.iload 6, 2) := by decide +kernel
theorem dX4_leastHeaviest_63 : decode cX4_leastHeaviest 63 = .ok (.iload_n 3, 1) := by decide +kernel
theorem dX4_leastHeaviest_64 : decode cX4_leastHeaviest 64 = .ok (.if_icmp .ne 15, 3) := by decide +kernel
theorem dX4_leastHeaviest_67 : decode cX4_leastHeaviest 67 = .ok (.iload 5, 2) := by decide +kernel
theorem dX4_leastHeaviest_69 : decode cX4_leastHeaviest 69 = .ok (.iload_n 2, 1) := by decide +kernel
theorem dX4_leastHeaviest_70 : decode cX4_leastHeaviest 70 = .ok (.if_icmp .ge 9, 3) := by decide +kernel
theorem dX4_leastHeaviest_73 : decode cX4_leastHeaviest 73 = .ok (.iload 5, 2) := by decide +kernel
theorem dX4_leastHeaviest_75 : decode cX4_leastHeaviest 75 = .ok (.istore_n 2, 1) := by decide +kernel
theorem dX4_leastHeaviest_76 : decode cX4_leastHeaviest 76 = .ok (.iload 6, 2) := by decide +kernel
theorem dX4_leastHeaviest_78 : decode cX4_leastHeaviest 78 = .ok (.istore_n 3, 1) := by decide +kernel
theorem dX4_leastHeaviest_79 : decode cX4_leastHeaviest 79 = .ok (.iinc 4 1, 3) := by decide +kernel
theorem dX4_leastHeaviest_82 : decode cX4_leastHeaviest 82 = .ok (.goto (-74), 3) := by decide +kernel
theorem dX4_leastHeaviest_85 : decode cX4_leastHeaviest 85 = .ok (.iload_n 2, 1) := by decide +kernel
theorem dX4_leastHeaviest_86 : decode cX4_leastHeaviest 86 = .ok (.ireturn, 1) := by decide +kernel
theorem dX4_lastHeaviest_0 : decode cX4_lastHeaviest 0 = .ok (.aload_n 0, 1) := by decide +kernel
theorem dX4_lastHeaviest_1 : decode cX4_lastHeaviest 1 = .ok (.iload_n 1, 1) := by decide +kernel
theorem dX4_lastHeaviest_2 : decode cX4_lastHeaviest 2 = .ok (.invokevirtual 42, 3) := by decide +kernel
theorem dX4_lastHeaviest_5 : decode cX4_lastHeaviest 5 = .ok (.istore_n 2, 1) := by decide +kernel
theorem dX4_lastHeaviest_6 : decode cX4_lastHeaviest 6 = .ok (.iload_n 2, 1) := by decide +kernel
theorem dX4_lastHeaviest_7 : decode cX4_lastHeaviest 7 = .ok (.bipush (-9), 2) := by decide +kernel
theorem dX4_lastHeaviest_9 : decode cX4_lastHeaviest 9 = .ok (.if_icmp .ne 6, 3) := by decide +kernel
theorem dX4_lastHeaviest_12 : decode cX4_lastHeaviest 12 = .ok (.bipush (-9), 2) := by decide +kernel
theorem dX4_lastHeaviest_14 : decode cX4_lastHeaviest 14 = .ok (.ireturn, 1) := by decide +kernel
