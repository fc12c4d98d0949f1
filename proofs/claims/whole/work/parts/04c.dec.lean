theorem dX4_lastHeaviest_15 : decode cX4_lastHeaviest 15 = .ok (.aload_n 0, 1) := by decide +kernel
theorem dX4_lastHeaviest_16 : decode cX4_lastHeaviest 16 = .ok (.iload_n 1, 1) := by decide +kernel
theorem dX4_lastHeaviest_17 : decode cX4_lastHeaviest 17 = .ok (.iload_n 2, 1) := by decide +kernel
theorem dX4_lastHeaviest_18 : decode cX4_lastHeaviest 18 = .ok (.invokevirtual 38, 3) := by decide +kernel
theorem dX4_lastHeaviest_21 : decode cX4_lastHeaviest 21 = .ok (.istore_n 3, 1) := by decide +kernel
theorem dX4_lastHeaviest_22 : decode cX4_lastHeaviest 22 = .ok (.sipush 30000, 3) := by decide +kernel
theorem dX4_lastHeaviest_25 : decode cX4_lastHeaviest 25 = .ok (.istore 4, 2) := by decide +kernel
theorem dX4_lastHeaviest_27 : decode cX4_lastHeaviest 27 = .ok (.iconst 0, 1) := by decide +kernel
theorem dX4_lastHeaviest_28 : decode cX4_lastHeaviest 28 = .ok (.istore 5, 2) := by decide +kernel
theorem dX4_lastHeaviest_30 : decode cX4_lastHeaviest 30 = .ok (.iload 5, 2) := by decide +kernel
theorem dX4_lastHeaviest_32 : decode cX4_lastHeaviest 32 = .ok (.aload_n 0, 1) := by decide +kernel
theorem dX4_lastHeaviest_33 : decode cX4_lastHeaviest 33 = .ok (.getfield 17, 3) := by decide +kernel
theorem dX4_lastHeaviest_36 : decode cX4_lastHeaviest 36 = .ok (.if_icmp .ge 77, 3) := by decide +kernel
theorem dX4_lastHeaviest_39 : decode cX4_lastHeaviest 39 = .ok (.aload_n 0, 1) := by decide +kernel
theorem dX4_lastHeaviest_40 : decode cX4_lastHeaviest 40 = .ok (.getfield 13, 3) := by decide +kernel
theorem dX4_lastHeaviest_43 : decode cX4_lastHeaviest 43 = .ok (.iload 5, 2) := by decide +kernel
theorem dX4_lastHeaviest_45 : decode cX4_lastHeaviest 45 = .ok (.aaload, 1) := by decide +kernel
theorem dX4_lastHeaviest_46 : decode cX4_lastHeaviest 46 = .ok (.getfield 32, 3) := by decide +kernel
theorem dX4_lastHeaviest_49 : decode cX4_lastHeaviest 49 = .ok (.istore 6, 2) := by decide +kernel
theorem dX4_lastHeaviest_51 : decode cX4_lastHeaviest 51 = .ok (.aload_n 0, 1) := by decide +kernel
theorem dX4_lastHeaviest_52 : decode cX4_lastHeaviest 52 = .ok (.getfield 13, 3) := by decide +kernel
theorem dX4_lastHeaviest_55 : decode cX4_lastHeaviest 55 = .ok (.iload 5, 2) := by decide +kernel
theorem dX4_lastHeaviest_57 : decode cX4_lastHeaviest 57 = .ok (.aaload, 1) := by decide +kernel
theorem dX4_lastHeaviest_58 : decode cX4_lastHeaviest 58 = .ok (.iload_n 1, 1) := by decide +kernel
theorem dX4_lastHeaviest_59 : decode cX4_lastHeaviest 59 = .ok (.invokevirtual 25, 3) := by decide +kernel
theorem dX4_lastHeaviest_62 : decode cX4_lastHeaviest 62 = .ok (.ifCond .eq 20, 3) := by decide +kernel
theorem dX4_lastHeaviest_65 : decode cX4_lastHeaviest 65 = .ok (.iload 6, 2) := by decide +kernel
theorem dX4_lastHeaviest_67 : decode cX4_lastHeaviest 67 = .ok (.iload_n 2, 1) := by decide +kernel
theorem dX4_lastHeaviest_68 : decode cX4_lastHeaviest 68 = .ok (.if_icmp .lt 14, 3) := by decide +kernel
theorem dX4_lastHeaviest_71 : decode cX4_lastHeaviest 71 = .ok (.iload 6, 2) := by decide +kernel
theorem dX4_lastHeaviest_73 : decode cX4_lastHeaviest 73 = .ok (.iload 4, 2) := by decide +kernel
theorem dX4_lastHeaviest_75 : decode cX4_lastHeaviest 75 = .ok (.if_icmp .ge 7, 3) := by decide +kernel
theorem dX4_lastHeaviest_78 : decode cX4_lastHeaviest 78 = .ok (.iconst 1, 1) := by decide +kernel
theorem dX4_lastHeaviest_79 : decode cX4_lastHeaviest 79 = .ok (.goto 4, 3) := by decide +kernel
theorem dX4_lastHeaviest_82 : decode cX4_lastHeaviest 82 = .ok (.iconst 0, 1) := by decide +kernel
theorem dX4_lastHeaviest_83 : decode cX4_lastHeaviest 83 = .ok (.istore 7, 2) := by decide +kernel
theorem dX4_lastHeaviest_85 : decode cX4_lastHeaviest 85 = .ok (.iload 7, 2) := by decide +kernel
theorem dX4_lastHeaviest_87 : decode cX4_lastHeaviest 87 = .ok (.ifCond .eq 20, 3) := by decide +kernel
theorem dX4_lastHeaviest_90 : decode cX4_lastHeaviest 90 = .ok (.aload_n 0, 1) := by decide +kernel
theorem dX4_lastHeaviest_91 : decode cX4_lastHeaviest 91 = .ok (.iload_n 1, 1) := by decide +kernel
theorem dX4_lastHeaviest_92 : decode cX4_lastHeaviest 92 = .ok (.iload 6, 2) := by decide +kernel
theorem dX4_lastHeaviest_94 : decode cX4_lastHeaviest 94 = .ok (.iconst 1, 1) := by decide +kernel
theorem dX4_lastHeaviest_95 : decode cX4_lastHeaviest 95 = .ok (.iadd, 1) := by decide +kernel
theorem dX4_lastHeaviest_96 : decode cX4_lastHeaviest 96 = .ok (.invokevirtual 38, 3) := by decide +kernel
theorem dX4_lastHeaviest_99 : decode cX4_lastHeaviest 99 = .ok (.iload_n 3, 1) := by decide +kernel
theorem dX4_lastHeaviest_100 : decode cX4_lastHeaviest 100 = .ok (.if_icmp .eq 7, 3) := by decide +kernel
theorem dX4_lastHeaviest_103 : decode cX4_lastHeaviest 103 = .ok (.iload 6, 2) := by decide +kernel
theorem dX4_lastHeaviest_105 : decode cX4_lastHeaviest 105 = .ok (.istore 4, 2) := by decide +kernel
theorem dX4_lastHeaviest_107 : decode cX4_lastHeaviest 107 = .ok (.iinc 5 1, 3) := by decide +kernel
theorem dX4_lastHeaviest_110 : decode cX4_lastHeaviest 110 = .ok (.goto (-80), 3) := by decide +kernel
theorem dX4_lastHeaviest_113 : decode cX4_lastHeaviest 113 = .ok (.iload 4, 2) := by decide +kernel
theorem dX4_lastHeaviest_115 : decode cX4_lastHeaviest 115 = .ok (.ireturn, 1) := by decide +kernel
theorem dX4_pairsApart_0 : decode cX4_pairsApart 0 = .ok (.iconst 0, 1) := by decide +kernel
theorem dX4_pairsApart_1 : decode cX4_pairsApart 1 = .ok (.istore_n 2, 1) := by decide +kernel
theorem dX4_pairsApart_2 : decode cX4_pairsApart 2 = .ok (.iconst 0, 1) := by decide +kernel
theorem dX4_pairsApart_3 : decode cX4_pairsApart 3 = .ok (.istore_n 3, 1) := by decide +kernel
theorem dX4_pairsApart_4 : decode cX4_pairsApart 4 = .ok (.iload_n 3, 1) := by decide +kernel
theorem dX4_pairsApart_5 : decode cX4_pairsApart 5 = .ok (.aload_n 0, 1) := by decide +kernel
theorem dX4_pairsApart_6 : decode cX4_pairsApart 6 = .ok (.getfield 17, 3) := by decide +kernel
theorem dX4_pairsApart_9 : decode cX4_pairsApart 9 = .ok (.if_icmp .ge 73, 3) := by decide +kernel
theorem dX4_pairsApart_12 : decode cX4_pairsApart 12 = .ok (.iconst 0, 1) := by decide +kernel
theorem dX4_pairsApart_13 : decode cX4_pairsApart 13 = .ok (.istore 4, 2) := by decide +kernel
theorem dX4_pairsApart_15 : decode cX4_pairsApart 15 = .ok (.iload 4, 2) := by decide +kernel
theorem dX4_pairsApart_17 : decode cX4_pairsApart 17 = .ok (.iload_n 3, 1) := by decide +kernel
theorem dX4_pairsApart_18 : decode cX4_pairsApart 18 = .ok (.if_icmp .ge 58, 3) := by decide +kernel
theorem dX4_pairsApart_21 : decode cX4_pairsApart 21 = .ok (.aload_n 0, 1) := by decide +kernel
theorem dX4_pairsApart_22 : decode cX4_pairsApart 22 = .ok (.getfield 13, 3) := by decide +kernel
theorem dX4_pairsApart_25 : decode cX4_pairsApart 25 = .ok (.iload_n 3, 1) := by decide +kernel
theorem dX4_pairsApart_26 : decode cX4_pairsApart 26 = .ok (.aaload, 1) := by decide +kernel
theorem dX4_pairsApart_27 : decode cX4_pairsApart 27 = .ok (.iload_n 1, 1) := by decide +kernel
theorem dX4_pairsApart_28 : decode cX4_pairsApart 28 = .ok (.invokevirtual 25, 3) := by decide +kernel
theorem dX4_pairsApart_31 : decode cX4_pairsApart 31 = .ok (.ifCond .eq 45, 3) := by decide +kernel
theorem dX4_pairsApart_34 : decode cX4_pairsApart 34 = .ok (.aload_n 0, 1) := by decide +kernel
theorem dX4_pairsApart_35 : decode cX4_pairsApart 35 = .ok (.getfield 13, 3) := by decide +kernel
theorem dX4_pairsApart_38 : decode cX4_pairsApart 38 = .ok (.iload 4, 2) := by decide +kernel
theorem dX4_pairsApart_40 : decode cX4_pairsApart 40 = .ok (.aaload, 1) := by decide +kernel
theorem dX4_pairsApart_41 : decode cX4_pairsApart 41 = .ok (.iload_n 1, 1) := by decide +kernel
theorem dX4_pairsApart_42 : decode cX4_pairsApart 42 = .ok (.invokevirtual 25, 3) := by decide +kernel
theorem dX4_pairsApart_45 : decode cX4_pairsApart 45 = .ok (.ifCond .eq 25, 3) := by decide +kernel
theorem dX4_pairsApart_48 : decode cX4_pairsApart 48 = .ok (.aload_n 0, 1) := by decide +kernel
theorem dX4_pairsApart_49 : decode cX4_pairsApart 49 = .ok (.getfield 13, 3) := by decide +kernel
theorem dX4_pairsApart_52 : decode cX4_pairsApart 52 = .ok (.iload_n 3, 1) := by decide +kernel
theorem dX4_pairsApart_53 : decode cX4_pairsApart 53 = .ok (.aaload, 1) := by decide +kernel
theorem dX4_pairsApart_54 : decode cX4_pairsApart 54 = .ok (.aload_n 0, 1) := by decide +kernel
theorem dX4_pairsApart_55 : decode cX4_pairsApart 55 = .ok (.getfield 13, 3) := by decide +kernel
theorem dX4_pairsApart_58 : decode cX4_pairsApart 58 = .ok (.iload 4, 2) := by decide +kernel
theorem dX4_pairsApart_60 : decode cX4_pairsApart 60 = .ok (.aaload, 1) := by decide +kernel
theorem dX4_pairsApart_61 : decode cX4_pairsApart 61 = .ok (.invokevirtual 46, 3) := by decide +kernel
theorem dX4_pairsApart_64 : decode cX4_pairsApart 64 = .ok (.ifCond .eq 6, 3) := by decide +kernel
theorem dX4_pairsApart_67 : decode cX4_pairsApart 67 = .ok (.iinc 2 1, 3) := by decide +kernel
theorem dX4_pairsApart_70 : decode cX4_pairsApart 70 = .ok (.iinc 4 1, 3) := by decide +kernel
theorem dX4_pairsApart_73 : decode cX4_pairsApart 73 = .ok (.goto (-58), 3) := by decide +kernel
theorem dX4_pairsApart_76 : decode cX4_pairsApart 76 = .ok (.iinc 3 1, 3) := by decide +kernel
theorem dX4_pairsApart_79 : decode cX4_pairsApart 79 = .ok (.goto (-75), 3) := by decide +kernel
theorem dX4_pairsApart_82 : decode cX4_pairsApart 82 = .ok (.iload_n 2, 1) := by decide +kernel
theorem dX4_pairsApart_83 : decode cX4_pairsApart 83 = .ok (.ireturn, 1) := by decide +kernel
theorem dX5_init_0 : decode cX5_init 0 = .ok (.aload_n 0, 1) := by decide +kernel
theorem dX5_init_1 : decode cX5_init 1 = .ok (.invokespecial 3, 3) := by decide +kernel
theorem dX5_init_4 : decode cX5_init 4 = .ok (.aload_n 0, 1) := by decide +kernel
theorem dX5_init_5 : decode cX5_init 5 = .ok (.iload_n 1, 1) := by decide +kernel
theorem dX5_init_6 : decode cX5_init 6 = .ok (.putfield 9, 3) := by decide +kernel
theorem dX5_init_9 : decode cX5_init 9 = .ok (.aload_n 0, 1) := by decide +kernel
theorem dX5_init_10 : decode cX5_init 10 = .ok (.iload_n 2, 1) := by decide +kernel
theorem dX5_init_11 : decode cX5_init 11 = .ok (.putfield 15, 3) := by decide +kernel
theorem dX5_init_14 : decode cX5_init 14 = .ok (.aload_n 0, 1) := by decide +kernel
theorem dX5_init_15 : decode cX5_init 15 = .ok (.iload_n 3, 1) := by decide +kernel
theorem dX5_init_16 : decode cX5_init 16 = .ok (.putfield 18, 3) := by decide +kernel
theorem dX5_init_19 : decode cX5_init 19 = .ok (.aload_n 0, 1) := by decide +kernel
theorem dX5_init_20 : decode cX5_init 20 = .ok (.iload 4, 2) := by decide +kernel
theorem dX5_init_22 : decode cX5_init 22 = .ok (.putfield 21, 3) := by decide +kernel
theorem dX5_init_25 : decode cX5_init 25 = .ok (.aload_n 0, 1) := by decide +kernel
theorem dX5_init_26 : decode cX5_init 26 = .ok (.iload 5, 2) := by decide +kernel
theorem dX5_init_28 : decode cX5_init 28 = .ok (.putfield 24, 3) := by decide +kernel
theorem dX5_init_31 : decode cX5_init 31 = .ok (.return_, 1) := by decide +kernel
theorem dX5_isFor_0 : decode cX5_isFor 0 = .ok (.aload_n 0, 1) := by decide +kernel
theorem dX5_isFor_1 : decode cX5_isFor 1 = .ok (.getfield 18, 3) := by decide +kernel
theorem dX5_isFor_4 : decode cX5_isFor 4 = .ok (.bipush (-9), 2) := by decide +kernel
theorem dX5_isFor_6 : decode cX5_isFor 6 = .ok (.if_icmp .eq 11, 3) := by decide +kernel
theorem dX5_isFor_9 : decode cX5_isFor 9 = .ok (.aload_n 0, 1) := by decide +kernel
theorem dX5_isFor_10 : decode cX5_isFor 10 = .ok (.getfield 18, 3) := by decide +kernel
theorem dX5_isFor_13 : decode cX5_isFor 13 = .ok (.iload_n 1, 1) := by decide +kernel
theorem dX5_isFor_14 : decode cX5_isFor 14 = .ok (.if_icmp .ne 7, 3) := by decide +kernel
theorem dX5_isFor_17 : decode cX5_isFor 17 = .ok (.iconst 1, 1) := by decide +kernel
theorem dX5_isFor_18 : decode cX5_isFor 18 = .ok (.goto 4, 3) := by decide +kernel
theorem dX5_isFor_21 : decode cX5_isFor 21 = .ok (.iconst 0, 1) := by decide +kernel
theorem dX5_isFor_22 : decode cX5_isFor 22 = .ok (.ireturn, 1) := by decide +kernel
theorem dX5_letAfter_0 : decode cX5_letAfter 0 = .ok (.aload_n 0, 1) := by decide +kernel
theorem dX5_letAfter_1 : decode cX5_letAfter 1 = .ok (.getfield 24, 3) := by decide +kernel
theorem dX5_letAfter_4 : decode cX5_letAfter 4 = .ok (.ifCond .eq 12, 3) := by decide +kernel
theorem dX5_letAfter_7 : decode cX5_letAfter 7 = .ok (.iload_n 1, 1) := by decide +kernel
theorem dX5_letAfter_8 : decode cX5_letAfter 8 = .ok (.aload_n 0, 1) := by decide +kernel
theorem dX5_letAfter_9 : decode cX5_letAfter 9 = .ok (.getfield 15, 3) := by decide +kernel
theorem dX5_letAfter_12 : decode cX5_letAfter 12 = .ok (.ior, 1) := by decide +kernel
theorem dX5_letAfter_13 : decode cX5_letAfter 13 = .ok (.goto 11, 3) := by decide +kernel
theorem dX5_letAfter_16 : decode cX5_letAfter 16 = .ok (.iload_n 1, 1) := by decide +kernel
theorem dX5_letAfter_17 : decode cX5_letAfter 17 = .ok (.aload_n 0, 1) := by decide +kernel
theorem dX5_letAfter_18 : decode cX5_letAfter 18 = .ok (.getfield 15, 3) := by decide +kernel
theorem dX5_letAfter_21 : decode cX5_letAfter 21 = .ok (.iconst (-1), 1) := by decide +kernel
theorem dX5_letAfter_22 : decode cX5_letAfter 22 = .ok (.ixor, 1) := by decide +kernel
theorem dX5_letAfter_23 : decode cX5_letAfter 23 = .ok (.iand, 1) := by decide +kernel
theorem dX5_letAfter_24 : decode cX5_letAfter 24 = .ok (.ireturn, 1) := by decide +kernel
theorem dX6_init_0 : decode cX6_init 0 = .ok (.aload_n 0, 1) := by decide +kernel
theorem dX6_init_1 : decode cX6_init 1 = .ok (.invokespecial 3, 3) := by decide +kernel
theorem dX6_init_4 : decode cX6_init 4 = .ok (.aload_n 0, 1) := by decide +kernel
theorem dX6_init_5 : decode cX6_init 5 = .ok (.bipush 60, 2) := by decide +kernel
theorem dX6_init_7 : decode cX6_init 7 = .ok (.anewarray 11, 3) := by decide +kernel
theorem dX6_init_10 : decode cX6_init 10 = .ok (.putfield 13, 3) := by decide +kernel
theorem dX6_init_13 : decode cX6_init 13 = .ok (.aload_n 0, 1) := by decide +kernel
theorem dX6_init_14 : decode cX6_init 14 = .ok (.iconst 0, 1) := by decide +kernel
theorem dX6_init_15 : decode cX6_init 15 = .ok (.putfield 17, 3) := by decide +kernel
theorem dX6_init_18 : decode cX6_init 18 = .ok (.return_, 1) := by decide +kernel
theorem dX6_isFull_0 : decode cX6_isFull 0 = .ok (.aload_n 0, 1) := by decide +kernel
theorem dX6_isFull_1 : decode cX6_isFull 1 = .ok (.getfield 17, 3) := by decide +kernel
theorem dX6_isFull_4 : decode cX6_isFull 4 = .ok (.bipush 60, 2) := by decide +kernel
theorem dX6_isFull_6 : decode cX6_isFull 6 = .ok (.if_icmp .lt 7, 3) := by decide +kernel
theorem dX6_isFull_9 : decode cX6_isFull 9 = .ok (.iconst 1, 1) := by decide +kernel
theorem dX6_isFull_10 : decode cX6_isFull 10 = .ok (.goto 4, 3) := by decide +kernel
theorem dX6_isFull_13 : decode cX6_isFull 13 = .ok (.iconst 0, 1) := by decide +kernel
theorem dX6_isFull_14 : decode cX6_isFull 14 = .ok (.ireturn, 1) := by decide +kernel
theorem dX6_add_0 : decode cX6_add 0 = .ok (.aload_n 0, 1) := by decide +kernel
theorem dX6_add_1 : decode cX6_add 1 = .ok (.getfield 17, 3) := by decide +kernel
theorem dX6_add_4 : decode cX6_add 4 = .ok (.istore 5, 2) := by decide +kernel
theorem dX6_add_6 : decode cX6_add 6 = .ok (.iload 5, 2) := by decide +kernel
theorem dX6_add_8 : decode cX6_add 8 = .ok (.ifCond .le 41, 3) := by decide +kernel
theorem dX6_add_11 : decode cX6_add 11 = .ok (.aload_n 0, 1) := by decide +kernel
theorem dX6_add_12 : decode cX6_add 12 = .ok (.getfield 13, 3) := by decide +kernel
theorem dX6_add_15 : decode cX6_add 15 = .ok (.iload 5, 2) := by decide +kernel
theorem dX6_add_17 : decode cX6_add 17 = .ok (.iconst 1, 1) := by decide +kernel
theorem dX6_add_18 : decode cX6_add 18 = .ok (.isub, 1) := by decide +kernel
theorem dX6_add_19 : decode cX6_add 19 = .ok (.aaload, 1) := by decide +kernel
theorem dX6_add_20 : decode cX6_add 20 = .ok (.getfield 21, 3) := by decide +kernel
theorem dX6_add_23 : decode cX6_add 23 = .ok (.iload_n 3, 1) := by decide +kernel
theorem dX6_add_24 : decode cX6_add 24 = .ok (.if_icmp .le 25, 3) := by decide +kernel
theorem dX6_add_27 : decode cX6_add 27 = .ok (.aload_n 0, 1) := by decide +kernel
theorem dX6_add_28 : decode cX6_add 28 = .ok (.getfield 13, 3) := by decide +kernel
theorem dX6_add_31 : decode cX6_add 31 = .ok (.iload 5, 2) := by decide +kernel
theorem dX6_add_33 : decode cX6_add 33 = .ok (.aload_n 0, 1) := by decide +kernel
theorem dX6_add_34 : decode cX6_add 34 = .ok (.getfield 13, 3) := by decide +kernel
theorem dX6_add_37 : decode cX6_add 37 = .ok (.iload 5, 2) := by decide +kernel
theorem dX6_add_39 : decode cX6_add 39 = .ok (.iconst 1, 1) := by decide +kernel
theorem dX6_add_40 : decode cX6_add 40 = .ok (.isub, 1) := by decide +kernel
theorem dX6_add_41 : decode cX6_add 41 = .ok (.aaload, 1) := by decide +kernel
theorem dX6_add_42 : decode cX6_add 42 = .ok (.aastore, 1) := by decide +kernel
theorem dX6_add_43 : decode cX6_add 43 = .ok (.iinc 5 (-1), 3) := by decide +kernel
theorem dX6_add_46 : decode cX6_add 46 = .ok (.goto (-40), 3) := by decide +kernel
theorem dX6_add_49 : decode cX6_add 49 = .ok (.aload_n 0, 1) := by decide +kernel
theorem dX6_add_50 : decode cX6_add 50 = .ok (.getfield 13, 3) := by decide +kernel
theorem dX6_add_53 : decode cX6_add 53 = .ok (.iload 5, 2) := by decide +kernel
theorem dX6_add_55 : decode cX6_add 55 = .ok (.new 11, 3) := by decide +kernel
theorem dX6_add_58 : decode cX6_add 58 = .ok (.dup, 1) := by decide +kernel
theorem dX6_add_59 : decode cX6_add 59 = .ok (.aload_n 0, 1) := by decide +kernel
theorem dX6_add_60 : decode cX6_add 60 = .ok (.getfield 17, 3) := by decide +kernel
theorem dX6_add_63 : decode cX6_add 63 = .ok (.iload_n 1, 1) := by decide +kernel
theorem dX6_add_64 : decode cX6_add 64 = .ok (.iload_n 2, 1) := by decide +kernel
theorem dX6_add_65 : decode cX6_add 65 = .ok (.iload_n 3, 1) := by decide +kernel
theorem dX6_add_66 : decode cX6_add 66 = .ok (.iload 4, 2) := by decide +kernel
theorem dX6_add_68 : decode cX6_add 68 = .ok (.invokespecial 24, 3) := by decide +kernel
theorem dX6_add_71 : decode cX6_add 71 = .ok (.aastore, 1) := by decide +kernel
theorem dX6_add_72 : decode cX6_add 72 = .ok (.aload_n 0, 1) := by decide +kernel
theorem dX6_add_73 : decode cX6_add 73 = .ok (.dup, 1) := by decide +kernel
theorem dX6_add_74 : decode cX6_add 74 = .ok (.getfield 17, 3) := by decide +kernel
theorem dX6_add_77 : decode cX6_add 77 = .ok (.iconst 1, 1) := by decide +kernel
theorem dX6_add_78 : decode cX6_add 78 = .ok (.iadd, 1) := by decide +kernel
theorem dX6_add_79 : decode cX6_add 79 = .ok (.putfield 17, 3) := by decide +kernel
theorem dX6_add_82 : decode cX6_add 82 = .ok (.aload_n 0, 1) := by decide +kernel
theorem dX6_add_83 : decode cX6_add 83 = .ok (.getfield 17, 3) := by decide +kernel
theorem dX6_add_86 : decode cX6_add 86 = .ok (.iconst 1, 1) := by decide +kernel
theorem dX6_add_87 : decode cX6_add 87 = .ok (.isub, 1) := by decide +kernel
theorem dX6_add_88 : decode cX6_add 88 = .ok (.ireturn, 1) := by decide +kernel
theorem dX6_latestFor_0 : decode cX6_latestFor 0 = .ok (.bipush (-9), 2) := by decide +kernel
theorem dX6_latestFor_2 : decode cX6_latestFor 2 = .ok (.istore 4, 2) := by decide +kernel
theorem dX6_latestFor_4 : decode cX6_latestFor 4 = .ok (.iconst 0, 1) := by decide +kernel
theorem dX6_latestFor_5 : decode cX6_latestFor 5 = .ok (.istore 5, 2) := by decide +kernel
theorem dX6_latestFor_7 : decode cX6_latestFor 7 = .ok (.iload 5, 2) := by decide +kernel
theorem dX6_latestFor_9 : decode cX6_latestFor 9 = .ok (.aload_n 0, 1) := by decide +kernel
theorem dX6_latestFor_10 : decode cX6_latestFor 10 = .ok (.getfield 17, 3) := by decide +kernel
theorem dX6_latestFor_13 : decode cX6_latestFor 13 = .ok (.if_icmp .ge 64, 3) := by decide +kernel
theorem dX6_latestFor_16 : decode cX6_latestFor 16 = .ok (.aload_n 0, 1) := by decide +kernel
theorem dX6_latestFor_17 : decode cX6_latestFor 17 = .ok (.getfield 13, 3) := by decide +kernel
theorem dX6_latestFor_20 : decode cX6_latestFor 20 = .ok (.iload 5, 2) := by decide +kernel
theorem dX6_latestFor_22 : decode cX6_latestFor 22 = .ok (.aaload, 1) := by decide +kernel
theorem dX6_latestFor_23 : decode cX6_latestFor 23 = .ok (.getfield 21, 3) := by decide +kernel
theorem dX6_latestFor_26 : decode cX6_latestFor 26 = .ok (.iload_n 3, 1) := by decide +kernel
theorem dX6_latestFor_27 : decode cX6_latestFor 27 = .ok (.if_icmp .gt 50, 3) := by decide +kernel
theorem dX6_latestFor_30 : decode cX6_latestFor 30 = .ok (.aload_n 0, 1) := by decide +kernel
theorem dX6_latestFor_31 : decode cX6_latestFor 31 = .ok (.getfield 13, 3) := by decide +kernel
theorem dX6_latestFor_34 : decode cX6_latestFor 34 = .ok (.iload 5, 2) := by decide +kernel
theorem dX6_latestFor_36 : decode cX6_latestFor 36 = .ok (.aaload, 1) := by decide +kernel
theorem dX6_latestFor_37 : decode cX6_latestFor 37 = .ok (.getfield 27, 3) := by decide +kernel
theorem dX6_latestFor_40 : decode cX6_latestFor 40 = .ok (.iload_n 1, 1) := by decide +kernel
theorem dX6_latestFor_41 : decode cX6_latestFor 41 = .ok (.iand, 1) := by decide +kernel
theorem dX6_latestFor_42 : decode cX6_latestFor 42 = .ok (.ifCond .eq 29, 3) := by decide +kernel
theorem dX6_latestFor_45 : decode cX6_latestFor 45 = .ok (.aload_n 0, 1) := by decide +kernel
theorem dX6_latestFor_46 : decode cX6_latestFor 46 = .ok (.getfield 13, 3) := by decide +kernel
theorem dX6_latestFor_49 : decode cX6_latestFor 49 = .ok (.iload 5, 2) := by decide +kernel
theorem dX6_latestFor_51 : decode cX6_latestFor 51 = .ok (.aaload, 1) := by decide +kernel
theorem dX6_latestFor_52 : decode cX6_latestFor 52 = .ok (.iload_n 2, 1) := by decide +kernel
theorem dX6_latestFor_53 : decode cX6_latestFor 53 = .ok (.invokevirtual 30, 3) := by decide +kernel
theorem dX6_latestFor_56 : decode cX6_latestFor 56 = .ok (.ifCond .eq 15, 3) := by decide +kernel
theorem dX6_latestFor_59 : decode cX6_latestFor 59 = .ok (.aload_n 0, 1) := by decide +kernel
theorem dX6_latestFor_60 : decode cX6_latestFor 60 = .ok (.getfield 13, 3) := by decide +kernel
theorem dX6_latestFor_63 : decode cX6_latestFor 63 = .ok (.iload 5, 2) := by decide +kernel
theorem dX6_latestFor_65 : decode cX6_latestFor 65 = .ok (.aaload, 1) := by decide +kernel
theorem dX6_latestFor_66 : decode cX6_latestFor 66 = .ok (.getfield 34, 3) := by decide +kernel
theorem dX6_latestFor_69 : decode cX6_latestFor 69 = .ok (.istore 4, 2) := by decide +kernel
theorem dX6_latestFor_71 : decode cX6_latestFor 71 = .ok (.iinc 5 1, 3) := by decide +kernel
theorem dX6_latestFor_74 : decode cX6_latestFor 74 = .ok (.goto (-67), 3) := by decide +kernel
theorem dX6_latestFor_77 : decode cX6_latestFor 77 = .ok (.iload 4, 2) := by decide +kernel
theorem dX6_latestFor_79 : decode cX6_latestFor 79 = .ok (.ireturn, 1) := by decide +kernel
theorem dX6_letOn_0 : decode cX6_letOn 0 = .ok (.iconst 0, 1) := by decide +kernel
theorem dX6_letOn_1 : decode cX6_letOn 1 = .ok (.istore_n 3, 1) := by decide +kernel
theorem dX6_letOn_2 : decode cX6_letOn 2 = .ok (.iconst 0, 1) := by decide +kernel
theorem dX6_letOn_3 : decode cX6_letOn 3 = .ok (.istore 4, 2) := by decide +kernel
theorem dX6_letOn_5 : decode cX6_letOn 5 = .ok (.iload 4, 2) := by decide +kernel
theorem dX6_letOn_7 : decode cX6_letOn 7 = .ok (.aload_n 0, 1) := by decide +kernel
theorem dX6_letOn_8 : decode cX6_letOn 8 = .ok (.getfield 17, 3) := by decide +kernel
theorem dX6_letOn_11 : decode cX6_letOn 11 = .ok (.if_icmp .ge 49, 3) := by decide +kernel
theorem dX6_letOn_14 : decode cX6_letOn 14 = .ok (.aload_n 0, 1) := by decide +kernel
theorem dX6_letOn_15 : decode cX6_letOn 15 = .ok (.getfield 13, 3) := by decide +kernel
theorem dX6_letOn_18 : decode cX6_letOn 18 = .ok (.iload 4, 2) := by decide +kernel
theorem dX6_letOn_20 : decode cX6_letOn 20 = .ok (.aaload, 1) := by decide +kernel
theorem dX6_letOn_21 : decode cX6_letOn 21 = .ok (.getfield 21, 3) := by decide +kernel
theorem dX6_letOn_24 : decode cX6_letOn 24 = .ok (.iload_n 2, 1) := by decide +kernel
theorem dX6_letOn_25 : decode cX6_letOn 25 = .ok (.if_icmp .gt 35, 3) := by decide +kernel
theorem dX6_letOn_28 : decode cX6_letOn 28 = .ok (.aload_n 0, 1) := by decide +kernel
theorem dX6_letOn_29 : decode cX6_letOn 29 = .ok (.getfield 13, 3) := by decide +kernel
theorem dX6_letOn_32 : decode cX6_letOn 32 = .ok (.iload 4, 2) := by decide +kernel
theorem dX6_letOn_34 : decode cX6_letOn 34 = .ok (.aaload, 1) := by decide +kernel
theorem dX6_letOn_35 : decode cX6_letOn 35 = .ok (.iload_n 1, 1) := by decide +kernel
theorem dX6_letOn_36 : decode cX6_letOn 36 = .ok (.invokevirtual 30, 3) := by decide +kernel
theorem dX6_letOn_39 : decode cX6_letOn 39 = .ok (.ifCond .eq 15, 3) := by decide +kernel
theorem dX6_letOn_42 : decode cX6_letOn 42 = .ok (.aload_n 0, 1) := by decide +kernel
theorem dX6_letOn_43 : decode cX6_letOn 43 = .ok (.getfield 13, 3) := by decide +kernel
theorem dX6_letOn_46 : decode cX6_letOn 46 = .ok (.iload 4, 2) := by decide +kernel
theorem dX6_letOn_48 : decode cX6_letOn 48 = .ok (.aaload, 1) := by decide +kernel
theorem dX6_letOn_49 : decode cX6_letOn 49 = .ok (.iload_n 3, 1) := by decide +kernel
theorem dX6_letOn_50 : decode cX6_letOn 50 = .ok (.invokevirtual 37, 3) := by decide +kernel
theorem dX6_letOn_53 : decode cX6_letOn 53 = .ok (.istore_n 3, 1) := by decide +kernel
theorem dX6_letOn_54 : decode cX6_letOn 54 = .ok (.iinc 4 1, 3) := by decide +kernel
theorem dX6_letOn_57 : decode cX6_letOn 57 = .ok (.goto (-52), 3) := by decide +kernel
theorem dX6_letOn_60 : decode cX6_letOn 60 = .ok (.iload_n 3, 1) := by decide +kernel
theorem dX6_letOn_61 : decode cX6_letOn 61 = .ok (.ireturn, 1) := by decide +kernel
theorem dX6_daysThatLet_0 : decode cX6_daysThatLet 0 = .ok (.iconst 0, 1) := by decide +kernel
theorem dX6_daysThatLet_1 : decode cX6_daysThatLet 1 = .ok (.istore 5, 2) := by decide +kernel
theorem dX6_daysThatLet_3 : decode cX6_daysThatLet 3 = .ok (.iload_n 3, 1) := by decide +kernel
theorem dX6_daysThatLet_4 : decode cX6_daysThatLet 4 = .ok (.istore 6, 2) := by decide +kernel
theorem dX6_daysThatLet_6 : decode cX6_daysThatLet 6 = .ok (.iconst 0, 1) := by decide +kernel
theorem dX6_daysThatLet_7 : decode cX6_daysThatLet 7 = .ok (.istore 7, 2) := by decide +kernel
theorem dX6_daysThatLet_9 : decode cX6_daysThatLet 9 = .ok (.iconst 0, 1) := by decide +kernel
theorem dX6_daysThatLet_10 : decode cX6_daysThatLet 10 = .ok (.istore 8, 2) := by decide +kernel
theorem dX6_daysThatLet_12 : decode cX6_daysThatLet 12 = .ok (.iload 8, 2) := by decide +kernel
theorem dX6_daysThatLet_14 : decode cX6_daysThatLet 14 = .ok (.aload_n 0, 1) := by decide +kernel
theorem dX6_daysThatLet_15 : decode cX6_daysThatLet 15 = .ok (.getfield 17, 3) := by decide +kernel
theorem dX6_daysThatLet_18 : decode cX6_daysThatLet 18 = .ok (.if_icmp .ge 94, 3) := by decide +kernel
theorem dX6_daysThatLet_21 : decode cX6_daysThatLet 21 = .ok (.aload_n 0, 1) := by decide +kernel
theorem dX6_daysThatLet_22 : decode cX6_daysThatLet 22 = .ok (.getfield 13, 3) := by decide +kernel
theorem dX6_daysThatLet_25 : decode cX6_daysThatLet 25 = .ok (.iload 8, 2) := by decide +kernel
theorem dX6_daysThatLet_27 : decode cX6_daysThatLet 27 = .ok (.aaload, 1) := by decide +kernel
theorem dX6_daysThatLet_28 : decode cX6_daysThatLet 28 = .ok (.getfield 21, 3) := by decide +kernel
theorem dX6_daysThatLet_31 : decode cX6_daysThatLet 31 = .ok (.iload 4, 2) := by decide +kernel
theorem dX6_daysThatLet_33 : decode cX6_daysThatLet 33 = .ok (.if_icmp .gt 79, 3) := by decide +kernel
theorem dX6_daysThatLet_36 : decode cX6_daysThatLet 36 = .ok (.aload_n 0, 1) := by decide +kernel
theorem dX6_daysThatLet_37 : decode cX6_daysThatLet 37 = .ok (.getfield 13, 3) := by decide +kernel
theorem dX6_daysThatLet_40 : decode cX6_daysThatLet 40 = .ok (.iload 8, 2) := by decide +kernel
theorem dX6_daysThatLet_42 : decode cX6_daysThatLet 42 = .ok (.aaload, 1) := by decide +kernel
theorem dX6_daysThatLet_43 : decode cX6_daysThatLet 43 = .ok (.astore 9, 2) := by decide +kernel
theorem dX6_daysThatLet_45 : decode cX6_daysThatLet 45 = .ok (.aload 9, 2) := by decide +kernel
theorem dX6_daysThatLet_47 : decode cX6_daysThatLet 47 = .ok (.getfield 21, 3) := by decide +kernel
theorem dX6_daysThatLet_50 : decode cX6_daysThatLet 50 = .ok (.iload 6, 2) := by decide +kernel
theorem dX6_daysThatLet_52 : decode cX6_daysThatLet 52 = .ok (.if_icmp .le 36, 3) := by decide +kernel
theorem dX6_daysThatLet_55 : decode cX6_daysThatLet 55 = .ok (.iload 7, 2) := by decide +kernel
theorem dX6_daysThatLet_57 : decode cX6_daysThatLet 57 = .ok (.iload_n 1, 1) := by decide +kernel
theorem dX6_daysThatLet_58 : decode cX6_daysThatLet 58 = .ok (.iload 5, 2) := by decide +kernel
theorem dX6_daysThatLet_60 : decode cX6_daysThatLet 60 = .ok (.iconst (-1), 1) := by decide +kernel
theorem dX6_daysThatLet_61 : decode cX6_daysThatLet 61 = .ok (.ixor, 1) := by decide +kernel
theorem dX6_daysThatLet_62 : decode cX6_daysThatLet 62 = .ok (.iand, 1) := by decide +kernel
theorem dX6_daysThatLet_63 : decode cX6_daysThatLet 63 = .ok (.ifCond .ne 14, 3) := by decide +kernel
theorem dX6_daysThatLet_66 : decode cX6_daysThatLet 66 = .ok (.aload 9, 2) := by decide +kernel
theorem dX6_daysThatLet_68 : decode cX6_daysThatLet 68 = .ok (.getfield 21, 3) := by decide +kernel
theorem dX6_daysThatLet_71 : decode cX6_daysThatLet 71 = .ok (.iload 6, 2) := by decide +kernel
theorem dX6_daysThatLet_73 : decode cX6_daysThatLet 73 = .ok (.isub, 1) := by decide +kernel
theorem dX6_daysThatLet_74 : decode cX6_daysThatLet 74 = .ok (.goto 4, 3) := by decide +kernel
theorem dX6_daysThatLet_77 : decode cX6_daysThatLet 77 = .ok (.iconst 0, 1) := by decide +kernel
theorem dX6_daysThatLet_78 : decode cX6_daysThatLet 78 = .ok (.iadd, 1) := by decide +kernel
theorem dX6_daysThatLet_79 : decode cX6_daysThatLet 79 = .ok (.istore 7, 2) := by decide +kernel
theorem dX6_daysThatLet_81 : decode cX6_daysThatLet 81 = .ok (.aload 9, 2) := by decide +kernel
theorem dX6_daysThatLet_83 : decode cX6_daysThatLet 83 = .ok (.getfield 21, 3) := by decide +kernel
theorem dX6_daysThatLet_86 : decode cX6_daysThatLet 86 = .ok (.istore 6, 2) := by decide +kernel
theorem dX6_daysThatLet_88 : decode cX6_daysThatLet 88 = .ok (.aload 9, 2) := by decide +kernel
theorem dX6_daysThatLet_90 : decode cX6_daysThatLet 90 = .ok (.iload_n 2, 1) := by decide +kernel
theorem dX6_daysThatLet_91 : decode cX6_daysThatLet 91 = .ok (.invokevirtual 30, 3) := by decide +kernel
theorem dX6_daysThatLet_94 : decode cX6_daysThatLet 94 = .ok (.ifCond .eq 12, 3) := by decide +kernel
theorem dX6_daysThatLet_97 : decode cX6_daysThatLet 97 = .ok (.aload 9, 2) := by decide +kernel
theorem dX6_daysThatLet_99 : decode cX6_daysThatLet 99 = .ok (.iload 5, 2) := by decide +kernel
theorem dX6_daysThatLet_101 : decode cX6_daysThatLet 101 = .ok (.invokevirtual 37, 3) := by decide +kernel
theorem dX6_daysThatLet_104 : decode cX6_daysThatLet 104 = .ok (.istore 5, 2) := by decide +kernel
theorem dX6_daysThatLet_106 : decode cX6_daysThatLet 106 = .ok (.iinc 8 1, 3) := by decide +kernel
theorem dX6_daysThatLet_109 : decode cX6_daysThatLet 109 = .ok (.goto (-97), 3) := by decide +kernel
theorem dX6_daysThatLet_112 : decode cX6_daysThatLet 112 = .ok (.iload 7, 2) := by decide +kernel
theorem dX6_daysThatLet_114 : decode cX6_daysThatLet 114 = .ok (.iload_n 1, 1) := by decide +kernel
theorem dX6_daysThatLet_115 : decode cX6_daysThatLet 115 = .ok (.iload 5, 2) := by decide +kernel
theorem dX6_daysThatLet_117 : decode cX6_daysThatLet 117 = .ok (.iconst (-1), 1) := by decide +kernel
theorem dX6_daysThatLet_118 : decode cX6_daysThatLet 118 = .ok (.ixor, 1) := by decide +kernel
theorem dX6_daysThatLet_119 : decode cX6_daysThatLet 119 = .ok (.iand, 1) := by decide +kernel
theorem dX6_daysThatLet_120 : decode cX6_daysThatLet 120 = .ok (.ifCond .ne 13, 3) := by decide +kernel
theorem dX6_daysThatLet_123 : decode cX6_daysThatLet 123 = .ok (.iload 4, 2) := by decide +kernel
theorem dX6_daysThatLet_125 : decode cX6_daysThatLet 125 = .ok (.iload 6, 2) := by decide +kernel
theorem dX6_daysThatLet_127 : decode cX6_daysThatLet 127 = .ok (.isub, 1) := by decide +kernel
theorem dX6_daysThatLet_128 : decode cX6_daysThatLet 128 = .ok (.iconst 1, 1) := by decide +kernel
theorem dX6_daysThatLet_129 : decode cX6_daysThatLet 129 = .ok (.iadd, 1) := by decide +kernel
theorem dX6_daysThatLet_130 : decode cX6_daysThatLet 130 = .ok (.goto 4, 3) := by decide +kernel
theorem dX6_daysThatLet_133 : decode cX6_daysThatLet 133 = .ok (.iconst 0, 1) := by decide +kernel
theorem dX6_daysThatLet_134 : decode cX6_daysThatLet 134 = .ok (.iadd, 1) := by decide +kernel
theorem dX6_daysThatLet_135 : decode cX6_daysThatLet 135 = .ok (.ireturn, 1) := by decide +kernel
theorem dX7_init_0 : decode cX7_init 0 = .ok (.aload_n 0, 1) := by decide +kernel
theorem dX7_init_1 : decode cX7_init 1 = .ok (.invokespecial 1, 3) := by decide +kernel
theorem dX7_init_4 : decode cX7_init 4 = .ok (.aload_n 0, 1) := by decide +kernel
theorem dX7_init_5 : decode cX7_init 5 = .ok (.bipush 16, 2) := by decide +kernel
theorem dX7_init_7 : decode cX7_init 7 = .ok (.anewarray 9, 3) := by decide +kernel
theorem dX7_init_10 : decode cX7_init 10 = .ok (.putfield 11, 3) := by decide +kernel
theorem dX7_init_13 : decode cX7_init 13 = .ok (.aload_n 0, 1) := by decide +kernel
theorem dX7_init_14 : decode cX7_init 14 = .ok (.iconst 0, 1) := by decide +kernel
theorem dX7_init_15 : decode cX7_init 15 = .ok (.putfield 15, 3) := by decide +kernel
theorem dX7_init_18 : decode cX7_init 18 = .ok (.aload_n 0, 1) := by decide +kernel
theorem dX7_init_19 : decode cX7_init 19 = .ok (.iconst 0, 1) := by decide +kernel
theorem dX7_init_20 : decode cX7_init 20 = .ok (.putfield 19, 3) := by decide +kernel
theorem dX7_init_23 : decode cX7_init 23 = .ok (.aload_n 0, 1) := by decide +kernel
theorem dX7_init_24 : decode cX7_init 24 = .ok (.new 22, 3) := by decide +kernel
theorem dX7_init_27 : decode cX7_init 27 = .ok (.dup, 1) := by decide +kernel
theorem dX7_init_28 : decode cX7_init 28 = .ok (.invokespecial 24, 3) := by decide +kernel
theorem dX7_init_31 : decode cX7_init 31 = .ok (.putfield 25, 3) := by decide +kernel
theorem dX7_init_34 : decode cX7_init 34 = .ok (.aload_n 0, 1) := by decide +kernel
theorem dX7_init_35 : decode cX7_init 35 = .ok (.new 29, 3) := by decide +kernel
theorem dX7_init_38 : decode cX7_init 38 = .ok (.dup, 1) := by decide +kernel
theorem dX7_init_39 : decode cX7_init 39 = .ok (.invokespecial 31, 3) := by decide +kernel
theorem dX7_init_42 : decode cX7_init 42 = .ok (.putfield 32, 3) := by decide +kernel
theorem dX7_init_45 : decode cX7_init 45 = .ok (.aload_n 0, 1) := by decide +kernel
theorem dX7_init_46 : decode cX7_init 46 = .ok (.new 36, 3) := by decide +kernel
theorem dX7_init_49 : decode cX7_init 49 = .ok (.dup, 1) := by decide +kernel
theorem dX7_init_50 : decode cX7_init 50 = .ok (.invokespecial 38, 3) := by decide +kernel
theorem dX7_init_53 : decode cX7_init 53 = .ok (.putfield 39, 3) := by decide +kernel
theorem dX7_init_56 : decode cX7_init 56 = .ok (.aload_n 0, 1) := by decide +kernel
theorem dX7_init_57 : decode cX7_init 57 = .ok (.new 43, 3) := by decide +kernel
theorem dX7_init_60 : decode cX7_init 60 = .ok (.dup, 1) := by decide +kernel
theorem dX7_init_61 : decode cX7_init 61 = .ok (.invokespecial 45, 3) := by decide +kernel
theorem dX7_init_64 : decode cX7_init 64 = .ok (.putfield 46, 3) := by decide +kernel
theorem dX7_init_67 : decode cX7_init 67 = .ok (.return_, 1) := by decide +kernel
theorem dX7_side_0 : decode cX7_side 0 = .ok (.iload_n 1, 1) := by decide +kernel
theorem dX7_side_1 : decode cX7_side 1 = .ok (.iconst 0, 1) := by decide +kernel
theorem dX7_side_2 : decode cX7_side 2 = .ok (.sipush 1000, 3) := by decide +kernel
theorem dX7_side_5 : decode cX7_side 5 = .ok (.invokestatic 50, 3) := by decide +kernel
theorem dX7_side_8 : decode cX7_side 8 = .ok (.ifCond .eq 38, 3) := by decide +kernel
theorem dX7_side_11 : decode cX7_side 11 = .ok (.iload_n 2, 1) := by decide +kernel
theorem dX7_side_12 : decode cX7_side 12 = .ok (.iconst 0, 1) := by decide +kernel
theorem dX7_side_13 : decode cX7_side 13 = .ok (.bipush 100, 2) := by decide +kernel
theorem dX7_side_15 : decode cX7_side 15 = .ok (.invokestatic 50, 3) := by decide +kernel
theorem dX7_side_18 : decode cX7_side 18 = .ok (.ifCond .eq 28, 3) := by decide +kernel
theorem dX7_side_21 : decode cX7_side 21 = .ok (.iload_n 3, 1) := by decide +kernel
theorem dX7_side_22 : decode cX7_side 22 = .ok (.iconst 0, 1) := by decide +kernel
theorem dX7_side_23 : decode cX7_side 23 = .ok (.bipush 100, 2) := by decide +kernel
theorem dX7_side_25 : decode cX7_side 25 = .ok (.invokestatic 50, 3) := by decide +kernel
theorem dX7_side_28 : decode cX7_side 28 = .ok (.ifCond .eq 18, 3) := by decide +kernel
theorem dX7_side_31 : decode cX7_side 31 = .ok (.iload 4, 2) := by decide +kernel
theorem dX7_side_33 : decode cX7_side 33 = .ok (.iconst 0, 1) := by decide +kernel
theorem dX7_side_34 : decode cX7_side 34 = .ok (.bipush 100, 2) := by decide +kernel
theorem dX7_side_36 : decode cX7_side 36 = .ok (.invokestatic 50, 3) := by decide +kernel
theorem dX7_side_39 : decode cX7_side 39 = .ok (.ifCond .eq 7, 3) := by decide +kernel
theorem dX7_side_42 : decode cX7_side 42 = .ok (.iconst 1, 1) := by decide +kernel
theorem dX7_side_43 : decode cX7_side 43 = .ok (.goto 4, 3) := by decide +kernel
theorem dX7_side_46 : decode cX7_side 46 = .ok (.iconst 0, 1) := by decide +kernel
theorem dX7_side_47 : decode cX7_side 47 = .ok (.istore 5, 2) := by decide +kernel
theorem dX7_side_49 : decode cX7_side 49 = .ok (.iload 5, 2) := by decide +kernel
theorem dX7_side_51 : decode cX7_side 51 = .ok (.ifCond .ne 6, 3) := by decide +kernel
theorem dX7_side_54 : decode cX7_side 54 = .ok (.bipush (-2), 2) := by decide +kernel
theorem dX7_side_56 : decode cX7_side 56 = .ok (.ireturn, 1) := by decide +kernel
theorem dX7_side_57 : decode cX7_side 57 = .ok (.aload_n 0, 1) := by decide +kernel
theorem dX7_side_58 : decode cX7_side 58 = .ok (.getfield 15, 3) := by decide +kernel
theorem dX7_side_61 : decode cX7_side 61 = .ok (.bipush 16, 2) := by decide +kernel
theorem dX7_side_63 : decode cX7_side 63 = .ok (.if_icmp .lt 6, 3) := by decide +kernel
theorem dX7_side_66 : decode cX7_side 66 = .ok (.bipush (-4), 2) := by decide +kernel
theorem dX7_side_68 : decode cX7_side 68 = .ok (.ireturn, 1) := by decide +kernel
theorem dX7_side_69 : decode cX7_side 69 = .ok (.aload_n 0, 1) := by decide +kernel
theorem dX7_side_70 : decode cX7_side 70 = .ok (.getfield 11, 3) := by decide +kernel
theorem dX7_side_73 : decode cX7_side 73 = .ok (.aload_n 0, 1) := by decide +kernel
theorem dX7_side_74 : decode cX7_side 74 = .ok (.getfield 15, 3) := by decide +kernel
theorem dX7_side_77 : decode cX7_side 77 = .ok (.new 9, 3) := by decide +kernel
theorem dX7_side_80 : decode cX7_side 80 = .ok (.dup, 1) := by decide +kernel
theorem dX7_side_81 : decode cX7_side 81 = .ok (.iload_n 1, 1) := by decide +kernel
theorem dX7_side_82 : decode cX7_side 82 = .ok (.iload_n 2, 1) := by decide +kernel
theorem dX7_side_83 : decode cX7_side 83 = .ok (.iload_n 3, 1) := by decide +kernel
theorem dX7_side_84 : decode cX7_side 84 = .ok (.iload 4, 2) := by decide +kernel
theorem dX7_side_86 : decode cX7_side 86 = .ok (.invokespecial 54, 3) := by decide +kernel
theorem dX7_side_89 : decode cX7_side 89 = .ok (.aastore, 1) := by decide +kernel
theorem dX7_side_90 : decode cX7_side 90 = .ok (.aload_n 0, 1) := by decide +kernel
theorem dX7_side_91 : decode cX7_side 91 = .ok (.dup, 1) := by decide +kernel
theorem dX7_side_92 : decode cX7_side 92 = .ok (.getfield 15, 3) := by decide +kernel
theorem dX7_side_95 : decode cX7_side 95 = .ok (.iconst 1, 1) := by decide +kernel
theorem dX7_side_96 : decode cX7_side 96 = .ok (.iadd, 1) := by decide +kernel
theorem dX7_side_97 : decode cX7_side 97 = .ok (.putfield 15, 3) := by decide +kernel
theorem dX7_side_100 : decode cX7_side 100 = .ok (.aload_n 0, 1) := by decide +kernel
theorem dX7_side_101 : decode cX7_side 101 = .ok (.getfield 15, 3) := by decide +kernel
theorem dX7_side_104 : decode cX7_side 104 = .ok (.iconst 1, 1) := by decide +kernel
theorem dX7_side_105 : decode cX7_side 105 = .ok (.isub, 1) := by decide +kernel
theorem dX7_side_106 : decode cX7_side 106 = .ok (.ireturn, 1) := by decide +kernel
theorem dX7_hours_0 : decode cX7_hours 0 = .ok (.aload_n 0, 1) := by decide +kernel
theorem dX7_hours_1 : decode cX7_hours 1 = .ok (.iload_n 1, 1) := by decide +kernel
theorem dX7_hours_2 : decode cX7_hours 2 = .ok (.invokevirtual 57, 3) := by decide +kernel
theorem dX7_hours_5 : decode cX7_hours 5 = .ok (.ifCond .ne 5, 3) := by decide +kernel
theorem dX7_hours_8 : decode cX7_hours 8 = .ok (.iconst (-1), 1) := by decide +kernel
theorem dX7_hours_9 : decode cX7_hours 9 = .ok (.ireturn, 1) := by decide +kernel
theorem dX7_hours_10 : decode cX7_hours 10 = .ok (.iload_n 2, 1) := by decide +kernel
theorem dX7_hours_11 : decode cX7_hours 11 = .ok (.iconst 1, 1) := by decide +kernel
theorem dX7_hours_12 : decode cX7_hours 12 = .ok (.sipush 1000, 3) := by decide +kernel
theorem dX7_hours_15 : decode cX7_hours 15 = .ok (.invokestatic 50, 3) := by decide +kernel
theorem dX7_hours_18 : decode cX7_hours 18 = .ok (.ifCond .eq 14, 3) := by decide +kernel
theorem dX7_hours_21 : decode cX7_hours 21 = .ok (.iload_n 3, 1) := by decide +kernel
theorem dX7_hours_22 : decode cX7_hours 22 = .ok (.iconst 1, 1) := by decide +kernel
theorem dX7_hours_23 : decode cX7_hours 23 = .ok (.sipush 1000, 3) := by decide +kernel
theorem dX7_hours_26 : decode cX7_hours 26 = .ok (.invokestatic 50, 3) := by decide +kernel
theorem dX7_hours_29 : decode cX7_hours 29 = .ok (.ifCond .ne 6, 3) := by decide +kernel
theorem dX7_hours_32 : decode cX7_hours 32 = .ok (.bipush (-2), 2) := by decide +kernel
theorem dX7_hours_34 : decode cX7_hours 34 = .ok (.ireturn, 1) := by decide +kernel
theorem dX7_hours_35 : decode cX7_hours 35 = .ok (.aload_n 0, 1) := by decide +kernel
theorem dX7_hours_36 : decode cX7_hours 36 = .ok (.getfield 11, 3) := by decide +kernel
theorem dX7_hours_39 : decode cX7_hours 39 = .ok (.iload_n 1, 1) := by decide +kernel
theorem dX7_hours_40 : decode cX7_hours 40 = .ok (.aaload, 1) := by decide +kernel
theorem dX7_hours_41 : decode cX7_hours 41 = .ok (.iload_n 2, 1) := by decide +kernel
theorem dX7_hours_42 : decode cX7_hours 42 = .ok (.putfield 61, 3) := by decide +kernel
theorem dX7_hours_45 : decode cX7_hours 45 = .ok (.aload_n 0, 1) := by decide +kernel
theorem dX7_hours_46 : decode cX7_hours 46 = .ok (.getfield 11, 3) := by decide +kernel
theorem dX7_hours_49 : decode cX7_hours 49 = .ok (.iload_n 1, 1) := by decide +kernel
theorem dX7_hours_50 : decode cX7_hours 50 = .ok (.aaload, 1) := by decide +kernel
theorem dX7_hours_51 : decode cX7_hours 51 = .ok (.iload_n 3, 1) := by decide +kernel
theorem dX7_hours_52 : decode cX7_hours 52 = .ok (.putfield 64, 3) := by decide +kernel
theorem dX7_hours_55 : decode cX7_hours 55 = .ok (.iconst 1, 1) := by decide +kernel
theorem dX7_hours_56 : decode cX7_hours 56 = .ok (.ireturn, 1) := by decide +kernel
theorem dX7_told_0 : decode cX7_told 0 = .ok (.aload_n 0, 1) := by decide +kernel
theorem dX7_told_1 : decode cX7_told 1 = .ok (.iload_n 1, 1) := by decide +kernel
theorem dX7_told_2 : decode cX7_told 2 = .ok (.invokevirtual 57, 3) := by decide +kernel
theorem dX7_told_5 : decode cX7_told 5 = .ok (.ifCond .ne 5, 3) := by decide +kernel
theorem dX7_told_8 : decode cX7_told 8 = .ok (.iconst (-1), 1) := by decide +kernel
theorem dX7_told_9 : decode cX7_told 9 = .ok (.ireturn, 1) := by decide +kernel
theorem dX7_told_10 : decode cX7_told 10 = .ok (.aload_n 0, 1) := by decide +kernel
theorem dX7_told_11 : decode cX7_told 11 = .ok (.getfield 11, 3) := by decide +kernel
theorem dX7_told_14 : decode cX7_told 14 = .ok (.iload_n 1, 1) := by decide +kernel
theorem dX7_told_15 : decode cX7_told 15 = .ok (.aaload, 1) := by decide +kernel
theorem dX7_told_16 : decode cX7_told 16 = .ok (.astore_n 3, 1) := by decide +kernel
theorem dX7_told_17 : decode cX7_told 17 = .ok (.iload_n 2, 1) := by decide +kernel
theorem dX7_told_18 : decode cX7_told 18 = .ok (.tableswitch 95 0 8 #[50, 55, 60, 65, 70, 75, 80, 85, 90], 50) := by decide +kernel
theorem dX7_told_68 : decode cX7_told 68 = .ok (.aload_n 3, 1) := by decide +kernel
theorem dX7_told_69 : decode cX7_told 69 = .ok (.getfield 67, 3) := by decide +kernel
theorem dX7_told_72 : decode cX7_told 72 = .ok (.ireturn, 1) := by decide +kernel
theorem dX7_told_73 : decode cX7_told 73 = .ok (.aload_n 3, 1) := by decide +kernel
theorem dX7_told_74 : decode cX7_told 74 = .ok (.getfield 70, 3) := by decide +kernel
theorem dX7_told_77 : decode cX7_told 77 = .ok (.ireturn, 1) := by decide +kernel
theorem dX7_told_78 : decode cX7_told 78 = .ok (.aload_n 3, 1) := by decide +kernel
theorem dX7_told_79 : decode cX7_told 79 = .ok (.getfield 73, 3) := by decide +kernel
theorem dX7_told_82 : decode cX7_told 82 = .ok (.ireturn, 1) := by decide +kernel
theorem dX7_told_83 : decode cX7_told 83 = .ok (.aload_n 3, 1) := by decide +kernel
theorem dX7_told_84 : decode cX7_told 84 = .ok (.getfield 76, 3) := by decide +kernel
theorem dX7_told_87 : decode cX7_told 87 = .ok (.ireturn, 1) := by decide +kernel
theorem dX7_told_88 : decode cX7_told 88 = .ok (.aload_n 3, 1) := by decide +kernel
theorem dX7_told_89 : decode cX7_told 89 = .ok (.getfield 61, 3) := by decide +kernel
theorem dX7_told_92 : decode cX7_told 92 = .ok (.ireturn, 1) := by decide +kernel
theorem dX7_told_93 : decode cX7_told 93 = .ok (.aload_n 3, 1) := by decide +kernel
theorem dX7_told_94 : decode cX7_told 94 = .ok (.getfield 64, 3) := by decide +kernel
theorem dX7_told_97 : decode cX7_told 97 = .ok (.ireturn, 1) := by decide +kernel
theorem dX7_told_98 : decode cX7_told 98 = .ok (.aload_n 3, 1) := by decide +kernel
theorem dX7_told_99 : decode cX7_told 99 = .ok (.getfield 79, 3) := by decide +kernel
theorem dX7_told_102 : decode cX7_told 102 = .ok (.ireturn, 1) := by decide +kernel
theorem dX7_told_103 : decode cX7_told 103 = .ok (.aload_n 3, 1) := by decide +kernel
theorem dX7_told_104 : decode cX7_told 104 = .ok (.getfield 82, 3) := by decide +kernel
theorem dX7_told_107 : decode cX7_told 107 = .ok (.ireturn, 1) := by decide +kernel
theorem dX7_told_108 : decode cX7_told 108 = .ok (.aload_n 3, 1) := by decide +kernel
theorem dX7_told_109 : decode cX7_told 109 = .ok (.getfield 85, 3) := by decide +kernel
theorem dX7_told_112 : decode cX7_told 112 = .ok (.ireturn, 1) := by decide +kernel
theorem dX7_told_113 : decode cX7_told 113 = .ok (.bipush (-2), 2) := by decide +kernel
theorem dX7_told_115 : decode cX7_told 115 = .ok (.ireturn, 1) := by decide +kernel
theorem dX7_read_0 : decode cX7_read 0 = .ok (.aload_n 0, 1) := by decide +kernel
theorem dX7_read_1 : decode cX7_read 1 = .ok (.iload_n 1, 1) := by decide +kernel
theorem dX7_read_2 : decode cX7_read 2 = .ok (.invokevirtual 57, 3) := by decide +kernel
theorem dX7_read_5 : decode cX7_read 5 = .ok (.ifCond .ne 5, 3) := by decide +kernel
theorem dX7_read_8 : decode cX7_read 8 = .ok (.iconst (-1), 1) := by decide +kernel
theorem dX7_read_9 : decode cX7_read 9 = .ok (.ireturn, 1) := by decide +kernel
theorem dX7_read_10 : decode cX7_read 10 = .ok (.aload_n 0, 1) := by decide +kernel
theorem dX7_read_11 : decode cX7_read 11 = .ok (.getfield 11, 3) := by decide +kernel
theorem dX7_read_14 : decode cX7_read 14 = .ok (.iload_n 1, 1) := by decide +kernel
theorem dX7_read_15 : decode cX7_read 15 = .ok (.aaload, 1) := by decide +kernel
theorem dX7_read_16 : decode cX7_read 16 = .ok (.astore_n 3, 1) := by decide +kernel
theorem dX7_read_17 : decode cX7_read 17 = .ok (.aload_n 3, 1) := by decide +kernel
theorem dX7_read_18 : decode cX7_read 18 = .ok (.getfield 70, 3) := by decide +kernel
theorem dX7_read_21 : decode cX7_read 21 = .ok (.ifCond .ne 6, 3) := by decide +kernel
theorem dX7_read_24 : decode cX7_read 24 = .ok (.bipush (-3), 2) := by decide +kernel
theorem dX7_read_26 : decode cX7_read 26 = .ok (.ireturn, 1) := by decide +kernel
theorem dX7_read_27 : decode cX7_read 27 = .ok (.iload_n 2, 1) := by decide +kernel
theorem dX7_read_28 : decode cX7_read 28 = .ok (.ifCond .eq 21, 3) := by decide +kernel
theorem dX7_read_31 : decode cX7_read 31 = .ok (.aload_n 3, 1) := by decide +kernel
theorem dX7_read_32 : decode cX7_read 32 = .ok (.aload_n 3, 1) := by decide +kernel
theorem dX7_read_33 : decode cX7_read 33 = .ok (.getfield 73, 3) := by decide +kernel
theorem dX7_read_36 : decode cX7_read 36 = .ok (.invokevirtual 88, 3) := by decide +kernel
theorem dX7_read_39 : decode cX7_read 39 = .ok (.aload_n 3, 1) := by decide +kernel
theorem dX7_read_40 : decode cX7_read 40 = .ok (.dup, 1) := by decide +kernel
theorem dX7_read_41 : decode cX7_read 41 = .ok (.getfield 79, 3) := by decide +kernel
theorem dX7_read_44 : decode cX7_read 44 = .ok (.iconst 1, 1) := by decide +kernel
theorem dX7_read_45 : decode cX7_read 45 = .ok (.iadd, 1) := by decide +kernel
theorem dX7_read_46 : decode cX7_read 46 = .ok (.putfield 79, 3) := by decide +kernel
theorem dX7_read_49 : decode cX7_read 49 = .ok (.aload_n 3, 1) := by decide +kernel
theorem dX7_read_50 : decode cX7_read 50 = .ok (.aload_n 0, 1) := by decide +kernel
theorem dX7_read_51 : decode cX7_read 51 = .ok (.getfield 19, 3) := by decide +kernel
theorem dX7_read_54 : decode cX7_read 54 = .ok (.putfield 82, 3) := by decide +kernel
theorem dX7_read_57 : decode cX7_read 57 = .ok (.aload_n 3, 1) := by decide +kernel
theorem dX7_read_58 : decode cX7_read 58 = .ok (.getfield 70, 3) := by decide +kernel
theorem dX7_read_61 : decode cX7_read 61 = .ok (.ireturn, 1) := by decide +kernel
theorem dX7_pass_0 : decode cX7_pass 0 = .ok (.iload_n 1, 1) := by decide +kernel
theorem dX7_pass_1 : decode cX7_pass 1 = .ok (.iconst 1, 1) := by decide +kernel
theorem dX7_pass_2 : decode cX7_pass 2 = .ok (.bipush 100, 2) := by decide +kernel
theorem dX7_pass_4 : decode cX7_pass 4 = .ok (.invokestatic 50, 3) := by decide +kernel
theorem dX7_pass_7 : decode cX7_pass 7 = .ok (.ifCond .ne 6, 3) := by decide +kernel
theorem dX7_pass_10 : decode cX7_pass 10 = .ok (.bipush (-2), 2) := by decide +kernel
theorem dX7_pass_12 : decode cX7_pass 12 = .ok (.ireturn, 1) := by decide +kernel
theorem dX7_pass_13 : decode cX7_pass 13 = .ok (.aload_n 0, 1) := by decide +kernel
theorem dX7_pass_14 : decode cX7_pass 14 = .ok (.getfield 19, 3) := by decide +kernel
theorem dX7_pass_17 : decode cX7_pass 17 = .ok (.iload_n 1, 1) := by decide +kernel
theorem dX7_pass_18 : decode cX7_pass 18 = .ok (.iadd, 1) := by decide +kernel
theorem dX7_pass_19 : decode cX7_pass 19 = .ok (.sipush 1000, 3) := by decide +kernel
theorem dX7_pass_22 : decode cX7_pass 22 = .ok (.if_icmp .le 6, 3) := by decide +kernel
theorem dX7_pass_25 : decode cX7_pass 25 = .ok (.bipush (-4), 2) := by decide +kernel
theorem dX7_pass_27 : decode cX7_pass 27 = .ok (.ireturn, 1) := by decide +kernel
theorem dX7_pass_28 : decode cX7_pass 28 = .ok (.iconst 0, 1) := by decide +kernel
theorem dX7_pass_29 : decode cX7_pass 29 = .ok (.istore_n 2, 1) := by decide +kernel
theorem dX7_pass_30 : decode cX7_pass 30 = .ok (.iload_n 2, 1) := by decide +kernel
theorem dX7_pass_31 : decode cX7_pass 31 = .ok (.aload_n 0, 1) := by decide +kernel
theorem dX7_pass_32 : decode cX7_pass 32 = .ok (.getfield 15, 3) := by decide +kernel
theorem dX7_pass_35 : decode cX7_pass 35 = .ok (.if_icmp .ge 29, 3) := by decide +kernel
theorem dX7_pass_38 : decode cX7_pass 38 = .ok (.aload_n 0, 1) := by decide +kernel
theorem dX7_pass_39 : decode cX7_pass 39 = .ok (.getfield 11, 3) := by decide +kernel
theorem dX7_pass_42 : decode cX7_pass 42 = .ok (.iload_n 2, 1) := by decide +kernel
theorem dX7_pass_43 : decode cX7_pass 43 = .ok (.aaload, 1) := by decide +kernel
theorem dX7_pass_44 : decode cX7_pass 44 = .ok (.aload_n 0, 1) := by decide +kernel
theorem dX7_pass_45 : decode cX7_pass 45 = .ok (.getfield 11, 3) := by decide +kernel
theorem dX7_pass_48 : decode cX7_pass 48 = .ok (.iload_n 2, 1) := by decide +kernel
theorem dX7_pass_49 : decode cX7_pass 49 = .ok (.aaload, 1) := by decide +kernel
theorem dX7_pass_50 : decode cX7_pass 50 = .ok (.getfield 76, 3) := by decide +kernel
theorem dX7_pass_53 : decode cX7_pass 53 = .ok (.iload_n 1, 1) := by decide +kernel
theorem dX7_pass_54 : decode cX7_pass 54 = .ok (.imul, 1) := by decide +kernel
theorem dX7_pass_55 : decode cX7_pass 55 = .ok (.invokevirtual 88, 3) := by decide +kernel
theorem dX7_pass_58 : decode cX7_pass 58 = .ok (.iinc 2 1, 3) := by decide +kernel
theorem dX7_pass_61 : decode cX7_pass 61 = .ok (.goto (-31), 3) := by decide +kernel
theorem dX7_pass_64 : decode cX7_pass 64 = .ok (.aload_n 0, 1) := by decide +kernel
theorem dX7_pass_65 : decode cX7_pass 65 = .ok (.dup, 1) := by decide +kernel
theorem dX7_pass_66 : decode cX7_pass 66 = .ok (.getfield 19, 3) := by decide +kernel
theorem dX7_pass_69 : decode cX7_pass 69 = .ok (.iload_n 1, 1) := by decide +kernel
theorem dX7_pass_70 : decode cX7_pass 70 = .ok (.iadd, 1) := by decide +kernel
theorem dX7_pass_71 : decode cX7_pass 71 = .ok (.putfield 19, 3) := by decide +kernel
theorem dX7_pass_74 : decode cX7_pass 74 = .ok (.aload_n 0, 1) := by decide +kernel
theorem dX7_pass_75 : decode cX7_pass 75 = .ok (.getfield 19, 3) := by decide +kernel
theorem dX7_pass_78 : decode cX7_pass 78 = .ok (.ireturn, 1) := by decide +kernel
theorem dX7_best_0 : decode cX7_best 0 = .ok (.aload_n 0, 1) := by decide +kernel
theorem dX7_best_1 : decode cX7_best 1 = .ok (.iload_n 1, 1) := by decide +kernel
theorem dX7_best_2 : decode cX7_best 2 = .ok (.iload_n 2, 1) := by decide +kernel
