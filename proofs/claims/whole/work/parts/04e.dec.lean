theorem dX7_copy_55 : decode cX7_copy 55 = .ok (.putfield 85, 3) := by decide +kernel
theorem dX7_copy_58 : decode cX7_copy 58 = .ok (.iload_n 3, 1) := by decide +kernel
theorem dX7_copy_59 : decode cX7_copy 59 = .ok (.ireturn, 1) := by decide +kernel
theorem dX7_copies_0 : decode cX7_copies 0 = .ok (.aload_n 0, 1) := by decide +kernel
theorem dX7_copies_1 : decode cX7_copies 1 = .ok (.iload_n 1, 1) := by decide +kernel
theorem dX7_copies_2 : decode cX7_copies 2 = .ok (.invokevirtual 57, 3) := by decide +kernel
theorem dX7_copies_5 : decode cX7_copies 5 = .ok (.ifCond .ne 5, 3) := by decide +kernel
theorem dX7_copies_8 : decode cX7_copies 8 = .ok (.iconst (-1), 1) := by decide +kernel
theorem dX7_copies_9 : decode cX7_copies 9 = .ok (.ireturn, 1) := by decide +kernel
theorem dX7_copies_10 : decode cX7_copies 10 = .ok (.iconst 0, 1) := by decide +kernel
theorem dX7_copies_11 : decode cX7_copies 11 = .ok (.istore_n 2, 1) := by decide +kernel
theorem dX7_copies_12 : decode cX7_copies 12 = .ok (.iconst 0, 1) := by decide +kernel
theorem dX7_copies_13 : decode cX7_copies 13 = .ok (.istore_n 3, 1) := by decide +kernel
theorem dX7_copies_14 : decode cX7_copies 14 = .ok (.iload_n 3, 1) := by decide +kernel
theorem dX7_copies_15 : decode cX7_copies 15 = .ok (.aload_n 0, 1) := by decide +kernel
theorem dX7_copies_16 : decode cX7_copies 16 = .ok (.getfield 15, 3) := by decide +kernel
theorem dX7_copies_19 : decode cX7_copies 19 = .ok (.if_icmp .ge 26, 3) := by decide +kernel
theorem dX7_copies_22 : decode cX7_copies 22 = .ok (.aload_n 0, 1) := by decide +kernel
theorem dX7_copies_23 : decode cX7_copies 23 = .ok (.iload_n 3, 1) := by decide +kernel
theorem dX7_copies_24 : decode cX7_copies 24 = .ok (.iload_n 1, 1) := by decide +kernel
theorem dX7_copies_25 : decode cX7_copies 25 = .ok (.invokevirtual 220, 3) := by decide +kernel
theorem dX7_copies_28 : decode cX7_copies 28 = .ok (.bipush (-9), 2) := by decide +kernel
theorem dX7_copies_30 : decode cX7_copies 30 = .ok (.if_icmp .eq 9, 3) := by decide +kernel
theorem dX7_copies_33 : decode cX7_copies 33 = .ok (.iload_n 2, 1) := by decide +kernel
theorem dX7_copies_34 : decode cX7_copies 34 = .ok (.iconst 1, 1) := by decide +kernel
theorem dX7_copies_35 : decode cX7_copies 35 = .ok (.iload_n 3, 1) := by decide +kernel
theorem dX7_copies_36 : decode cX7_copies 36 = .ok (.ishl, 1) := by decide +kernel
theorem dX7_copies_37 : decode cX7_copies 37 = .ok (.ior, 1) := by decide +kernel
theorem dX7_copies_38 : decode cX7_copies 38 = .ok (.istore_n 2, 1) := by decide +kernel
theorem dX7_copies_39 : decode cX7_copies 39 = .ok (.iinc 3 1, 3) := by decide +kernel
theorem dX7_copies_42 : decode cX7_copies 42 = .ok (.goto (-28), 3) := by decide +kernel
theorem dX7_copies_45 : decode cX7_copies 45 = .ok (.iload_n 2, 1) := by decide +kernel
theorem dX7_copies_46 : decode cX7_copies 46 = .ok (.ireturn, 1) := by decide +kernel
theorem dX7_clearest_0 : decode cX7_clearest 0 = .ok (.aload_n 0, 1) := by decide +kernel
theorem dX7_clearest_1 : decode cX7_clearest 1 = .ok (.iload_n 1, 1) := by decide +kernel
theorem dX7_clearest_2 : decode cX7_clearest 2 = .ok (.invokevirtual 57, 3) := by decide +kernel
theorem dX7_clearest_5 : decode cX7_clearest 5 = .ok (.ifCond .ne 5, 3) := by decide +kernel
theorem dX7_clearest_8 : decode cX7_clearest 8 = .ok (.iconst (-1), 1) := by decide +kernel
theorem dX7_clearest_9 : decode cX7_clearest 9 = .ok (.ireturn, 1) := by decide +kernel
theorem dX7_clearest_10 : decode cX7_clearest 10 = .ok (.iload_n 1, 1) := by decide +kernel
theorem dX7_clearest_11 : decode cX7_clearest 11 = .ok (.istore_n 2, 1) := by decide +kernel
theorem dX7_clearest_12 : decode cX7_clearest 12 = .ok (.iconst 0, 1) := by decide +kernel
theorem dX7_clearest_13 : decode cX7_clearest 13 = .ok (.istore_n 3, 1) := by decide +kernel
theorem dX7_clearest_14 : decode cX7_clearest 14 = .ok (.iconst 0, 1) := by decide +kernel
theorem dX7_clearest_15 : decode cX7_clearest 15 = .ok (.istore 4, 2) := by decide +kernel
theorem dX7_clearest_17 : decode cX7_clearest 17 = .ok (.iload 4, 2) := by decide +kernel
theorem dX7_clearest_19 : decode cX7_clearest 19 = .ok (.aload_n 0, 1) := by decide +kernel
theorem dX7_clearest_20 : decode cX7_clearest 20 = .ok (.getfield 15, 3) := by decide +kernel
theorem dX7_clearest_23 : decode cX7_clearest 23 = .ok (.if_icmp .ge 72, 3) := by decide +kernel
theorem dX7_clearest_26 : decode cX7_clearest 26 = .ok (.aload_n 0, 1) := by decide +kernel
theorem dX7_clearest_27 : decode cX7_clearest 27 = .ok (.iload 4, 2) := by decide +kernel
theorem dX7_clearest_29 : decode cX7_clearest 29 = .ok (.iload_n 1, 1) := by decide +kernel
theorem dX7_clearest_30 : decode cX7_clearest 30 = .ok (.invokevirtual 220, 3) := by decide +kernel
theorem dX7_clearest_33 : decode cX7_clearest 33 = .ok (.istore 5, 2) := by decide +kernel
theorem dX7_clearest_35 : decode cX7_clearest 35 = .ok (.iload 5, 2) := by decide +kernel
theorem dX7_clearest_37 : decode cX7_clearest 37 = .ok (.bipush (-9), 2) := by decide +kernel
theorem dX7_clearest_39 : decode cX7_clearest 39 = .ok (.if_icmp .ne 6, 3) := by decide +kernel
theorem dX7_clearest_42 : decode cX7_clearest 42 = .ok (.goto 47, 3) := by decide +kernel
theorem dX7_clearest_45 : decode cX7_clearest 45 = .ok (.aload_n 0, 1) := by decide +kernel
theorem dX7_clearest_46 : decode cX7_clearest 46 = .ok (.getfield 11, 3) := by decide +kernel
theorem dX7_clearest_49 : decode cX7_clearest 49 = .ok (.iload 4, 2) := by decide +kernel
theorem dX7_clearest_51 : decode cX7_clearest 51 = .ok (.aaload, 1) := by decide +kernel
theorem dX7_clearest_52 : decode cX7_clearest 52 = .ok (.getfield 70, 3) := by decide +kernel
theorem dX7_clearest_55 : decode cX7_clearest 55 = .ok (.aload_n 0, 1) := by decide +kernel
theorem dX7_clearest_56 : decode cX7_clearest 56 = .ok (.getfield 11, 3) := by decide +kernel
theorem dX7_clearest_59 : decode cX7_clearest 59 = .ok (.iload_n 2, 1) := by decide +kernel
theorem dX7_clearest_60 : decode cX7_clearest 60 = .ok (.aaload, 1) := by decide +kernel
theorem dX7_clearest_61 : decode cX7_clearest 61 = .ok (.getfield 70, 3) := by decide +kernel
theorem dX7_clearest_64 : decode cX7_clearest 64 = .ok (.isub, 1) := by decide +kernel
theorem dX7_clearest_65 : decode cX7_clearest 65 = .ok (.istore 6, 2) := by decide +kernel
theorem dX7_clearest_67 : decode cX7_clearest 67 = .ok (.iload 6, 2) := by decide +kernel
theorem dX7_clearest_69 : decode cX7_clearest 69 = .ok (.ifCond .gt 14, 3) := by decide +kernel
theorem dX7_clearest_72 : decode cX7_clearest 72 = .ok (.iload 6, 2) := by decide +kernel
theorem dX7_clearest_74 : decode cX7_clearest 74 = .ok (.ifCond .ne 15, 3) := by decide +kernel
theorem dX7_clearest_77 : decode cX7_clearest 77 = .ok (.iload 5, 2) := by decide +kernel
theorem dX7_clearest_79 : decode cX7_clearest 79 = .ok (.iload_n 3, 1) := by decide +kernel
theorem dX7_clearest_80 : decode cX7_clearest 80 = .ok (.if_icmp .ge 9, 3) := by decide +kernel
theorem dX7_clearest_83 : decode cX7_clearest 83 = .ok (.iload 4, 2) := by decide +kernel
theorem dX7_clearest_85 : decode cX7_clearest 85 = .ok (.istore_n 2, 1) := by decide +kernel
theorem dX7_clearest_86 : decode cX7_clearest 86 = .ok (.iload 5, 2) := by decide +kernel
theorem dX7_clearest_88 : decode cX7_clearest 88 = .ok (.istore_n 3, 1) := by decide +kernel
theorem dX7_clearest_89 : decode cX7_clearest 89 = .ok (.iinc 4 1, 3) := by decide +kernel
theorem dX7_clearest_92 : decode cX7_clearest 92 = .ok (.goto (-75), 3) := by decide +kernel
theorem dX7_clearest_95 : decode cX7_clearest 95 = .ok (.iload_n 2, 1) := by decide +kernel
theorem dX7_clearest_96 : decode cX7_clearest 96 = .ok (.ireturn, 1) := by decide +kernel
theorem dX7_total_0 : decode cX7_total 0 = .ok (.iload_n 1, 1) := by decide +kernel
theorem dX7_total_1 : decode cX7_total 1 = .ok (.tableswitch 78 0 5 #[39, 44, 49, 57, 65, 73], 39) := by decide +kernel
theorem dX7_total_40 : decode cX7_total 40 = .ok (.aload_n 0, 1) := by decide +kernel
theorem dX7_total_41 : decode cX7_total 41 = .ok (.getfield 15, 3) := by decide +kernel
theorem dX7_total_44 : decode cX7_total 44 = .ok (.ireturn, 1) := by decide +kernel
theorem dX7_total_45 : decode cX7_total 45 = .ok (.aload_n 0, 1) := by decide +kernel
theorem dX7_total_46 : decode cX7_total 46 = .ok (.getfield 19, 3) := by decide +kernel
theorem dX7_total_49 : decode cX7_total 49 = .ok (.ireturn, 1) := by decide +kernel
theorem dX7_total_50 : decode cX7_total 50 = .ok (.aload_n 0, 1) := by decide +kernel
theorem dX7_total_51 : decode cX7_total 51 = .ok (.getfield 32, 3) := by decide +kernel
theorem dX7_total_54 : decode cX7_total 54 = .ok (.invokevirtual 223, 3) := by decide +kernel
theorem dX7_total_57 : decode cX7_total 57 = .ok (.ireturn, 1) := by decide +kernel
theorem dX7_total_58 : decode cX7_total 58 = .ok (.aload_n 0, 1) := by decide +kernel
theorem dX7_total_59 : decode cX7_total 59 = .ok (.getfield 39, 3) := by decide +kernel
theorem dX7_total_62 : decode cX7_total 62 = .ok (.getfield 226, 3) := by decide +kernel
theorem dX7_total_65 : decode cX7_total 65 = .ok (.ireturn, 1) := by decide +kernel
theorem dX7_total_66 : decode cX7_total 66 = .ok (.aload_n 0, 1) := by decide +kernel
theorem dX7_total_67 : decode cX7_total 67 = .ok (.getfield 46, 3) := by decide +kernel
theorem dX7_total_70 : decode cX7_total 70 = .ok (.getfield 229, 3) := by decide +kernel
theorem dX7_total_73 : decode cX7_total 73 = .ok (.ireturn, 1) := by decide +kernel
theorem dX7_total_74 : decode cX7_total 74 = .ok (.aload_n 0, 1) := by decide +kernel
theorem dX7_total_75 : decode cX7_total 75 = .ok (.invokevirtual 230, 3) := by decide +kernel
theorem dX7_total_78 : decode cX7_total 78 = .ok (.ireturn, 1) := by decide +kernel
theorem dX7_total_79 : decode cX7_total 79 = .ok (.bipush (-2), 2) := by decide +kernel
theorem dX7_total_81 : decode cX7_total 81 = .ok (.ireturn, 1) := by decide +kernel
theorem dX7_stepsUp_0 : decode cX7_stepsUp 0 = .ok (.iload_n 1, 1) := by decide +kernel
theorem dX7_stepsUp_1 : decode cX7_stepsUp 1 = .ok (.istore_n 3, 1) := by decide +kernel
theorem dX7_stepsUp_2 : decode cX7_stepsUp 2 = .ok (.iconst 0, 1) := by decide +kernel
theorem dX7_stepsUp_3 : decode cX7_stepsUp 3 = .ok (.istore 4, 2) := by decide +kernel
theorem dX7_stepsUp_5 : decode cX7_stepsUp 5 = .ok (.iload 4, 2) := by decide +kernel
theorem dX7_stepsUp_7 : decode cX7_stepsUp 7 = .ok (.aload_n 0, 1) := by decide +kernel
theorem dX7_stepsUp_8 : decode cX7_stepsUp 8 = .ok (.getfield 15, 3) := by decide +kernel
theorem dX7_stepsUp_11 : decode cX7_stepsUp 11 = .ok (.if_icmp .ge 35, 3) := by decide +kernel
theorem dX7_stepsUp_14 : decode cX7_stepsUp 14 = .ok (.aload_n 0, 1) := by decide +kernel
theorem dX7_stepsUp_15 : decode cX7_stepsUp 15 = .ok (.iload_n 3, 1) := by decide +kernel
theorem dX7_stepsUp_16 : decode cX7_stepsUp 16 = .ok (.invokevirtual 57, 3) := by decide +kernel
theorem dX7_stepsUp_19 : decode cX7_stepsUp 19 = .ok (.ifCond .eq 27, 3) := by decide +kernel
theorem dX7_stepsUp_22 : decode cX7_stepsUp 22 = .ok (.iload_n 3, 1) := by decide +kernel
theorem dX7_stepsUp_23 : decode cX7_stepsUp 23 = .ok (.iload_n 2, 1) := by decide +kernel
theorem dX7_stepsUp_24 : decode cX7_stepsUp 24 = .ok (.if_icmp .ne 6, 3) := by decide +kernel
theorem dX7_stepsUp_27 : decode cX7_stepsUp 27 = .ok (.iload 4, 2) := by decide +kernel
theorem dX7_stepsUp_29 : decode cX7_stepsUp 29 = .ok (.ireturn, 1) := by decide +kernel
theorem dX7_stepsUp_30 : decode cX7_stepsUp 30 = .ok (.aload_n 0, 1) := by decide +kernel
theorem dX7_stepsUp_31 : decode cX7_stepsUp 31 = .ok (.getfield 11, 3) := by decide +kernel
theorem dX7_stepsUp_34 : decode cX7_stepsUp 34 = .ok (.iload_n 3, 1) := by decide +kernel
theorem dX7_stepsUp_35 : decode cX7_stepsUp 35 = .ok (.aaload, 1) := by decide +kernel
theorem dX7_stepsUp_36 : decode cX7_stepsUp 36 = .ok (.getfield 85, 3) := by decide +kernel
theorem dX7_stepsUp_39 : decode cX7_stepsUp 39 = .ok (.istore_n 3, 1) := by decide +kernel
theorem dX7_stepsUp_40 : decode cX7_stepsUp 40 = .ok (.iinc 4 1, 3) := by decide +kernel
theorem dX7_stepsUp_43 : decode cX7_stepsUp 43 = .ok (.goto (-38), 3) := by decide +kernel
theorem dX7_stepsUp_46 : decode cX7_stepsUp 46 = .ok (.bipush (-9), 2) := by decide +kernel
theorem dX7_stepsUp_48 : decode cX7_stepsUp 48 = .ok (.ireturn, 1) := by decide +kernel
theorem dX7_allSound_0 : decode cX7_allSound 0 = .ok (.iconst 0, 1) := by decide +kernel
theorem dX7_allSound_1 : decode cX7_allSound 1 = .ok (.istore_n 1, 1) := by decide +kernel
theorem dX7_allSound_2 : decode cX7_allSound 2 = .ok (.iconst 0, 1) := by decide +kernel
theorem dX7_allSound_3 : decode cX7_allSound 3 = .ok (.istore_n 2, 1) := by decide +kernel
theorem dX7_allSound_4 : decode cX7_allSound 4 = .ok (.iload_n 2, 1) := by decide +kernel
theorem dX7_allSound_5 : decode cX7_allSound 5 = .ok (.aload_n 0, 1) := by decide +kernel
theorem dX7_allSound_6 : decode cX7_allSound 6 = .ok (.getfield 15, 3) := by decide +kernel
theorem dX7_allSound_9 : decode cX7_allSound 9 = .ok (.if_icmp .ge 21, 3) := by decide +kernel
theorem dX7_allSound_12 : decode cX7_allSound 12 = .ok (.iload_n 1, 1) := by decide +kernel
theorem dX7_allSound_13 : decode cX7_allSound 13 = .ok (.aload_n 0, 1) := by decide +kernel
theorem dX7_allSound_14 : decode cX7_allSound 14 = .ok (.getfield 11, 3) := by decide +kernel
theorem dX7_allSound_17 : decode cX7_allSound 17 = .ok (.iload_n 2, 1) := by decide +kernel
theorem dX7_allSound_18 : decode cX7_allSound 18 = .ok (.aaload, 1) := by decide +kernel
theorem dX7_allSound_19 : decode cX7_allSound 19 = .ok (.getfield 70, 3) := by decide +kernel
theorem dX7_allSound_22 : decode cX7_allSound 22 = .ok (.iadd, 1) := by decide +kernel
theorem dX7_allSound_23 : decode cX7_allSound 23 = .ok (.istore_n 1, 1) := by decide +kernel
theorem dX7_allSound_24 : decode cX7_allSound 24 = .ok (.iinc 2 1, 3) := by decide +kernel
theorem dX7_allSound_27 : decode cX7_allSound 27 = .ok (.goto (-23), 3) := by decide +kernel
theorem dX7_allSound_30 : decode cX7_allSound 30 = .ok (.iload_n 1, 1) := by decide +kernel
theorem dX7_allSound_31 : decode cX7_allSound 31 = .ok (.ireturn, 1) := by decide +kernel
theorem dX7_isSide_0 : decode cX7_isSide 0 = .ok (.iload_n 1, 1) := by decide +kernel
theorem dX7_isSide_1 : decode cX7_isSide 1 = .ok (.ifCond .lt 15, 3) := by decide +kernel
theorem dX7_isSide_4 : decode cX7_isSide 4 = .ok (.iload_n 1, 1) := by decide +kernel
theorem dX7_isSide_5 : decode cX7_isSide 5 = .ok (.aload_n 0, 1) := by decide +kernel
theorem dX7_isSide_6 : decode cX7_isSide 6 = .ok (.getfield 15, 3) := by decide +kernel
theorem dX7_isSide_9 : decode cX7_isSide 9 = .ok (.if_icmp .ge 7, 3) := by decide +kernel
theorem dX7_isSide_12 : decode cX7_isSide 12 = .ok (.iconst 1, 1) := by decide +kernel
theorem dX7_isSide_13 : decode cX7_isSide 13 = .ok (.goto 4, 3) := by decide +kernel
theorem dX7_isSide_16 : decode cX7_isSide 16 = .ok (.iconst 0, 1) := by decide +kernel
theorem dX7_isSide_17 : decode cX7_isSide 17 = .ok (.ireturn, 1) := by decide +kernel
theorem dX7_isSetOfSides_0 : decode cX7_isSetOfSides 0 = .ok (.iload_n 1, 1) := by decide +kernel
theorem dX7_isSetOfSides_1 : decode cX7_isSetOfSides 1 = .ok (.iconst 1, 1) := by decide +kernel
theorem dX7_isSetOfSides_2 : decode cX7_isSetOfSides 2 = .ok (.aload_n 0, 1) := by decide +kernel
theorem dX7_isSetOfSides_3 : decode cX7_isSetOfSides 3 = .ok (.getfield 15, 3) := by decide +kernel
theorem dX7_isSetOfSides_6 : decode cX7_isSetOfSides 6 = .ok (.ishl, 1) := by decide +kernel
theorem dX7_isSetOfSides_7 : decode cX7_isSetOfSides 7 = .ok (.iconst 1, 1) := by decide +kernel
theorem dX7_isSetOfSides_8 : decode cX7_isSetOfSides 8 = .ok (.isub, 1) := by decide +kernel
theorem dX7_isSetOfSides_9 : decode cX7_isSetOfSides 9 = .ok (.iconst (-1), 1) := by decide +kernel
theorem dX7_isSetOfSides_10 : decode cX7_isSetOfSides 10 = .ok (.ixor, 1) := by decide +kernel
theorem dX7_isSetOfSides_11 : decode cX7_isSetOfSides 11 = .ok (.iand, 1) := by decide +kernel
theorem dX7_isSetOfSides_12 : decode cX7_isSetOfSides 12 = .ok (.ifCond .ne 7, 3) := by decide +kernel
theorem dX7_isSetOfSides_15 : decode cX7_isSetOfSides 15 = .ok (.iconst 1, 1) := by decide +kernel
theorem dX7_isSetOfSides_16 : decode cX7_isSetOfSides 16 = .ok (.goto 4, 3) := by decide +kernel
theorem dX7_isSetOfSides_19 : decode cX7_isSetOfSides 19 = .ok (.iconst 0, 1) := by decide +kernel
theorem dX7_isSetOfSides_20 : decode cX7_isSetOfSides 20 = .ok (.ireturn, 1) := by decide +kernel
theorem dX7_isFamily_0 : decode cX7_isFamily 0 = .ok (.iload_n 0, 1) := by decide +kernel
theorem dX7_isFamily_1 : decode cX7_isFamily 1 = .ok (.iconst 0, 1) := by decide +kernel
theorem dX7_isFamily_2 : decode cX7_isFamily 2 = .ok (.bipush 7, 2) := by decide +kernel
theorem dX7_isFamily_4 : decode cX7_isFamily 4 = .ok (.invokestatic 50, 3) := by decide +kernel
theorem dX7_isFamily_7 : decode cX7_isFamily 7 = .ok (.ireturn, 1) := by decide +kernel
theorem dX7_isSong_0 : decode cX7_isSong 0 = .ok (.iload_n 0, 1) := by decide +kernel
theorem dX7_isSong_1 : decode cX7_isSong 1 = .ok (.iconst 0, 1) := by decide +kernel
theorem dX7_isSong_2 : decode cX7_isSong 2 = .ok (.iconst 3, 1) := by decide +kernel
theorem dX7_isSong_3 : decode cX7_isSong 3 = .ok (.invokestatic 50, 3) := by decide +kernel
theorem dX7_isSong_6 : decode cX7_isSong 6 = .ok (.ireturn, 1) := by decide +kernel
theorem dX7_isHearer_0 : decode cX7_isHearer 0 = .ok (.iload_n 0, 1) := by decide +kernel
theorem dX7_isHearer_1 : decode cX7_isHearer 1 = .ok (.iconst 0, 1) := by decide +kernel
theorem dX7_isHearer_2 : decode cX7_isHearer 2 = .ok (.iconst 5, 1) := by decide +kernel
theorem dX7_isHearer_3 : decode cX7_isHearer 3 = .ok (.invokestatic 50, 3) := by decide +kernel
theorem dX7_isHearer_6 : decode cX7_isHearer 6 = .ok (.ireturn, 1) := by decide +kernel
theorem dX7_isDay_0 : decode cX7_isDay 0 = .ok (.iload_n 0, 1) := by decide +kernel
theorem dX7_isDay_1 : decode cX7_isDay 1 = .ok (.iconst 0, 1) := by decide +kernel
theorem dX7_isDay_2 : decode cX7_isDay 2 = .ok (.sipush 9999, 3) := by decide +kernel
theorem dX7_isDay_5 : decode cX7_isDay 5 = .ok (.invokestatic 50, 3) := by decide +kernel
theorem dX7_isDay_8 : decode cX7_isDay 8 = .ok (.ireturn, 1) := by decide +kernel
theorem dX7_within_0 : decode cX7_within 0 = .ok (.iload_n 0, 1) := by decide +kernel
theorem dX7_within_1 : decode cX7_within 1 = .ok (.iload_n 1, 1) := by decide +kernel
theorem dX7_within_2 : decode cX7_within 2 = .ok (.if_icmp .lt 12, 3) := by decide +kernel
theorem dX7_within_5 : decode cX7_within 5 = .ok (.iload_n 0, 1) := by decide +kernel
theorem dX7_within_6 : decode cX7_within 6 = .ok (.iload_n 2, 1) := by decide +kernel
theorem dX7_within_7 : decode cX7_within 7 = .ok (.if_icmp .gt 7, 3) := by decide +kernel
theorem dX7_within_10 : decode cX7_within 10 = .ok (.iconst 1, 1) := by decide +kernel
theorem dX7_within_11 : decode cX7_within 11 = .ok (.goto 4, 3) := by decide +kernel
theorem dX7_within_14 : decode cX7_within 14 = .ok (.iconst 0, 1) := by decide +kernel
theorem dX7_within_15 : decode cX7_within 15 = .ok (.ireturn, 1) := by decide +kernel
theorem dX7_holds_0 : decode cX7_holds 0 = .ok (.iload_n 0, 1) := by decide +kernel
theorem dX7_holds_1 : decode cX7_holds 1 = .ok (.iconst 1, 1) := by decide +kernel
theorem dX7_holds_2 : decode cX7_holds 2 = .ok (.iload_n 1, 1) := by decide +kernel
theorem dX7_holds_3 : decode cX7_holds 3 = .ok (.ishl, 1) := by decide +kernel
theorem dX7_holds_4 : decode cX7_holds 4 = .ok (.iand, 1) := by decide +kernel
theorem dX7_holds_5 : decode cX7_holds 5 = .ok (.ifCond .eq 7, 3) := by decide +kernel
theorem dX7_holds_8 : decode cX7_holds 8 = .ok (.iconst 1, 1) := by decide +kernel
theorem dX7_holds_9 : decode cX7_holds 9 = .ok (.goto 4, 3) := by decide +kernel
theorem dX7_holds_12 : decode cX7_holds 12 = .ok (.iconst 0, 1) := by decide +kernel
theorem dX7_holds_13 : decode cX7_holds 13 = .ok (.ireturn, 1) := by decide +kernel
theorem dX8_init_0 : decode cX8_init 0 = .ok (.aload_n 0, 1) := by decide +kernel
theorem dX8_init_1 : decode cX8_init 1 = .ok (.invokespecial 1, 3) := by decide +kernel
theorem dX8_init_4 : decode cX8_init 4 = .ok (.aload_n 0, 1) := by decide +kernel
theorem dX8_init_5 : decode cX8_init 5 = .ok (.bipush 16, 2) := by decide +kernel
theorem dX8_init_7 : decode cX8_init 7 = .ok (.newarray .int, 2) := by decide +kernel
theorem dX8_init_9 : decode cX8_init 9 = .ok (.putfield 7, 3) := by decide +kernel
theorem dX8_init_12 : decode cX8_init 12 = .ok (.aload_n 0, 1) := by decide +kernel
theorem dX8_init_13 : decode cX8_init 13 = .ok (.bipush 16, 2) := by decide +kernel
theorem dX8_init_15 : decode cX8_init 15 = .ok (.newarray .int, 2) := by decide +kernel
theorem dX8_init_17 : decode cX8_init 17 = .ok (.putfield 13, 3) := by decide +kernel
theorem dX8_init_20 : decode cX8_init 20 = .ok (.aload_n 0, 1) := by decide +kernel
theorem dX8_init_21 : decode cX8_init 21 = .ok (.bipush 16, 2) := by decide +kernel
theorem dX8_init_23 : decode cX8_init 23 = .ok (.newarray .int, 2) := by decide +kernel
theorem dX8_init_25 : decode cX8_init 25 = .ok (.putfield 16, 3) := by decide +kernel
theorem dX8_init_28 : decode cX8_init 28 = .ok (.aload_n 0, 1) := by decide +kernel
theorem dX8_init_29 : decode cX8_init 29 = .ok (.bipush 16, 2) := by decide +kernel
theorem dX8_init_31 : decode cX8_init 31 = .ok (.newarray .int, 2) := by decide +kernel
theorem dX8_init_33 : decode cX8_init 33 = .ok (.putfield 19, 3) := by decide +kernel
theorem dX8_init_36 : decode cX8_init 36 = .ok (.aload_n 0, 1) := by decide +kernel
theorem dX8_init_37 : decode cX8_init 37 = .ok (.bipush 16, 2) := by decide +kernel
theorem dX8_init_39 : decode cX8_init 39 = .ok (.newarray .int, 2) := by decide +kernel
theorem dX8_init_41 : decode cX8_init 41 = .ok (.putfield 22, 3) := by decide +kernel
theorem dX8_init_44 : decode cX8_init 44 = .ok (.aload_n 0, 1) := by decide +kernel
theorem dX8_init_45 : decode cX8_init 45 = .ok (.bipush 16, 2) := by decide +kernel
theorem dX8_init_47 : decode cX8_init 47 = .ok (.newarray .int, 2) := by decide +kernel
theorem dX8_init_49 : decode cX8_init 49 = .ok (.putfield 25, 3) := by decide +kernel
theorem dX8_init_52 : decode cX8_init 52 = .ok (.aload_n 0, 1) := by decide +kernel
theorem dX8_init_53 : decode cX8_init 53 = .ok (.bipush 16, 2) := by decide +kernel
theorem dX8_init_55 : decode cX8_init 55 = .ok (.newarray .int, 2) := by decide +kernel
theorem dX8_init_57 : decode cX8_init 57 = .ok (.putfield 28, 3) := by decide +kernel
theorem dX8_init_60 : decode cX8_init 60 = .ok (.aload_n 0, 1) := by decide +kernel
theorem dX8_init_61 : decode cX8_init 61 = .ok (.bipush 16, 2) := by decide +kernel
theorem dX8_init_63 : decode cX8_init 63 = .ok (.newarray .int, 2) := by decide +kernel
theorem dX8_init_65 : decode cX8_init 65 = .ok (.putfield 31, 3) := by decide +kernel
theorem dX8_init_68 : decode cX8_init 68 = .ok (.aload_n 0, 1) := by decide +kernel
theorem dX8_init_69 : decode cX8_init 69 = .ok (.bipush 16, 2) := by decide +kernel
theorem dX8_init_71 : decode cX8_init 71 = .ok (.newarray .int, 2) := by decide +kernel
theorem dX8_init_73 : decode cX8_init 73 = .ok (.putfield 34, 3) := by decide +kernel
theorem dX8_init_76 : decode cX8_init 76 = .ok (.aload_n 0, 1) := by decide +kernel
theorem dX8_init_77 : decode cX8_init 77 = .ok (.bipush 16, 2) := by decide +kernel
theorem dX8_init_79 : decode cX8_init 79 = .ok (.newarray .int, 2) := by decide +kernel
theorem dX8_init_81 : decode cX8_init 81 = .ok (.putfield 37, 3) := by decide +kernel
theorem dX8_init_84 : decode cX8_init 84 = .ok (.aload_n 0, 1) := by decide +kernel
theorem dX8_init_85 : decode cX8_init 85 = .ok (.bipush 16, 2) := by decide +kernel
theorem dX8_init_87 : decode cX8_init 87 = .ok (.newarray .int, 2) := by decide +kernel
theorem dX8_init_89 : decode cX8_init 89 = .ok (.putfield 40, 3) := by decide +kernel
theorem dX8_init_92 : decode cX8_init 92 = .ok (.aload_n 0, 1) := by decide +kernel
theorem dX8_init_93 : decode cX8_init 93 = .ok (.bipush 60, 2) := by decide +kernel
theorem dX8_init_95 : decode cX8_init 95 = .ok (.newarray .int, 2) := by decide +kernel
theorem dX8_init_97 : decode cX8_init 97 = .ok (.putfield 43, 3) := by decide +kernel
theorem dX8_init_100 : decode cX8_init 100 = .ok (.aload_n 0, 1) := by decide +kernel
theorem dX8_init_101 : decode cX8_init 101 = .ok (.bipush 60, 2) := by decide +kernel
theorem dX8_init_103 : decode cX8_init 103 = .ok (.newarray .int, 2) := by decide +kernel
theorem dX8_init_105 : decode cX8_init 105 = .ok (.putfield 46, 3) := by decide +kernel
theorem dX8_init_108 : decode cX8_init 108 = .ok (.aload_n 0, 1) := by decide +kernel
theorem dX8_init_109 : decode cX8_init 109 = .ok (.bipush 60, 2) := by decide +kernel
theorem dX8_init_111 : decode cX8_init 111 = .ok (.newarray .int, 2) := by decide +kernel
theorem dX8_init_113 : decode cX8_init 113 = .ok (.putfield 49, 3) := by decide +kernel
theorem dX8_init_116 : decode cX8_init 116 = .ok (.aload_n 0, 1) := by decide +kernel
theorem dX8_init_117 : decode cX8_init 117 = .ok (.bipush 60, 2) := by decide +kernel
theorem dX8_init_119 : decode cX8_init 119 = .ok (.newarray .int, 2) := by decide +kernel
theorem dX8_init_121 : decode cX8_init 121 = .ok (.putfield 52, 3) := by decide +kernel
theorem dX8_init_124 : decode cX8_init 124 = .ok (.aload_n 0, 1) := by decide +kernel
theorem dX8_init_125 : decode cX8_init 125 = .ok (.bipush 60, 2) := by decide +kernel
theorem dX8_init_127 : decode cX8_init 127 = .ok (.newarray .boolean, 2) := by decide +kernel
theorem dX8_init_129 : decode cX8_init 129 = .ok (.putfield 55, 3) := by decide +kernel
theorem dX8_init_132 : decode cX8_init 132 = .ok (.aload_n 0, 1) := by decide +kernel
theorem dX8_init_133 : decode cX8_init 133 = .ok (.bipush 7, 2) := by decide +kernel
theorem dX8_init_135 : decode cX8_init 135 = .ok (.newarray .int, 2) := by decide +kernel
theorem dX8_init_137 : decode cX8_init 137 = .ok (.putfield 59, 3) := by decide +kernel
theorem dX8_init_140 : decode cX8_init 140 = .ok (.aload_n 0, 1) := by decide +kernel
theorem dX8_init_141 : decode cX8_init 141 = .ok (.bipush 7, 2) := by decide +kernel
theorem dX8_init_143 : decode cX8_init 143 = .ok (.newarray .int, 2) := by decide +kernel
theorem dX8_init_145 : decode cX8_init 145 = .ok (.putfield 62, 3) := by decide +kernel
theorem dX8_init_148 : decode cX8_init 148 = .ok (.aload_n 0, 1) := by decide +kernel
theorem dX8_init_149 : decode cX8_init 149 = .ok (.bipush 60, 2) := by decide +kernel
theorem dX8_init_151 : decode cX8_init 151 = .ok (.newarray .int, 2) := by decide +kernel
theorem dX8_init_153 : decode cX8_init 153 = .ok (.putfield 65, 3) := by decide +kernel
theorem dX8_init_156 : decode cX8_init 156 = .ok (.aload_n 0, 1) := by decide +kernel
theorem dX8_init_157 : decode cX8_init 157 = .ok (.bipush 60, 2) := by decide +kernel
theorem dX8_init_159 : decode cX8_init 159 = .ok (.newarray .int, 2) := by decide +kernel
theorem dX8_init_161 : decode cX8_init 161 = .ok (.putfield 68, 3) := by decide +kernel
theorem dX8_init_164 : decode cX8_init 164 = .ok (.aload_n 0, 1) := by decide +kernel
theorem dX8_init_165 : decode cX8_init 165 = .ok (.bipush 60, 2) := by decide +kernel
theorem dX8_init_167 : decode cX8_init 167 = .ok (.newarray .int, 2) := by decide +kernel
theorem dX8_init_169 : decode cX8_init 169 = .ok (.putfield 71, 3) := by decide +kernel
theorem dX8_init_172 : decode cX8_init 172 = .ok (.aload_n 0, 1) := by decide +kernel
theorem dX8_init_173 : decode cX8_init 173 = .ok (.bipush 60, 2) := by decide +kernel
theorem dX8_init_175 : decode cX8_init 175 = .ok (.newarray .int, 2) := by decide +kernel
theorem dX8_init_177 : decode cX8_init 177 = .ok (.putfield 74, 3) := by decide +kernel
theorem dX8_init_180 : decode cX8_init 180 = .ok (.aload_n 0, 1) := by decide +kernel
theorem dX8_init_181 : decode cX8_init 181 = .ok (.bipush 60, 2) := by decide +kernel
theorem dX8_init_183 : decode cX8_init 183 = .ok (.newarray .boolean, 2) := by decide +kernel
theorem dX8_init_185 : decode cX8_init 185 = .ok (.putfield 77, 3) := by decide +kernel
theorem dX8_init_188 : decode cX8_init 188 = .ok (.aload_n 0, 1) := by decide +kernel
theorem dX8_init_189 : decode cX8_init 189 = .ok (.bipush 6, 2) := by decide +kernel
theorem dX8_init_191 : decode cX8_init 191 = .ok (.newarray .int, 2) := by decide +kernel
theorem dX8_init_193 : decode cX8_init 193 = .ok (.putfield 80, 3) := by decide +kernel
theorem dX8_init_196 : decode cX8_init 196 = .ok (.aload_n 0, 1) := by decide +kernel
theorem dX8_init_197 : decode cX8_init 197 = .ok (.bipush 6, 2) := by decide +kernel
theorem dX8_init_199 : decode cX8_init 199 = .ok (.newarray .int, 2) := by decide +kernel
theorem dX8_init_201 : decode cX8_init 201 = .ok (.putfield 83, 3) := by decide +kernel
theorem dX8_init_204 : decode cX8_init 204 = .ok (.aload_n 0, 1) := by decide +kernel
theorem dX8_init_205 : decode cX8_init 205 = .ok (.iconst 3, 1) := by decide +kernel
theorem dX8_init_206 : decode cX8_init 206 = .ok (.newarray .int, 2) := by decide +kernel
theorem dX8_init_208 : decode cX8_init 208 = .ok (.putfield 86, 3) := by decide +kernel
theorem dX8_init_211 : decode cX8_init 211 = .ok (.aload_n 0, 1) := by decide +kernel
theorem dX8_init_212 : decode cX8_init 212 = .ok (.sipush 896, 3) := by decide +kernel
theorem dX8_init_215 : decode cX8_init 215 = .ok (.newarray .int, 2) := by decide +kernel
theorem dX8_init_217 : decode cX8_init 217 = .ok (.putfield 89, 3) := by decide +kernel
theorem dX8_init_220 : decode cX8_init 220 = .ok (.aload_n 0, 1) := by decide +kernel
theorem dX8_init_221 : decode cX8_init 221 = .ok (.sipush 896, 3) := by decide +kernel
theorem dX8_init_224 : decode cX8_init 224 = .ok (.newarray .int, 2) := by decide +kernel
theorem dX8_init_226 : decode cX8_init 226 = .ok (.putfield 92, 3) := by decide +kernel
theorem dX8_init_229 : decode cX8_init 229 = .ok (.return_, 1) := by decide +kernel
theorem dX8_in_0 : decode cX8_in 0 = .ok (.lload_n 0, 1) := by decide +kernel
theorem dX8_in_1 : decode cX8_in 1 = .ok (.lload_n 2, 1) := by decide +kernel
theorem dX8_in_2 : decode cX8_in 2 = .ok (.lcmp, 1) := by decide +kernel
theorem dX8_in_3 : decode cX8_in 3 = .ok (.ifCond .lt 14, 3) := by decide +kernel
theorem dX8_in_6 : decode cX8_in 6 = .ok (.lload_n 0, 1) := by decide +kernel
theorem dX8_in_7 : decode cX8_in 7 = .ok (.lload 4, 2) := by decide +kernel
theorem dX8_in_9 : decode cX8_in 9 = .ok (.lcmp, 1) := by decide +kernel
theorem dX8_in_10 : decode cX8_in 10 = .ok (.ifCond .gt 7, 3) := by decide +kernel
theorem dX8_in_13 : decode cX8_in 13 = .ok (.iconst 1, 1) := by decide +kernel
theorem dX8_in_14 : decode cX8_in 14 = .ok (.goto 4, 3) := by decide +kernel
theorem dX8_in_17 : decode cX8_in 17 = .ok (.iconst 0, 1) := by decide +kernel
theorem dX8_in_18 : decode cX8_in 18 = .ok (.ireturn, 1) := by decide +kernel
theorem dX8_noSide_0 : decode cX8_noSide 0 = .ok (.iload_n 1, 1) := by decide +kernel
theorem dX8_noSide_1 : decode cX8_noSide 1 = .ok (.i2l, 1) := by decide +kernel
theorem dX8_noSide_2 : decode cX8_noSide 2 = .ok (.lconst 0, 1) := by decide +kernel
theorem dX8_noSide_3 : decode cX8_noSide 3 = .ok (.aload_n 0, 1) := by decide +kernel
theorem dX8_noSide_4 : decode cX8_noSide 4 = .ok (.getfield 99, 3) := by decide +kernel
theorem dX8_noSide_7 : decode cX8_noSide 7 = .ok (.iconst 1, 1) := by decide +kernel
theorem dX8_noSide_8 : decode cX8_noSide 8 = .ok (.isub, 1) := by decide +kernel
theorem dX8_noSide_9 : decode cX8_noSide 9 = .ok (.i2l, 1) := by decide +kernel
theorem dX8_noSide_10 : decode cX8_noSide 10 = .ok (.invokestatic 102, 3) := by decide +kernel
theorem dX8_noSide_13 : decode cX8_noSide 13 = .ok (.ifCond .ne 7, 3) := by decide +kernel
theorem dX8_noSide_16 : decode cX8_noSide 16 = .ok (.iconst 1, 1) := by decide +kernel
theorem dX8_noSide_17 : decode cX8_noSide 17 = .ok (.goto 4, 3) := by decide +kernel
theorem dX8_noSide_20 : decode cX8_noSide 20 = .ok (.iconst 0, 1) := by decide +kernel
theorem dX8_noSide_21 : decode cX8_noSide 21 = .ok (.ireturn, 1) := by decide +kernel
theorem dX8_noSet_0 : decode cX8_noSet 0 = .ok (.iload_n 1, 1) := by decide +kernel
theorem dX8_noSet_1 : decode cX8_noSet 1 = .ok (.ifCond .lt 12, 3) := by decide +kernel
theorem dX8_noSet_4 : decode cX8_noSet 4 = .ok (.iload_n 1, 1) := by decide +kernel
theorem dX8_noSet_5 : decode cX8_noSet 5 = .ok (.aload_n 0, 1) := by decide +kernel
theorem dX8_noSet_6 : decode cX8_noSet 6 = .ok (.getfield 99, 3) := by decide +kernel
theorem dX8_noSet_9 : decode cX8_noSet 9 = .ok (.ishr, 1) := by decide +kernel
theorem dX8_noSet_10 : decode cX8_noSet 10 = .ok (.ifCond .eq 7, 3) := by decide +kernel
theorem dX8_noSet_13 : decode cX8_noSet 13 = .ok (.iconst 1, 1) := by decide +kernel
theorem dX8_noSet_14 : decode cX8_noSet 14 = .ok (.goto 4, 3) := by decide +kernel
theorem dX8_noSet_17 : decode cX8_noSet 17 = .ok (.iconst 0, 1) := by decide +kernel
theorem dX8_noSet_18 : decode cX8_noSet 18 = .ok (.ireturn, 1) := by decide +kernel
theorem dX8_bits_0 : decode cX8_bits 0 = .ok (.iconst 0, 1) := by decide +kernel
theorem dX8_bits_1 : decode cX8_bits 1 = .ok (.istore_n 1, 1) := by decide +kernel
theorem dX8_bits_2 : decode cX8_bits 2 = .ok (.iconst 0, 1) := by decide +kernel
theorem dX8_bits_3 : decode cX8_bits 3 = .ok (.istore_n 2, 1) := by decide +kernel
theorem dX8_bits_4 : decode cX8_bits 4 = .ok (.iload_n 2, 1) := by decide +kernel
theorem dX8_bits_5 : decode cX8_bits 5 = .ok (.bipush 16, 2) := by decide +kernel
theorem dX8_bits_7 : decode cX8_bits 7 = .ok (.if_icmp .ge 17, 3) := by decide +kernel
theorem dX8_bits_10 : decode cX8_bits 10 = .ok (.iload_n 1, 1) := by decide +kernel
theorem dX8_bits_11 : decode cX8_bits 11 = .ok (.iload_n 0, 1) := by decide +kernel
theorem dX8_bits_12 : decode cX8_bits 12 = .ok (.iload_n 2, 1) := by decide +kernel
theorem dX8_bits_13 : decode cX8_bits 13 = .ok (.ishr, 1) := by decide +kernel
theorem dX8_bits_14 : decode cX8_bits 14 = .ok (.iconst 1, 1) := by decide +kernel
theorem dX8_bits_15 : decode cX8_bits 15 = .ok (.iand, 1) := by decide +kernel
theorem dX8_bits_16 : decode cX8_bits 16 = .ok (.iadd, 1) := by decide +kernel
theorem dX8_bits_17 : decode cX8_bits 17 = .ok (.istore_n 1, 1) := by decide +kernel
theorem dX8_bits_18 : decode cX8_bits 18 = .ok (.iinc 2 1, 3) := by decide +kernel
theorem dX8_bits_21 : decode cX8_bits 21 = .ok (.goto (-17), 3) := by decide +kernel
theorem dX8_bits_24 : decode cX8_bits 24 = .ok (.iload_n 1, 1) := by decide +kernel
theorem dX8_bits_25 : decode cX8_bits 25 = .ok (.ireturn, 1) := by decide +kernel
theorem dX8_side_0 : decode cX8_side 0 = .ok (.aload_n 0, 1) := by decide +kernel
theorem dX8_side_1 : decode cX8_side 1 = .ok (.iconst 0, 1) := by decide +kernel
theorem dX8_side_2 : decode cX8_side 2 = .ok (.putfield 95, 3) := by decide +kernel
theorem dX8_side_5 : decode cX8_side 5 = .ok (.iload_n 1, 1) := by decide +kernel
theorem dX8_side_6 : decode cX8_side 6 = .ok (.i2l, 1) := by decide +kernel
theorem dX8_side_7 : decode cX8_side 7 = .ok (.lconst 0, 1) := by decide +kernel
theorem dX8_side_8 : decode cX8_side 8 = .ok (.ldc2_w 106, 3) := by decide +kernel
theorem dX8_side_11 : decode cX8_side 11 = .ok (.invokestatic 102, 3) := by decide +kernel
theorem dX8_side_14 : decode cX8_side 14 = .ok (.ifCond .eq 40, 3) := by decide +kernel
theorem dX8_side_17 : decode cX8_side 17 = .ok (.iload_n 2, 1) := by decide +kernel
theorem dX8_side_18 : decode cX8_side 18 = .ok (.i2l, 1) := by decide +kernel
theorem dX8_side_19 : decode cX8_side 19 = .ok (.lconst 0, 1) := by decide +kernel
theorem dX8_side_20 : decode cX8_side 20 = .ok (.ldc2_w 108, 3) := by decide +kernel
theorem dX8_side_23 : decode cX8_side 23 = .ok (.invokestatic 102, 3) := by decide +kernel
theorem dX8_side_26 : decode cX8_side 26 = .ok (.ifCond .eq 28, 3) := by decide +kernel
theorem dX8_side_29 : decode cX8_side 29 = .ok (.iload_n 3, 1) := by decide +kernel
theorem dX8_side_30 : decode cX8_side 30 = .ok (.i2l, 1) := by decide +kernel
theorem dX8_side_31 : decode cX8_side 31 = .ok (.lconst 0, 1) := by decide +kernel
theorem dX8_side_32 : decode cX8_side 32 = .ok (.ldc2_w 108, 3) := by decide +kernel
theorem dX8_side_35 : decode cX8_side 35 = .ok (.invokestatic 102, 3) := by decide +kernel
theorem dX8_side_38 : decode cX8_side 38 = .ok (.ifCond .eq 16, 3) := by decide +kernel
theorem dX8_side_41 : decode cX8_side 41 = .ok (.iload 4, 2) := by decide +kernel
theorem dX8_side_43 : decode cX8_side 43 = .ok (.i2l, 1) := by decide +kernel
theorem dX8_side_44 : decode cX8_side 44 = .ok (.lconst 0, 1) := by decide +kernel
theorem dX8_side_45 : decode cX8_side 45 = .ok (.ldc2_w 108, 3) := by decide +kernel
theorem dX8_side_48 : decode cX8_side 48 = .ok (.invokestatic 102, 3) := by decide +kernel
theorem dX8_side_51 : decode cX8_side 51 = .ok (.ifCond .ne 6, 3) := by decide +kernel
theorem dX8_side_54 : decode cX8_side 54 = .ok (.bipush (-2), 2) := by decide +kernel
theorem dX8_side_56 : decode cX8_side 56 = .ok (.ireturn, 1) := by decide +kernel
theorem dX8_side_57 : decode cX8_side 57 = .ok (.aload_n 0, 1) := by decide +kernel
theorem dX8_side_58 : decode cX8_side 58 = .ok (.getfield 99, 3) := by decide +kernel
theorem dX8_side_61 : decode cX8_side 61 = .ok (.bipush 16, 2) := by decide +kernel
theorem dX8_side_63 : decode cX8_side 63 = .ok (.if_icmp .ne 6, 3) := by decide +kernel
theorem dX8_side_66 : decode cX8_side 66 = .ok (.bipush (-4), 2) := by decide +kernel
theorem dX8_side_68 : decode cX8_side 68 = .ok (.ireturn, 1) := by decide +kernel
theorem dX8_side_69 : decode cX8_side 69 = .ok (.aload_n 0, 1) := by decide +kernel
theorem dX8_side_70 : decode cX8_side 70 = .ok (.getfield 7, 3) := by decide +kernel
theorem dX8_side_73 : decode cX8_side 73 = .ok (.aload_n 0, 1) := by decide +kernel
theorem dX8_side_74 : decode cX8_side 74 = .ok (.getfield 99, 3) := by decide +kernel
theorem dX8_side_77 : decode cX8_side 77 = .ok (.iload_n 1, 1) := by decide +kernel
theorem dX8_side_78 : decode cX8_side 78 = .ok (.iastore, 1) := by decide +kernel
theorem dX8_side_79 : decode cX8_side 79 = .ok (.aload_n 0, 1) := by decide +kernel
theorem dX8_side_80 : decode cX8_side 80 = .ok (.getfield 13, 3) := by decide +kernel
theorem dX8_side_83 : decode cX8_side 83 = .ok (.aload_n 0, 1) := by decide +kernel
theorem dX8_side_84 : decode cX8_side 84 = .ok (.getfield 99, 3) := by decide +kernel
theorem dX8_side_87 : decode cX8_side 87 = .ok (.iload_n 2, 1) := by decide +kernel
theorem dX8_side_88 : decode cX8_side 88 = .ok (.iastore, 1) := by decide +kernel
theorem dX8_side_89 : decode cX8_side 89 = .ok (.aload_n 0, 1) := by decide +kernel
theorem dX8_side_90 : decode cX8_side 90 = .ok (.getfield 16, 3) := by decide +kernel
theorem dX8_side_93 : decode cX8_side 93 = .ok (.aload_n 0, 1) := by decide +kernel
theorem dX8_side_94 : decode cX8_side 94 = .ok (.getfield 99, 3) := by decide +kernel
theorem dX8_side_97 : decode cX8_side 97 = .ok (.iload_n 3, 1) := by decide +kernel
theorem dX8_side_98 : decode cX8_side 98 = .ok (.iastore, 1) := by decide +kernel
theorem dX8_side_99 : decode cX8_side 99 = .ok (.aload_n 0, 1) := by decide +kernel
theorem dX8_side_100 : decode cX8_side 100 = .ok (.getfield 19, 3) := by decide +kernel
theorem dX8_side_103 : decode cX8_side 103 = .ok (.aload_n 0, 1) := by decide +kernel
theorem dX8_side_104 : decode cX8_side 104 = .ok (.getfield 99, 3) := by decide +kernel
theorem dX8_side_107 : decode cX8_side 107 = .ok (.iload 4, 2) := by decide +kernel
theorem dX8_side_109 : decode cX8_side 109 = .ok (.iastore, 1) := by decide +kernel
theorem dX8_side_110 : decode cX8_side 110 = .ok (.aload_n 0, 1) := by decide +kernel
theorem dX8_side_111 : decode cX8_side 111 = .ok (.getfield 22, 3) := by decide +kernel
theorem dX8_side_114 : decode cX8_side 114 = .ok (.aload_n 0, 1) := by decide +kernel
theorem dX8_side_115 : decode cX8_side 115 = .ok (.getfield 99, 3) := by decide +kernel
theorem dX8_side_118 : decode cX8_side 118 = .ok (.bipush 10, 2) := by decide +kernel
theorem dX8_side_120 : decode cX8_side 120 = .ok (.iastore, 1) := by decide +kernel
theorem dX8_side_121 : decode cX8_side 121 = .ok (.aload_n 0, 1) := by decide +kernel
theorem dX8_side_122 : decode cX8_side 122 = .ok (.getfield 25, 3) := by decide +kernel
theorem dX8_side_125 : decode cX8_side 125 = .ok (.aload_n 0, 1) := by decide +kernel
theorem dX8_side_126 : decode cX8_side 126 = .ok (.getfield 99, 3) := by decide +kernel
theorem dX8_side_129 : decode cX8_side 129 = .ok (.iconst 5, 1) := by decide +kernel
theorem dX8_side_130 : decode cX8_side 130 = .ok (.iastore, 1) := by decide +kernel
theorem dX8_side_131 : decode cX8_side 131 = .ok (.aload_n 0, 1) := by decide +kernel
theorem dX8_side_132 : decode cX8_side 132 = .ok (.getfield 31, 3) := by decide +kernel
theorem dX8_side_135 : decode cX8_side 135 = .ok (.aload_n 0, 1) := by decide +kernel
theorem dX8_side_136 : decode cX8_side 136 = .ok (.getfield 99, 3) := by decide +kernel
theorem dX8_side_139 : decode cX8_side 139 = .ok (.bipush (-9), 2) := by decide +kernel
theorem dX8_side_141 : decode cX8_side 141 = .ok (.iastore, 1) := by decide +kernel
theorem dX8_side_142 : decode cX8_side 142 = .ok (.aload_n 0, 1) := by decide +kernel
theorem dX8_side_143 : decode cX8_side 143 = .ok (.getfield 34, 3) := by decide +kernel
theorem dX8_side_146 : decode cX8_side 146 = .ok (.aload_n 0, 1) := by decide +kernel
theorem dX8_side_147 : decode cX8_side 147 = .ok (.getfield 99, 3) := by decide +kernel
theorem dX8_side_150 : decode cX8_side 150 = .ok (.bipush (-9), 2) := by decide +kernel
theorem dX8_side_152 : decode cX8_side 152 = .ok (.iastore, 1) := by decide +kernel
theorem dX8_side_153 : decode cX8_side 153 = .ok (.aload_n 0, 1) := by decide +kernel
theorem dX8_side_154 : decode cX8_side 154 = .ok (.dup, 1) := by decide +kernel
theorem dX8_side_155 : decode cX8_side 155 = .ok (.getfield 99, 3) := by decide +kernel
theorem dX8_side_158 : decode cX8_side 158 = .ok (.iconst 1, 1) := by decide +kernel
theorem dX8_side_159 : decode cX8_side 159 = .ok (.iadd, 1) := by decide +kernel
theorem dX8_side_160 : decode cX8_side 160 = .ok (.putfield 99, 3) := by decide +kernel
theorem dX8_side_163 : decode cX8_side 163 = .ok (.aload_n 0, 1) := by decide +kernel
theorem dX8_side_164 : decode cX8_side 164 = .ok (.getfield 99, 3) := by decide +kernel
theorem dX8_side_167 : decode cX8_side 167 = .ok (.iconst 1, 1) := by decide +kernel
theorem dX8_side_168 : decode cX8_side 168 = .ok (.isub, 1) := by decide +kernel
theorem dX8_side_169 : decode cX8_side 169 = .ok (.ireturn, 1) := by decide +kernel
theorem dX8_hours_0 : decode cX8_hours 0 = .ok (.aload_n 0, 1) := by decide +kernel
theorem dX8_hours_1 : decode cX8_hours 1 = .ok (.iconst 0, 1) := by decide +kernel
theorem dX8_hours_2 : decode cX8_hours 2 = .ok (.putfield 95, 3) := by decide +kernel
theorem dX8_hours_5 : decode cX8_hours 5 = .ok (.aload_n 0, 1) := by decide +kernel
theorem dX8_hours_6 : decode cX8_hours 6 = .ok (.iload_n 1, 1) := by decide +kernel
theorem dX8_hours_7 : decode cX8_hours 7 = .ok (.invokevirtual 110, 3) := by decide +kernel
theorem dX8_hours_10 : decode cX8_hours 10 = .ok (.ifCond .eq 5, 3) := by decide +kernel
theorem dX8_hours_13 : decode cX8_hours 13 = .ok (.iconst (-1), 1) := by decide +kernel
theorem dX8_hours_14 : decode cX8_hours 14 = .ok (.ireturn, 1) := by decide +kernel
theorem dX8_hours_15 : decode cX8_hours 15 = .ok (.iload_n 2, 1) := by decide +kernel
theorem dX8_hours_16 : decode cX8_hours 16 = .ok (.i2l, 1) := by decide +kernel
theorem dX8_hours_17 : decode cX8_hours 17 = .ok (.lconst 1, 1) := by decide +kernel
theorem dX8_hours_18 : decode cX8_hours 18 = .ok (.ldc2_w 106, 3) := by decide +kernel
theorem dX8_hours_21 : decode cX8_hours 21 = .ok (.invokestatic 102, 3) := by decide +kernel
theorem dX8_hours_24 : decode cX8_hours 24 = .ok (.ifCond .eq 15, 3) := by decide +kernel
theorem dX8_hours_27 : decode cX8_hours 27 = .ok (.iload_n 3, 1) := by decide +kernel
theorem dX8_hours_28 : decode cX8_hours 28 = .ok (.i2l, 1) := by decide +kernel
theorem dX8_hours_29 : decode cX8_hours 29 = .ok (.lconst 1, 1) := by decide +kernel
theorem dX8_hours_30 : decode cX8_hours 30 = .ok (.ldc2_w 106, 3) := by decide +kernel
theorem dX8_hours_33 : decode cX8_hours 33 = .ok (.invokestatic 102, 3) := by decide +kernel
theorem dX8_hours_36 : decode cX8_hours 36 = .ok (.ifCond .ne 6, 3) := by decide +kernel
theorem dX8_hours_39 : decode cX8_hours 39 = .ok (.bipush (-2), 2) := by decide +kernel
theorem dX8_hours_41 : decode cX8_hours 41 = .ok (.ireturn, 1) := by decide +kernel
theorem dX8_hours_42 : decode cX8_hours 42 = .ok (.aload_n 0, 1) := by decide +kernel
theorem dX8_hours_43 : decode cX8_hours 43 = .ok (.getfield 22, 3) := by decide +kernel
theorem dX8_hours_46 : decode cX8_hours 46 = .ok (.iload_n 1, 1) := by decide +kernel
theorem dX8_hours_47 : decode cX8_hours 47 = .ok (.iload_n 2, 1) := by decide +kernel
theorem dX8_hours_48 : decode cX8_hours 48 = .ok (.iastore, 1) := by decide +kernel
theorem dX8_hours_49 : decode cX8_hours 49 = .ok (.aload_n 0, 1) := by decide +kernel
theorem dX8_hours_50 : decode cX8_hours 50 = .ok (.getfield 25, 3) := by decide +kernel
theorem dX8_hours_53 : decode cX8_hours 53 = .ok (.iload_n 1, 1) := by decide +kernel
theorem dX8_hours_54 : decode cX8_hours 54 = .ok (.iload_n 3, 1) := by decide +kernel
theorem dX8_hours_55 : decode cX8_hours 55 = .ok (.iastore, 1) := by decide +kernel
theorem dX8_hours_56 : decode cX8_hours 56 = .ok (.iconst 1, 1) := by decide +kernel
theorem dX8_hours_57 : decode cX8_hours 57 = .ok (.ireturn, 1) := by decide +kernel
theorem dX8_told_0 : decode cX8_told 0 = .ok (.aload_n 0, 1) := by decide +kernel
theorem dX8_told_1 : decode cX8_told 1 = .ok (.iconst 0, 1) := by decide +kernel
theorem dX8_told_2 : decode cX8_told 2 = .ok (.putfield 95, 3) := by decide +kernel
theorem dX8_told_5 : decode cX8_told 5 = .ok (.aload_n 0, 1) := by decide +kernel
theorem dX8_told_6 : decode cX8_told 6 = .ok (.iload_n 1, 1) := by decide +kernel
theorem dX8_told_7 : decode cX8_told 7 = .ok (.invokevirtual 110, 3) := by decide +kernel
theorem dX8_told_10 : decode cX8_told 10 = .ok (.ifCond .eq 5, 3) := by decide +kernel
theorem dX8_told_13 : decode cX8_told 13 = .ok (.iconst (-1), 1) := by decide +kernel
theorem dX8_told_14 : decode cX8_told 14 = .ok (.ireturn, 1) := by decide +kernel
theorem dX8_told_15 : decode cX8_told 15 = .ok (.iload_n 2, 1) := by decide +kernel
theorem dX8_told_16 : decode cX8_told 16 = .ok (.tableswitch 115 0 8 #[52, 59, 66, 73, 80, 87, 94, 101, 108], 52) := by decide +kernel
theorem dX8_told_68 : decode cX8_told 68 = .ok (.aload_n 0, 1) := by decide +kernel
theorem dX8_told_69 : decode cX8_told 69 = .ok (.getfield 7, 3) := by decide +kernel
theorem dX8_told_72 : decode cX8_told 72 = .ok (.iload_n 1, 1) := by decide +kernel
theorem dX8_told_73 : decode cX8_told 73 = .ok (.iaload, 1) := by decide +kernel
theorem dX8_told_74 : decode cX8_told 74 = .ok (.ireturn, 1) := by decide +kernel
theorem dX8_told_75 : decode cX8_told 75 = .ok (.aload_n 0, 1) := by decide +kernel
theorem dX8_told_76 : decode cX8_told 76 = .ok (.getfield 13, 3) := by decide +kernel
theorem dX8_told_79 : decode cX8_told 79 = .ok (.iload_n 1, 1) := by decide +kernel
theorem dX8_told_80 : decode cX8_told 80 = .ok (.iaload, 1) := by decide +kernel
theorem dX8_told_81 : decode cX8_told 81 = .ok (.ireturn, 1) := by decide +kernel
theorem dX8_told_82 : decode cX8_told 82 = .ok (.aload_n 0, 1) := by decide +kernel
theorem dX8_told_83 : decode cX8_told 83 = .ok (.getfield 16, 3) := by decide +kernel
theorem dX8_told_86 : decode cX8_told 86 = .ok (.iload_n 1, 1) := by decide +kernel
theorem dX8_told_87 : decode cX8_told 87 = .ok (.iaload, 1) := by decide +kernel
theorem dX8_told_88 : decode cX8_told 88 = .ok (.ireturn, 1) := by decide +kernel
theorem dX8_told_89 : decode cX8_told 89 = .ok (.aload_n 0, 1) := by decide +kernel
theorem dX8_told_90 : decode cX8_told 90 = .ok (.getfield 19, 3) := by decide +kernel
theorem dX8_told_93 : decode cX8_told 93 = .ok (.iload_n 1, 1) := by decide +kernel
theorem dX8_told_94 : decode cX8_told 94 = .ok (.iaload, 1) := by decide +kernel
theorem dX8_told_95 : decode cX8_told 95 = .ok (.ireturn, 1) := by decide +kernel
theorem dX8_told_96 : decode cX8_told 96 = .ok (.aload_n 0, 1) := by decide +kernel
theorem dX8_told_97 : decode cX8_told 97 = .ok (.getfield 22, 3) := by decide +kernel
theorem dX8_told_100 : decode cX8_told 100 = .ok (.iload_n 1, 1) := by decide +kernel
theorem dX8_told_101 : decode cX8_told 101 = .ok (.iaload, 1) := by decide +kernel
theorem dX8_told_102 : decode cX8_told 102 = .ok (.ireturn, 1) := by decide +kernel
theorem dX8_told_103 : decode cX8_told 103 = .ok (.aload_n 0, 1) := by decide +kernel
theorem dX8_told_104 : decode cX8_told 104 = .ok (.getfield 25, 3) := by decide +kernel
theorem dX8_told_107 : decode cX8_told 107 = .ok (.iload_n 1, 1) := by decide +kernel
theorem dX8_told_108 : decode cX8_told 108 = .ok (.iaload, 1) := by decide +kernel
theorem dX8_told_109 : decode cX8_told 109 = .ok (.ireturn, 1) := by decide +kernel
theorem dX8_told_110 : decode cX8_told 110 = .ok (.aload_n 0, 1) := by decide +kernel
theorem dX8_told_111 : decode cX8_told 111 = .ok (.getfield 28, 3) := by decide +kernel
theorem dX8_told_114 : decode cX8_told 114 = .ok (.iload_n 1, 1) := by decide +kernel
theorem dX8_told_115 : decode cX8_told 115 = .ok (.iaload, 1) := by decide +kernel
theorem dX8_told_116 : decode cX8_told 116 = .ok (.ireturn, 1) := by decide +kernel
theorem dX8_told_117 : decode cX8_told 117 = .ok (.aload_n 0, 1) := by decide +kernel
theorem dX8_told_118 : decode cX8_told 118 = .ok (.getfield 31, 3) := by decide +kernel
theorem dX8_told_121 : decode cX8_told 121 = .ok (.iload_n 1, 1) := by decide +kernel
theorem dX8_told_122 : decode cX8_told 122 = .ok (.iaload, 1) := by decide +kernel
theorem dX8_told_123 : decode cX8_told 123 = .ok (.ireturn, 1) := by decide +kernel
theorem dX8_told_124 : decode cX8_told 124 = .ok (.aload_n 0, 1) := by decide +kernel
theorem dX8_told_125 : decode cX8_told 125 = .ok (.getfield 34, 3) := by decide +kernel
theorem dX8_told_128 : decode cX8_told 128 = .ok (.iload_n 1, 1) := by decide +kernel
theorem dX8_told_129 : decode cX8_told 129 = .ok (.iaload, 1) := by decide +kernel
theorem dX8_told_130 : decode cX8_told 130 = .ok (.ireturn, 1) := by decide +kernel
theorem dX8_told_131 : decode cX8_told 131 = .ok (.bipush (-2), 2) := by decide +kernel
theorem dX8_told_133 : decode cX8_told 133 = .ok (.ireturn, 1) := by decide +kernel
theorem dX8_atLeastNone_0 : decode cX8_atLeastNone 0 = .ok (.iload_n 0, 1) := by decide +kernel
theorem dX8_atLeastNone_1 : decode cX8_atLeastNone 1 = .ok (.ifCond .le 7, 3) := by decide +kernel
theorem dX8_atLeastNone_4 : decode cX8_atLeastNone 4 = .ok (.iload_n 0, 1) := by decide +kernel
theorem dX8_atLeastNone_5 : decode cX8_atLeastNone 5 = .ok (.goto 4, 3) := by decide +kernel
theorem dX8_atLeastNone_8 : decode cX8_atLeastNone 8 = .ok (.iconst 0, 1) := by decide +kernel
theorem dX8_atLeastNone_9 : decode cX8_atLeastNone 9 = .ok (.ireturn, 1) := by decide +kernel
theorem dX8_read_0 : decode cX8_read 0 = .ok (.aload_n 0, 1) := by decide +kernel
theorem dX8_read_1 : decode cX8_read 1 = .ok (.iconst 0, 1) := by decide +kernel
theorem dX8_read_2 : decode cX8_read 2 = .ok (.putfield 95, 3) := by decide +kernel
theorem dX8_read_5 : decode cX8_read 5 = .ok (.aload_n 0, 1) := by decide +kernel
theorem dX8_read_6 : decode cX8_read 6 = .ok (.iload_n 1, 1) := by decide +kernel
theorem dX8_read_7 : decode cX8_read 7 = .ok (.invokevirtual 110, 3) := by decide +kernel
theorem dX8_read_10 : decode cX8_read 10 = .ok (.ifCond .eq 5, 3) := by decide +kernel
theorem dX8_read_13 : decode cX8_read 13 = .ok (.iconst (-1), 1) := by decide +kernel
theorem dX8_read_14 : decode cX8_read 14 = .ok (.ireturn, 1) := by decide +kernel
theorem dX8_read_15 : decode cX8_read 15 = .ok (.aload_n 0, 1) := by decide +kernel
theorem dX8_read_16 : decode cX8_read 16 = .ok (.getfield 13, 3) := by decide +kernel
theorem dX8_read_19 : decode cX8_read 19 = .ok (.iload_n 1, 1) := by decide +kernel
theorem dX8_read_20 : decode cX8_read 20 = .ok (.iaload, 1) := by decide +kernel
theorem dX8_read_21 : decode cX8_read 21 = .ok (.ifCond .ne 6, 3) := by decide +kernel
