theorem dX8_stepsTo_43 : decode cX8_stepsTo 43 = .ok (.bipush (-9), 2) := by decide +kernel
theorem dX8_stepsTo_45 : decode cX8_stepsTo 45 = .ok (.ireturn, 1) := by decide +kernel
theorem dX8_copy_0 : decode cX8_copy 0 = .ok (.aload_n 0, 1) := by decide +kernel
theorem dX8_copy_1 : decode cX8_copy 1 = .ok (.iconst 0, 1) := by decide +kernel
theorem dX8_copy_2 : decode cX8_copy 2 = .ok (.putfield 95, 3) := by decide +kernel
theorem dX8_copy_5 : decode cX8_copy 5 = .ok (.aload_n 0, 1) := by decide +kernel
theorem dX8_copy_6 : decode cX8_copy 6 = .ok (.iload_n 1, 1) := by decide +kernel
theorem dX8_copy_7 : decode cX8_copy 7 = .ok (.invokevirtual 110, 3) := by decide +kernel
theorem dX8_copy_10 : decode cX8_copy 10 = .ok (.ifCond .ne 17, 3) := by decide +kernel
theorem dX8_copy_13 : decode cX8_copy 13 = .ok (.iload_n 2, 1) := by decide +kernel
theorem dX8_copy_14 : decode cX8_copy 14 = .ok (.bipush (-9), 2) := by decide +kernel
theorem dX8_copy_16 : decode cX8_copy 16 = .ok (.if_icmp .eq 13, 3) := by decide +kernel
theorem dX8_copy_19 : decode cX8_copy 19 = .ok (.aload_n 0, 1) := by decide +kernel
theorem dX8_copy_20 : decode cX8_copy 20 = .ok (.iload_n 2, 1) := by decide +kernel
theorem dX8_copy_21 : decode cX8_copy 21 = .ok (.invokevirtual 110, 3) := by decide +kernel
theorem dX8_copy_24 : decode cX8_copy 24 = .ok (.ifCond .eq 5, 3) := by decide +kernel
theorem dX8_copy_27 : decode cX8_copy 27 = .ok (.iconst (-1), 1) := by decide +kernel
theorem dX8_copy_28 : decode cX8_copy 28 = .ok (.ireturn, 1) := by decide +kernel
theorem dX8_copy_29 : decode cX8_copy 29 = .ok (.iload_n 2, 1) := by decide +kernel
theorem dX8_copy_30 : decode cX8_copy 30 = .ok (.bipush (-9), 2) := by decide +kernel
theorem dX8_copy_32 : decode cX8_copy 32 = .ok (.if_icmp .eq 17, 3) := by decide +kernel
theorem dX8_copy_35 : decode cX8_copy 35 = .ok (.aload_n 0, 1) := by decide +kernel
theorem dX8_copy_36 : decode cX8_copy 36 = .ok (.iload_n 2, 1) := by decide +kernel
theorem dX8_copy_37 : decode cX8_copy 37 = .ok (.iload_n 1, 1) := by decide +kernel
theorem dX8_copy_38 : decode cX8_copy 38 = .ok (.invokevirtual 225, 3) := by decide +kernel
theorem dX8_copy_41 : decode cX8_copy 41 = .ok (.bipush (-9), 2) := by decide +kernel
theorem dX8_copy_43 : decode cX8_copy 43 = .ok (.if_icmp .eq 6, 3) := by decide +kernel
theorem dX8_copy_46 : decode cX8_copy 46 = .ok (.bipush (-3), 2) := by decide +kernel
theorem dX8_copy_48 : decode cX8_copy 48 = .ok (.ireturn, 1) := by decide +kernel
theorem dX8_copy_49 : decode cX8_copy 49 = .ok (.aload_n 0, 1) := by decide +kernel
theorem dX8_copy_50 : decode cX8_copy 50 = .ok (.getfield 34, 3) := by decide +kernel
theorem dX8_copy_53 : decode cX8_copy 53 = .ok (.iload_n 1, 1) := by decide +kernel
theorem dX8_copy_54 : decode cX8_copy 54 = .ok (.iaload, 1) := by decide +kernel
theorem dX8_copy_55 : decode cX8_copy 55 = .ok (.istore_n 3, 1) := by decide +kernel
theorem dX8_copy_56 : decode cX8_copy 56 = .ok (.aload_n 0, 1) := by decide +kernel
theorem dX8_copy_57 : decode cX8_copy 57 = .ok (.getfield 34, 3) := by decide +kernel
theorem dX8_copy_60 : decode cX8_copy 60 = .ok (.iload_n 1, 1) := by decide +kernel
theorem dX8_copy_61 : decode cX8_copy 61 = .ok (.iload_n 2, 1) := by decide +kernel
theorem dX8_copy_62 : decode cX8_copy 62 = .ok (.iastore, 1) := by decide +kernel
theorem dX8_copy_63 : decode cX8_copy 63 = .ok (.iload_n 3, 1) := by decide +kernel
theorem dX8_copy_64 : decode cX8_copy 64 = .ok (.ireturn, 1) := by decide +kernel
theorem dX8_copies_0 : decode cX8_copies 0 = .ok (.aload_n 0, 1) := by decide +kernel
theorem dX8_copies_1 : decode cX8_copies 1 = .ok (.iconst 0, 1) := by decide +kernel
theorem dX8_copies_2 : decode cX8_copies 2 = .ok (.putfield 95, 3) := by decide +kernel
theorem dX8_copies_5 : decode cX8_copies 5 = .ok (.aload_n 0, 1) := by decide +kernel
theorem dX8_copies_6 : decode cX8_copies 6 = .ok (.iload_n 1, 1) := by decide +kernel
theorem dX8_copies_7 : decode cX8_copies 7 = .ok (.invokevirtual 110, 3) := by decide +kernel
theorem dX8_copies_10 : decode cX8_copies 10 = .ok (.ifCond .eq 5, 3) := by decide +kernel
theorem dX8_copies_13 : decode cX8_copies 13 = .ok (.iconst (-1), 1) := by decide +kernel
theorem dX8_copies_14 : decode cX8_copies 14 = .ok (.ireturn, 1) := by decide +kernel
theorem dX8_copies_15 : decode cX8_copies 15 = .ok (.iconst 0, 1) := by decide +kernel
theorem dX8_copies_16 : decode cX8_copies 16 = .ok (.istore_n 2, 1) := by decide +kernel
theorem dX8_copies_17 : decode cX8_copies 17 = .ok (.iconst 0, 1) := by decide +kernel
theorem dX8_copies_18 : decode cX8_copies 18 = .ok (.istore_n 3, 1) := by decide +kernel
theorem dX8_copies_19 : decode cX8_copies 19 = .ok (.iload_n 3, 1) := by decide +kernel
theorem dX8_copies_20 : decode cX8_copies 20 = .ok (.aload_n 0, 1) := by decide +kernel
theorem dX8_copies_21 : decode cX8_copies 21 = .ok (.getfield 99, 3) := by decide +kernel
theorem dX8_copies_24 : decode cX8_copies 24 = .ok (.if_icmp .ge 30, 3) := by decide +kernel
theorem dX8_copies_27 : decode cX8_copies 27 = .ok (.iload_n 2, 1) := by decide +kernel
theorem dX8_copies_28 : decode cX8_copies 28 = .ok (.aload_n 0, 1) := by decide +kernel
theorem dX8_copies_29 : decode cX8_copies 29 = .ok (.iload_n 3, 1) := by decide +kernel
theorem dX8_copies_30 : decode cX8_copies 30 = .ok (.iload_n 1, 1) := by decide +kernel
theorem dX8_copies_31 : decode cX8_copies 31 = .ok (.invokevirtual 225, 3) := by decide +kernel
theorem dX8_copies_34 : decode cX8_copies 34 = .ok (.bipush (-9), 2) := by decide +kernel
theorem dX8_copies_36 : decode cX8_copies 36 = .ok (.if_icmp .eq 9, 3) := by decide +kernel
theorem dX8_copies_39 : decode cX8_copies 39 = .ok (.iconst 1, 1) := by decide +kernel
theorem dX8_copies_40 : decode cX8_copies 40 = .ok (.iload_n 3, 1) := by decide +kernel
theorem dX8_copies_41 : decode cX8_copies 41 = .ok (.ishl, 1) := by decide +kernel
theorem dX8_copies_42 : decode cX8_copies 42 = .ok (.goto 4, 3) := by decide +kernel
theorem dX8_copies_45 : decode cX8_copies 45 = .ok (.iconst 0, 1) := by decide +kernel
theorem dX8_copies_46 : decode cX8_copies 46 = .ok (.ior, 1) := by decide +kernel
theorem dX8_copies_47 : decode cX8_copies 47 = .ok (.istore_n 2, 1) := by decide +kernel
theorem dX8_copies_48 : decode cX8_copies 48 = .ok (.iinc 3 1, 3) := by decide +kernel
theorem dX8_copies_51 : decode cX8_copies 51 = .ok (.goto (-32), 3) := by decide +kernel
theorem dX8_copies_54 : decode cX8_copies 54 = .ok (.iload_n 2, 1) := by decide +kernel
theorem dX8_copies_55 : decode cX8_copies 55 = .ok (.ireturn, 1) := by decide +kernel
theorem dX8_clearest_0 : decode cX8_clearest 0 = .ok (.aload_n 0, 1) := by decide +kernel
theorem dX8_clearest_1 : decode cX8_clearest 1 = .ok (.iconst 0, 1) := by decide +kernel
theorem dX8_clearest_2 : decode cX8_clearest 2 = .ok (.putfield 95, 3) := by decide +kernel
theorem dX8_clearest_5 : decode cX8_clearest 5 = .ok (.aload_n 0, 1) := by decide +kernel
theorem dX8_clearest_6 : decode cX8_clearest 6 = .ok (.iload_n 1, 1) := by decide +kernel
theorem dX8_clearest_7 : decode cX8_clearest 7 = .ok (.invokevirtual 110, 3) := by decide +kernel
theorem dX8_clearest_10 : decode cX8_clearest 10 = .ok (.ifCond .eq 5, 3) := by decide +kernel
theorem dX8_clearest_13 : decode cX8_clearest 13 = .ok (.iconst (-1), 1) := by decide +kernel
theorem dX8_clearest_14 : decode cX8_clearest 14 = .ok (.ireturn, 1) := by decide +kernel
theorem dX8_clearest_15 : decode cX8_clearest 15 = .ok (.iload_n 1, 1) := by decide +kernel
theorem dX8_clearest_16 : decode cX8_clearest 16 = .ok (.istore_n 2, 1) := by decide +kernel
theorem dX8_clearest_17 : decode cX8_clearest 17 = .ok (.iconst 0, 1) := by decide +kernel
theorem dX8_clearest_18 : decode cX8_clearest 18 = .ok (.istore_n 3, 1) := by decide +kernel
theorem dX8_clearest_19 : decode cX8_clearest 19 = .ok (.iload_n 3, 1) := by decide +kernel
theorem dX8_clearest_20 : decode cX8_clearest 20 = .ok (.aload_n 0, 1) := by decide +kernel
theorem dX8_clearest_21 : decode cX8_clearest 21 = .ok (.getfield 99, 3) := by decide +kernel
theorem dX8_clearest_24 : decode cX8_clearest 24 = .ok (.if_icmp .ge 83, 3) := by decide +kernel
theorem dX8_clearest_27 : decode cX8_clearest 27 = .ok (.aload_n 0, 1) := by decide +kernel
theorem dX8_clearest_28 : decode cX8_clearest 28 = .ok (.iload_n 3, 1) := by decide +kernel
theorem dX8_clearest_29 : decode cX8_clearest 29 = .ok (.iload_n 1, 1) := by decide +kernel
theorem dX8_clearest_30 : decode cX8_clearest 30 = .ok (.invokevirtual 225, 3) := by decide +kernel
theorem dX8_clearest_33 : decode cX8_clearest 33 = .ok (.istore 4, 2) := by decide +kernel
theorem dX8_clearest_35 : decode cX8_clearest 35 = .ok (.aload_n 0, 1) := by decide +kernel
theorem dX8_clearest_36 : decode cX8_clearest 36 = .ok (.iload_n 2, 1) := by decide +kernel
theorem dX8_clearest_37 : decode cX8_clearest 37 = .ok (.iload_n 1, 1) := by decide +kernel
theorem dX8_clearest_38 : decode cX8_clearest 38 = .ok (.invokevirtual 225, 3) := by decide +kernel
theorem dX8_clearest_41 : decode cX8_clearest 41 = .ok (.istore 5, 2) := by decide +kernel
theorem dX8_clearest_43 : decode cX8_clearest 43 = .ok (.iload 4, 2) := by decide +kernel
theorem dX8_clearest_45 : decode cX8_clearest 45 = .ok (.bipush (-9), 2) := by decide +kernel
theorem dX8_clearest_47 : decode cX8_clearest 47 = .ok (.if_icmp .eq 54, 3) := by decide +kernel
theorem dX8_clearest_50 : decode cX8_clearest 50 = .ok (.aload_n 0, 1) := by decide +kernel
theorem dX8_clearest_51 : decode cX8_clearest 51 = .ok (.getfield 13, 3) := by decide +kernel
theorem dX8_clearest_54 : decode cX8_clearest 54 = .ok (.iload_n 3, 1) := by decide +kernel
theorem dX8_clearest_55 : decode cX8_clearest 55 = .ok (.iaload, 1) := by decide +kernel
theorem dX8_clearest_56 : decode cX8_clearest 56 = .ok (.aload_n 0, 1) := by decide +kernel
theorem dX8_clearest_57 : decode cX8_clearest 57 = .ok (.getfield 13, 3) := by decide +kernel
theorem dX8_clearest_60 : decode cX8_clearest 60 = .ok (.iload_n 2, 1) := by decide +kernel
theorem dX8_clearest_61 : decode cX8_clearest 61 = .ok (.iaload, 1) := by decide +kernel
theorem dX8_clearest_62 : decode cX8_clearest 62 = .ok (.if_icmp .gt 37, 3) := by decide +kernel
theorem dX8_clearest_65 : decode cX8_clearest 65 = .ok (.aload_n 0, 1) := by decide +kernel
theorem dX8_clearest_66 : decode cX8_clearest 66 = .ok (.getfield 13, 3) := by decide +kernel
theorem dX8_clearest_69 : decode cX8_clearest 69 = .ok (.iload_n 3, 1) := by decide +kernel
theorem dX8_clearest_70 : decode cX8_clearest 70 = .ok (.iaload, 1) := by decide +kernel
theorem dX8_clearest_71 : decode cX8_clearest 71 = .ok (.aload_n 0, 1) := by decide +kernel
theorem dX8_clearest_72 : decode cX8_clearest 72 = .ok (.getfield 13, 3) := by decide +kernel
theorem dX8_clearest_75 : decode cX8_clearest 75 = .ok (.iload_n 2, 1) := by decide +kernel
theorem dX8_clearest_76 : decode cX8_clearest 76 = .ok (.iaload, 1) := by decide +kernel
theorem dX8_clearest_77 : decode cX8_clearest 77 = .ok (.if_icmp .ne 24, 3) := by decide +kernel
theorem dX8_clearest_80 : decode cX8_clearest 80 = .ok (.iload 4, 2) := by decide +kernel
theorem dX8_clearest_82 : decode cX8_clearest 82 = .ok (.iload 5, 2) := by decide +kernel
theorem dX8_clearest_84 : decode cX8_clearest 84 = .ok (.if_icmp .lt 15, 3) := by decide +kernel
theorem dX8_clearest_87 : decode cX8_clearest 87 = .ok (.iload 4, 2) := by decide +kernel
theorem dX8_clearest_89 : decode cX8_clearest 89 = .ok (.iload 5, 2) := by decide +kernel
theorem dX8_clearest_91 : decode cX8_clearest 91 = .ok (.if_icmp .ne 10, 3) := by decide +kernel
theorem dX8_clearest_94 : decode cX8_clearest 94 = .ok (.iload_n 3, 1) := by decide +kernel
theorem dX8_clearest_95 : decode cX8_clearest 95 = .ok (.iload_n 2, 1) := by decide +kernel
theorem dX8_clearest_96 : decode cX8_clearest 96 = .ok (.if_icmp .ge 5, 3) := by decide +kernel
theorem dX8_clearest_99 : decode cX8_clearest 99 = .ok (.iload_n 3, 1) := by decide +kernel
theorem dX8_clearest_100 : decode cX8_clearest 100 = .ok (.istore_n 2, 1) := by decide +kernel
theorem dX8_clearest_101 : decode cX8_clearest 101 = .ok (.iinc 3 1, 3) := by decide +kernel
theorem dX8_clearest_104 : decode cX8_clearest 104 = .ok (.goto (-85), 3) := by decide +kernel
theorem dX8_clearest_107 : decode cX8_clearest 107 = .ok (.iload_n 2, 1) := by decide +kernel
theorem dX8_clearest_108 : decode cX8_clearest 108 = .ok (.ireturn, 1) := by decide +kernel
theorem dX8_total_0 : decode cX8_total 0 = .ok (.aload_n 0, 1) := by decide +kernel
theorem dX8_total_1 : decode cX8_total 1 = .ok (.iconst 0, 1) := by decide +kernel
theorem dX8_total_2 : decode cX8_total 2 = .ok (.putfield 95, 3) := by decide +kernel
theorem dX8_total_5 : decode cX8_total 5 = .ok (.iconst 0, 1) := by decide +kernel
theorem dX8_total_6 : decode cX8_total 6 = .ok (.istore_n 2, 1) := by decide +kernel
theorem dX8_total_7 : decode cX8_total 7 = .ok (.iconst 0, 1) := by decide +kernel
theorem dX8_total_8 : decode cX8_total 8 = .ok (.istore_n 3, 1) := by decide +kernel
theorem dX8_total_9 : decode cX8_total 9 = .ok (.iconst 0, 1) := by decide +kernel
theorem dX8_total_10 : decode cX8_total 10 = .ok (.istore 4, 2) := by decide +kernel
theorem dX8_total_12 : decode cX8_total 12 = .ok (.iload 4, 2) := by decide +kernel
theorem dX8_total_14 : decode cX8_total 14 = .ok (.aload_n 0, 1) := by decide +kernel
theorem dX8_total_15 : decode cX8_total 15 = .ok (.getfield 164, 3) := by decide +kernel
theorem dX8_total_18 : decode cX8_total 18 = .ok (.if_icmp .ge 27, 3) := by decide +kernel
theorem dX8_total_21 : decode cX8_total 21 = .ok (.iload_n 2, 1) := by decide +kernel
theorem dX8_total_22 : decode cX8_total 22 = .ok (.aload_n 0, 1) := by decide +kernel
theorem dX8_total_23 : decode cX8_total 23 = .ok (.getfield 55, 3) := by decide +kernel
theorem dX8_total_26 : decode cX8_total 26 = .ok (.iload 4, 2) := by decide +kernel
theorem dX8_total_28 : decode cX8_total 28 = .ok (.baload, 1) := by decide +kernel
theorem dX8_total_29 : decode cX8_total 29 = .ok (.ifCond .eq 7, 3) := by decide +kernel
theorem dX8_total_32 : decode cX8_total 32 = .ok (.iconst 0, 1) := by decide +kernel
theorem dX8_total_33 : decode cX8_total 33 = .ok (.goto 4, 3) := by decide +kernel
theorem dX8_total_36 : decode cX8_total 36 = .ok (.iconst 1, 1) := by decide +kernel
theorem dX8_total_37 : decode cX8_total 37 = .ok (.iadd, 1) := by decide +kernel
theorem dX8_total_38 : decode cX8_total 38 = .ok (.istore_n 2, 1) := by decide +kernel
theorem dX8_total_39 : decode cX8_total 39 = .ok (.iinc 4 1, 3) := by decide +kernel
theorem dX8_total_42 : decode cX8_total 42 = .ok (.goto (-30), 3) := by decide +kernel
theorem dX8_total_45 : decode cX8_total 45 = .ok (.iconst 0, 1) := by decide +kernel
theorem dX8_total_46 : decode cX8_total 46 = .ok (.istore 4, 2) := by decide +kernel
theorem dX8_total_48 : decode cX8_total 48 = .ok (.iload 4, 2) := by decide +kernel
theorem dX8_total_50 : decode cX8_total 50 = .ok (.aload_n 0, 1) := by decide +kernel
theorem dX8_total_51 : decode cX8_total 51 = .ok (.getfield 99, 3) := by decide +kernel
theorem dX8_total_54 : decode cX8_total 54 = .ok (.if_icmp .ge 19, 3) := by decide +kernel
theorem dX8_total_57 : decode cX8_total 57 = .ok (.iload_n 3, 1) := by decide +kernel
theorem dX8_total_58 : decode cX8_total 58 = .ok (.aload_n 0, 1) := by decide +kernel
theorem dX8_total_59 : decode cX8_total 59 = .ok (.getfield 13, 3) := by decide +kernel
theorem dX8_total_62 : decode cX8_total 62 = .ok (.iload 4, 2) := by decide +kernel
theorem dX8_total_64 : decode cX8_total 64 = .ok (.iaload, 1) := by decide +kernel
theorem dX8_total_65 : decode cX8_total 65 = .ok (.iadd, 1) := by decide +kernel
theorem dX8_total_66 : decode cX8_total 66 = .ok (.istore_n 3, 1) := by decide +kernel
theorem dX8_total_67 : decode cX8_total 67 = .ok (.iinc 4 1, 3) := by decide +kernel
theorem dX8_total_70 : decode cX8_total 70 = .ok (.goto (-22), 3) := by decide +kernel
theorem dX8_total_73 : decode cX8_total 73 = .ok (.iload_n 1, 1) := by decide +kernel
theorem dX8_total_74 : decode cX8_total 74 = .ok (.ifCond .ne 10, 3) := by decide +kernel
theorem dX8_total_77 : decode cX8_total 77 = .ok (.aload_n 0, 1) := by decide +kernel
theorem dX8_total_78 : decode cX8_total 78 = .ok (.getfield 99, 3) := by decide +kernel
theorem dX8_total_81 : decode cX8_total 81 = .ok (.goto 59, 3) := by decide +kernel
theorem dX8_total_84 : decode cX8_total 84 = .ok (.iload_n 1, 1) := by decide +kernel
theorem dX8_total_85 : decode cX8_total 85 = .ok (.iconst 1, 1) := by decide +kernel
theorem dX8_total_86 : decode cX8_total 86 = .ok (.if_icmp .ne 10, 3) := by decide +kernel
theorem dX8_total_89 : decode cX8_total 89 = .ok (.aload_n 0, 1) := by decide +kernel
theorem dX8_total_90 : decode cX8_total 90 = .ok (.getfield 118, 3) := by decide +kernel
theorem dX8_total_93 : decode cX8_total 93 = .ok (.goto 47, 3) := by decide +kernel
theorem dX8_total_96 : decode cX8_total 96 = .ok (.iload_n 1, 1) := by decide +kernel
theorem dX8_total_97 : decode cX8_total 97 = .ok (.iconst 2, 1) := by decide +kernel
theorem dX8_total_98 : decode cX8_total 98 = .ok (.if_icmp .ne 7, 3) := by decide +kernel
theorem dX8_total_101 : decode cX8_total 101 = .ok (.iload_n 2, 1) := by decide +kernel
theorem dX8_total_102 : decode cX8_total 102 = .ok (.goto 38, 3) := by decide +kernel
theorem dX8_total_105 : decode cX8_total 105 = .ok (.iload_n 1, 1) := by decide +kernel
theorem dX8_total_106 : decode cX8_total 106 = .ok (.iconst 3, 1) := by decide +kernel
theorem dX8_total_107 : decode cX8_total 107 = .ok (.if_icmp .ne 10, 3) := by decide +kernel
theorem dX8_total_110 : decode cX8_total 110 = .ok (.aload_n 0, 1) := by decide +kernel
theorem dX8_total_111 : decode cX8_total 111 = .ok (.getfield 182, 3) := by decide +kernel
theorem dX8_total_114 : decode cX8_total 114 = .ok (.goto 26, 3) := by decide +kernel
theorem dX8_total_117 : decode cX8_total 117 = .ok (.iload_n 1, 1) := by decide +kernel
theorem dX8_total_118 : decode cX8_total 118 = .ok (.iconst 4, 1) := by decide +kernel
theorem dX8_total_119 : decode cX8_total 119 = .ok (.if_icmp .ne 10, 3) := by decide +kernel
theorem dX8_total_122 : decode cX8_total 122 = .ok (.aload_n 0, 1) := by decide +kernel
theorem dX8_total_123 : decode cX8_total 123 = .ok (.getfield 212, 3) := by decide +kernel
theorem dX8_total_126 : decode cX8_total 126 = .ok (.goto 14, 3) := by decide +kernel
theorem dX8_total_129 : decode cX8_total 129 = .ok (.iload_n 1, 1) := by decide +kernel
theorem dX8_total_130 : decode cX8_total 130 = .ok (.iconst 5, 1) := by decide +kernel
theorem dX8_total_131 : decode cX8_total 131 = .ok (.if_icmp .ne 7, 3) := by decide +kernel
theorem dX8_total_134 : decode cX8_total 134 = .ok (.iload_n 3, 1) := by decide +kernel
theorem dX8_total_135 : decode cX8_total 135 = .ok (.goto 5, 3) := by decide +kernel
theorem dX8_total_138 : decode cX8_total 138 = .ok (.bipush (-2), 2) := by decide +kernel
theorem dX8_total_140 : decode cX8_total 140 = .ok (.ireturn, 1) := by decide +kernel
theorem dJ6_bitCount_0f7a4_0 : decode cJ6_bitCount_0f7a4 0 = .ok (.iload_n 0, 1) := by decide +kernel
theorem dJ6_bitCount_0f7a4_1 : decode cJ6_bitCount_0f7a4 1 = .ok (.iload_n 0, 1) := by decide +kernel
theorem dJ6_bitCount_0f7a4_2 : decode cJ6_bitCount_0f7a4 2 = .ok (.iconst 1, 1) := by decide +kernel
theorem dJ6_bitCount_0f7a4_3 : decode cJ6_bitCount_0f7a4 3 = .ok (.iushr, 1) := by decide +kernel
theorem dJ6_bitCount_0f7a4_4 : decode cJ6_bitCount_0f7a4 4 = .ok (.ldc_w 265, 3) := by decide +kernel
theorem dJ6_bitCount_0f7a4_7 : decode cJ6_bitCount_0f7a4 7 = .ok (.iand, 1) := by decide +kernel
theorem dJ6_bitCount_0f7a4_8 : decode cJ6_bitCount_0f7a4 8 = .ok (.isub, 1) := by decide +kernel
theorem dJ6_bitCount_0f7a4_9 : decode cJ6_bitCount_0f7a4 9 = .ok (.istore_n 0, 1) := by decide +kernel
theorem dJ6_bitCount_0f7a4_10 : decode cJ6_bitCount_0f7a4 10 = .ok (.iload_n 0, 1) := by decide +kernel
theorem dJ6_bitCount_0f7a4_11 : decode cJ6_bitCount_0f7a4 11 = .ok (.ldc_w 266, 3) := by decide +kernel
theorem dJ6_bitCount_0f7a4_14 : decode cJ6_bitCount_0f7a4 14 = .ok (.iand, 1) := by decide +kernel
theorem dJ6_bitCount_0f7a4_15 : decode cJ6_bitCount_0f7a4 15 = .ok (.iload_n 0, 1) := by decide +kernel
theorem dJ6_bitCount_0f7a4_16 : decode cJ6_bitCount_0f7a4 16 = .ok (.iconst 2, 1) := by decide +kernel
theorem dJ6_bitCount_0f7a4_17 : decode cJ6_bitCount_0f7a4 17 = .ok (.iushr, 1) := by decide +kernel
theorem dJ6_bitCount_0f7a4_18 : decode cJ6_bitCount_0f7a4 18 = .ok (.ldc_w 266, 3) := by decide +kernel
theorem dJ6_bitCount_0f7a4_21 : decode cJ6_bitCount_0f7a4 21 = .ok (.iand, 1) := by decide +kernel
theorem dJ6_bitCount_0f7a4_22 : decode cJ6_bitCount_0f7a4 22 = .ok (.iadd, 1) := by decide +kernel
theorem dJ6_bitCount_0f7a4_23 : decode cJ6_bitCount_0f7a4 23 = .ok (.istore_n 0, 1) := by decide +kernel
theorem dJ6_bitCount_0f7a4_24 : decode cJ6_bitCount_0f7a4 24 = .ok (.iload_n 0, 1) := by decide +kernel
theorem dJ6_bitCount_0f7a4_25 : decode cJ6_bitCount_0f7a4 25 = .ok (.iload_n 0, 1) := by decide +kernel
theorem dJ6_bitCount_0f7a4_26 : decode cJ6_bitCount_0f7a4 26 = .ok (.iconst 4, 1) := by decide +kernel
theorem dJ6_bitCount_0f7a4_27 : decode cJ6_bitCount_0f7a4 27 = .ok (.iushr, 1) := by decide +kernel
theorem dJ6_bitCount_0f7a4_28 : decode cJ6_bitCount_0f7a4 28 = .ok (.iadd, 1) := by decide +kernel
theorem dJ6_bitCount_0f7a4_29 : decode cJ6_bitCount_0f7a4 29 = .ok (.ldc_w 267, 3) := by decide +kernel
theorem dJ6_bitCount_0f7a4_32 : decode cJ6_bitCount_0f7a4 32 = .ok (.iand, 1) := by decide +kernel
theorem dJ6_bitCount_0f7a4_33 : decode cJ6_bitCount_0f7a4 33 = .ok (.istore_n 0, 1) := by decide +kernel
theorem dJ6_bitCount_0f7a4_34 : decode cJ6_bitCount_0f7a4 34 = .ok (.iload_n 0, 1) := by decide +kernel
theorem dJ6_bitCount_0f7a4_35 : decode cJ6_bitCount_0f7a4 35 = .ok (.iload_n 0, 1) := by decide +kernel
theorem dJ6_bitCount_0f7a4_36 : decode cJ6_bitCount_0f7a4 36 = .ok (.bipush 8, 2) := by decide +kernel
theorem dJ6_bitCount_0f7a4_38 : decode cJ6_bitCount_0f7a4 38 = .ok (.iushr, 1) := by decide +kernel
theorem dJ6_bitCount_0f7a4_39 : decode cJ6_bitCount_0f7a4 39 = .ok (.iadd, 1) := by decide +kernel
theorem dJ6_bitCount_0f7a4_40 : decode cJ6_bitCount_0f7a4 40 = .ok (.istore_n 0, 1) := by decide +kernel
theorem dJ6_bitCount_0f7a4_41 : decode cJ6_bitCount_0f7a4 41 = .ok (.iload_n 0, 1) := by decide +kernel
theorem dJ6_bitCount_0f7a4_42 : decode cJ6_bitCount_0f7a4 42 = .ok (.iload_n 0, 1) := by decide +kernel
theorem dJ6_bitCount_0f7a4_43 : decode cJ6_bitCount_0f7a4 43 = .ok (.bipush 16, 2) := by decide +kernel
theorem dJ6_bitCount_0f7a4_45 : decode cJ6_bitCount_0f7a4 45 = .ok (.iushr, 1) := by decide +kernel
theorem dJ6_bitCount_0f7a4_46 : decode cJ6_bitCount_0f7a4 46 = .ok (.iadd, 1) := by decide +kernel
theorem dJ6_bitCount_0f7a4_47 : decode cJ6_bitCount_0f7a4 47 = .ok (.istore_n 0, 1) := by decide +kernel
theorem dJ6_bitCount_0f7a4_48 : decode cJ6_bitCount_0f7a4 48 = .ok (.iload_n 0, 1) := by decide +kernel
theorem dJ6_bitCount_0f7a4_49 : decode cJ6_bitCount_0f7a4 49 = .ok (.bipush 63, 2) := by decide +kernel
theorem dJ6_bitCount_0f7a4_51 : decode cJ6_bitCount_0f7a4 51 = .ok (.iand, 1) := by decide +kernel
theorem dJ6_bitCount_0f7a4_52 : decode cJ6_bitCount_0f7a4 52 = .ok (.ireturn, 1) := by decide +kernel
theorem dJ9_abs_0f7a4_0 : decode cJ9_abs_0f7a4 0 = .ok (.iload_n 0, 1) := by decide +kernel
theorem dJ9_abs_0f7a4_1 : decode cJ9_abs_0f7a4 1 = .ok (.ifCond .ge 8, 3) := by decide +kernel
theorem dJ9_abs_0f7a4_4 : decode cJ9_abs_0f7a4 4 = .ok (.iload_n 0, 1) := by decide +kernel
theorem dJ9_abs_0f7a4_5 : decode cJ9_abs_0f7a4 5 = .ok (.ineg, 1) := by decide +kernel
theorem dJ9_abs_0f7a4_6 : decode cJ9_abs_0f7a4 6 = .ok (.goto 4, 3) := by decide +kernel
theorem dJ9_abs_0f7a4_9 : decode cJ9_abs_0f7a4 9 = .ok (.iload_n 0, 1) := by decide +kernel
theorem dJ9_abs_0f7a4_10 : decode cJ9_abs_0f7a4 10 = .ok (.ireturn, 1) := by decide +kernel
theorem dJ9_max_7cf53_0 : decode cJ9_max_7cf53 0 = .ok (.iload_n 0, 1) := by decide +kernel
theorem dJ9_max_7cf53_1 : decode cJ9_max_7cf53 1 = .ok (.iload_n 1, 1) := by decide +kernel
theorem dJ9_max_7cf53_2 : decode cJ9_max_7cf53 2 = .ok (.if_icmp .lt 7, 3) := by decide +kernel
theorem dJ9_max_7cf53_5 : decode cJ9_max_7cf53 5 = .ok (.iload_n 0, 1) := by decide +kernel
theorem dJ9_max_7cf53_6 : decode cJ9_max_7cf53 6 = .ok (.goto 4, 3) := by decide +kernel
theorem dJ9_max_7cf53_9 : decode cJ9_max_7cf53 9 = .ok (.iload_n 1, 1) := by decide +kernel
theorem dJ9_max_7cf53_10 : decode cJ9_max_7cf53 10 = .ok (.ireturn, 1) := by decide +kernel
theorem dJ9_min_7cf53_0 : decode cJ9_min_7cf53 0 = .ok (.iload_n 0, 1) := by decide +kernel
theorem dJ9_min_7cf53_1 : decode cJ9_min_7cf53 1 = .ok (.iload_n 1, 1) := by decide +kernel
theorem dJ9_min_7cf53_2 : decode cJ9_min_7cf53 2 = .ok (.if_icmp .gt 7, 3) := by decide +kernel
theorem dJ9_min_7cf53_5 : decode cJ9_min_7cf53 5 = .ok (.iload_n 0, 1) := by decide +kernel
theorem dJ9_min_7cf53_6 : decode cJ9_min_7cf53 6 = .ok (.goto 4, 3) := by decide +kernel
theorem dJ9_min_7cf53_9 : decode cJ9_min_7cf53 9 = .ok (.iload_n 1, 1) := by decide +kernel
theorem dJ9_min_7cf53_10 : decode cJ9_min_7cf53 10 = .ok (.ireturn, 1) := by decide +kernel
theorem dJ7_fill_53178_0 : decode cJ7_fill_53178 0 = .ok (.iconst 0, 1) := by decide +kernel
theorem dJ7_fill_53178_1 : decode cJ7_fill_53178 1 = .ok (.istore_n 2, 1) := by decide +kernel
theorem dJ7_fill_53178_2 : decode cJ7_fill_53178 2 = .ok (.aload_n 0, 1) := by decide +kernel
theorem dJ7_fill_53178_3 : decode cJ7_fill_53178 3 = .ok (.arraylength, 1) := by decide +kernel
theorem dJ7_fill_53178_4 : decode cJ7_fill_53178 4 = .ok (.istore_n 3, 1) := by decide +kernel
theorem dJ7_fill_53178_5 : decode cJ7_fill_53178 5 = .ok (.iload_n 2, 1) := by decide +kernel
theorem dJ7_fill_53178_6 : decode cJ7_fill_53178 6 = .ok (.iload_n 3, 1) := by decide +kernel
theorem dJ7_fill_53178_7 : decode cJ7_fill_53178 7 = .ok (.if_icmp .ge 13, 3) := by decide +kernel
theorem dJ7_fill_53178_10 : decode cJ7_fill_53178 10 = .ok (.aload_n 0, 1) := by decide +kernel
theorem dJ7_fill_53178_11 : decode cJ7_fill_53178 11 = .ok (.iload_n 2, 1) := by decide +kernel
theorem dJ7_fill_53178_12 : decode cJ7_fill_53178 12 = .ok (.iload_n 1, 1) := by decide +kernel
theorem dJ7_fill_53178_13 : decode cJ7_fill_53178 13 = .ok (.iastore, 1) := by decide +kernel
theorem dJ7_fill_53178_14 : decode cJ7_fill_53178 14 = .ok (.iinc 2 1, 3) := by decide +kernel
theorem dJ7_fill_53178_17 : decode cJ7_fill_53178 17 = .ok (.goto (-12), 3) := by decide +kernel
theorem dJ7_fill_53178_20 : decode cJ7_fill_53178 20 = .ok (.return_, 1) := by decide +kernel
