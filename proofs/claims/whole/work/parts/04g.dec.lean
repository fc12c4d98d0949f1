theorem dX8_isOf_7 : decode cX8_isOf 7 = .ok (.if_icmp .ne 16, 3) := by decide +kernel
theorem dX8_isOf_10 : decode cX8_isOf 10 = .ok (.aload_n 0, 1) := by decide +kernel
theorem dX8_isOf_11 : decode cX8_isOf 11 = .ok (.getfield 55, 3) := by decide +kernel
theorem dX8_isOf_14 : decode cX8_isOf 14 = .ok (.iload_n 1, 1) := by decide +kernel
theorem dX8_isOf_15 : decode cX8_isOf 15 = .ok (.baload, 1) := by decide +kernel
theorem dX8_isOf_16 : decode cX8_isOf 16 = .ok (.ifCond .ne 7, 3) := by decide +kernel
theorem dX8_isOf_19 : decode cX8_isOf 19 = .ok (.iconst 1, 1) := by decide +kernel
theorem dX8_isOf_20 : decode cX8_isOf 20 = .ok (.goto 4, 3) := by decide +kernel
theorem dX8_isOf_23 : decode cX8_isOf 23 = .ok (.iconst 0, 1) := by decide +kernel
theorem dX8_isOf_24 : decode cX8_isOf 24 = .ok (.ireturn, 1) := by decide +kernel
theorem dX8_weighsOf_0 : decode cX8_weighsOf 0 = .ok (.iconst 0, 1) := by decide +kernel
theorem dX8_weighsOf_1 : decode cX8_weighsOf 1 = .ok (.istore_n 3, 1) := by decide +kernel
theorem dX8_weighsOf_2 : decode cX8_weighsOf 2 = .ok (.iconst 0, 1) := by decide +kernel
theorem dX8_weighsOf_3 : decode cX8_weighsOf 3 = .ok (.istore 4, 2) := by decide +kernel
theorem dX8_weighsOf_5 : decode cX8_weighsOf 5 = .ok (.iload 4, 2) := by decide +kernel
theorem dX8_weighsOf_7 : decode cX8_weighsOf 7 = .ok (.aload_n 0, 1) := by decide +kernel
theorem dX8_weighsOf_8 : decode cX8_weighsOf 8 = .ok (.getfield 164, 3) := by decide +kernel
theorem dX8_weighsOf_11 : decode cX8_weighsOf 11 = .ok (.if_icmp .ge 57, 3) := by decide +kernel
theorem dX8_weighsOf_14 : decode cX8_weighsOf 14 = .ok (.iload_n 3, 1) := by decide +kernel
theorem dX8_weighsOf_15 : decode cX8_weighsOf 15 = .ok (.aload_n 0, 1) := by decide +kernel
theorem dX8_weighsOf_16 : decode cX8_weighsOf 16 = .ok (.iload 4, 2) := by decide +kernel
theorem dX8_weighsOf_18 : decode cX8_weighsOf 18 = .ok (.iload_n 1, 1) := by decide +kernel
theorem dX8_weighsOf_19 : decode cX8_weighsOf 19 = .ok (.invokevirtual 167, 3) := by decide +kernel
theorem dX8_weighsOf_22 : decode cX8_weighsOf 22 = .ok (.ifCond .eq 37, 3) := by decide +kernel
theorem dX8_weighsOf_25 : decode cX8_weighsOf 25 = .ok (.iload_n 2, 1) := by decide +kernel
theorem dX8_weighsOf_26 : decode cX8_weighsOf 26 = .ok (.i2l, 1) := by decide +kernel
theorem dX8_weighsOf_27 : decode cX8_weighsOf 27 = .ok (.aload_n 0, 1) := by decide +kernel
theorem dX8_weighsOf_28 : decode cX8_weighsOf 28 = .ok (.getfield 46, 3) := by decide +kernel
theorem dX8_weighsOf_31 : decode cX8_weighsOf 31 = .ok (.iload 4, 2) := by decide +kernel
theorem dX8_weighsOf_33 : decode cX8_weighsOf 33 = .ok (.iaload, 1) := by decide +kernel
theorem dX8_weighsOf_34 : decode cX8_weighsOf 34 = .ok (.i2l, 1) := by decide +kernel
theorem dX8_weighsOf_35 : decode cX8_weighsOf 35 = .ok (.aload_n 0, 1) := by decide +kernel
theorem dX8_weighsOf_36 : decode cX8_weighsOf 36 = .ok (.getfield 49, 3) := by decide +kernel
theorem dX8_weighsOf_39 : decode cX8_weighsOf 39 = .ok (.iload 4, 2) := by decide +kernel
theorem dX8_weighsOf_41 : decode cX8_weighsOf 41 = .ok (.iaload, 1) := by decide +kernel
theorem dX8_weighsOf_42 : decode cX8_weighsOf 42 = .ok (.i2l, 1) := by decide +kernel
theorem dX8_weighsOf_43 : decode cX8_weighsOf 43 = .ok (.invokestatic 102, 3) := by decide +kernel
theorem dX8_weighsOf_46 : decode cX8_weighsOf 46 = .ok (.ifCond .eq 13, 3) := by decide +kernel
theorem dX8_weighsOf_49 : decode cX8_weighsOf 49 = .ok (.aload_n 0, 1) := by decide +kernel
theorem dX8_weighsOf_50 : decode cX8_weighsOf 50 = .ok (.getfield 52, 3) := by decide +kernel
theorem dX8_weighsOf_53 : decode cX8_weighsOf 53 = .ok (.iload 4, 2) := by decide +kernel
theorem dX8_weighsOf_55 : decode cX8_weighsOf 55 = .ok (.iaload, 1) := by decide +kernel
theorem dX8_weighsOf_56 : decode cX8_weighsOf 56 = .ok (.goto 4, 3) := by decide +kernel
theorem dX8_weighsOf_59 : decode cX8_weighsOf 59 = .ok (.iconst 0, 1) := by decide +kernel
theorem dX8_weighsOf_60 : decode cX8_weighsOf 60 = .ok (.iadd, 1) := by decide +kernel
theorem dX8_weighsOf_61 : decode cX8_weighsOf 61 = .ok (.istore_n 3, 1) := by decide +kernel
theorem dX8_weighsOf_62 : decode cX8_weighsOf 62 = .ok (.iinc 4 1, 3) := by decide +kernel
theorem dX8_weighsOf_65 : decode cX8_weighsOf 65 = .ok (.goto (-60), 3) := by decide +kernel
theorem dX8_weighsOf_68 : decode cX8_weighsOf 68 = .ok (.iload_n 3, 1) := by decide +kernel
theorem dX8_weighsOf_69 : decode cX8_weighsOf 69 = .ok (.ireturn, 1) := by decide +kernel
theorem dX8_speedOf_0 : decode cX8_speedOf 0 = .ok (.bipush (-9), 2) := by decide +kernel
theorem dX8_speedOf_2 : decode cX8_speedOf 2 = .ok (.istore_n 2, 1) := by decide +kernel
theorem dX8_speedOf_3 : decode cX8_speedOf 3 = .ok (.iconst 0, 1) := by decide +kernel
theorem dX8_speedOf_4 : decode cX8_speedOf 4 = .ok (.istore_n 3, 1) := by decide +kernel
theorem dX8_speedOf_5 : decode cX8_speedOf 5 = .ok (.iload_n 3, 1) := by decide +kernel
theorem dX8_speedOf_6 : decode cX8_speedOf 6 = .ok (.aload_n 0, 1) := by decide +kernel
theorem dX8_speedOf_7 : decode cX8_speedOf 7 = .ok (.getfield 164, 3) := by decide +kernel
theorem dX8_speedOf_10 : decode cX8_speedOf 10 = .ok (.if_icmp .ge 84, 3) := by decide +kernel
theorem dX8_speedOf_13 : decode cX8_speedOf 13 = .ok (.aload_n 0, 1) := by decide +kernel
theorem dX8_speedOf_14 : decode cX8_speedOf 14 = .ok (.iload_n 3, 1) := by decide +kernel
theorem dX8_speedOf_15 : decode cX8_speedOf 15 = .ok (.iload_n 1, 1) := by decide +kernel
theorem dX8_speedOf_16 : decode cX8_speedOf 16 = .ok (.invokevirtual 167, 3) := by decide +kernel
theorem dX8_speedOf_19 : decode cX8_speedOf 19 = .ok (.ifCond .eq 69, 3) := by decide +kernel
theorem dX8_speedOf_22 : decode cX8_speedOf 22 = .ok (.aload_n 0, 1) := by decide +kernel
theorem dX8_speedOf_23 : decode cX8_speedOf 23 = .ok (.iload_n 1, 1) := by decide +kernel
theorem dX8_speedOf_24 : decode cX8_speedOf 24 = .ok (.aload_n 0, 1) := by decide +kernel
theorem dX8_speedOf_25 : decode cX8_speedOf 25 = .ok (.getfield 46, 3) := by decide +kernel
theorem dX8_speedOf_28 : decode cX8_speedOf 28 = .ok (.iload_n 3, 1) := by decide +kernel
theorem dX8_speedOf_29 : decode cX8_speedOf 29 = .ok (.iaload, 1) := by decide +kernel
theorem dX8_speedOf_30 : decode cX8_speedOf 30 = .ok (.invokevirtual 171, 3) := by decide +kernel
theorem dX8_speedOf_33 : decode cX8_speedOf 33 = .ok (.istore 4, 2) := by decide +kernel
theorem dX8_speedOf_35 : decode cX8_speedOf 35 = .ok (.iload_n 2, 1) := by decide +kernel
theorem dX8_speedOf_36 : decode cX8_speedOf 36 = .ok (.bipush (-9), 2) := by decide +kernel
theorem dX8_speedOf_38 : decode cX8_speedOf 38 = .ok (.if_icmp .ne 7, 3) := by decide +kernel
theorem dX8_speedOf_41 : decode cX8_speedOf 41 = .ok (.iconst 0, 1) := by decide +kernel
theorem dX8_speedOf_42 : decode cX8_speedOf 42 = .ok (.goto 9, 3) := by decide +kernel
theorem dX8_speedOf_45 : decode cX8_speedOf 45 = .ok (.aload_n 0, 1) := by decide +kernel
theorem dX8_speedOf_46 : decode cX8_speedOf 46 = .ok (.iload_n 1, 1) := by decide +kernel
theorem dX8_speedOf_47 : decode cX8_speedOf 47 = .ok (.iload_n 2, 1) := by decide +kernel
theorem dX8_speedOf_48 : decode cX8_speedOf 48 = .ok (.invokevirtual 171, 3) := by decide +kernel
theorem dX8_speedOf_51 : decode cX8_speedOf 51 = .ok (.istore 5, 2) := by decide +kernel
theorem dX8_speedOf_53 : decode cX8_speedOf 53 = .ok (.iload 4, 2) := by decide +kernel
theorem dX8_speedOf_55 : decode cX8_speedOf 55 = .ok (.iload 5, 2) := by decide +kernel
theorem dX8_speedOf_57 : decode cX8_speedOf 57 = .ok (.if_icmp .gt 20, 3) := by decide +kernel
theorem dX8_speedOf_60 : decode cX8_speedOf 60 = .ok (.iload 4, 2) := by decide +kernel
theorem dX8_speedOf_62 : decode cX8_speedOf 62 = .ok (.iload 5, 2) := by decide +kernel
theorem dX8_speedOf_64 : decode cX8_speedOf 64 = .ok (.if_icmp .ne 22, 3) := by decide +kernel
theorem dX8_speedOf_67 : decode cX8_speedOf 67 = .ok (.aload_n 0, 1) := by decide +kernel
theorem dX8_speedOf_68 : decode cX8_speedOf 68 = .ok (.getfield 46, 3) := by decide +kernel
theorem dX8_speedOf_71 : decode cX8_speedOf 71 = .ok (.iload_n 3, 1) := by decide +kernel
theorem dX8_speedOf_72 : decode cX8_speedOf 72 = .ok (.iaload, 1) := by decide +kernel
theorem dX8_speedOf_73 : decode cX8_speedOf 73 = .ok (.iload_n 2, 1) := by decide +kernel
theorem dX8_speedOf_74 : decode cX8_speedOf 74 = .ok (.if_icmp .ge 12, 3) := by decide +kernel
theorem dX8_speedOf_77 : decode cX8_speedOf 77 = .ok (.aload_n 0, 1) := by decide +kernel
theorem dX8_speedOf_78 : decode cX8_speedOf 78 = .ok (.getfield 46, 3) := by decide +kernel
theorem dX8_speedOf_81 : decode cX8_speedOf 81 = .ok (.iload_n 3, 1) := by decide +kernel
theorem dX8_speedOf_82 : decode cX8_speedOf 82 = .ok (.iaload, 1) := by decide +kernel
theorem dX8_speedOf_83 : decode cX8_speedOf 83 = .ok (.goto 4, 3) := by decide +kernel
theorem dX8_speedOf_86 : decode cX8_speedOf 86 = .ok (.iload_n 2, 1) := by decide +kernel
theorem dX8_speedOf_87 : decode cX8_speedOf 87 = .ok (.istore_n 2, 1) := by decide +kernel
theorem dX8_speedOf_88 : decode cX8_speedOf 88 = .ok (.iinc 3 1, 3) := by decide +kernel
theorem dX8_speedOf_91 : decode cX8_speedOf 91 = .ok (.goto (-86), 3) := by decide +kernel
theorem dX8_speedOf_94 : decode cX8_speedOf 94 = .ok (.iload_n 2, 1) := by decide +kernel
theorem dX8_speedOf_95 : decode cX8_speedOf 95 = .ok (.ireturn, 1) := by decide +kernel
theorem dX8_speed_0 : decode cX8_speed 0 = .ok (.aload_n 0, 1) := by decide +kernel
theorem dX8_speed_1 : decode cX8_speed 1 = .ok (.iconst 0, 1) := by decide +kernel
theorem dX8_speed_2 : decode cX8_speed 2 = .ok (.putfield 95, 3) := by decide +kernel
theorem dX8_speed_5 : decode cX8_speed 5 = .ok (.aload_n 0, 1) := by decide +kernel
theorem dX8_speed_6 : decode cX8_speed 6 = .ok (.iload_n 1, 1) := by decide +kernel
theorem dX8_speed_7 : decode cX8_speed 7 = .ok (.invokevirtual 110, 3) := by decide +kernel
theorem dX8_speed_10 : decode cX8_speed 10 = .ok (.ifCond .eq 7, 3) := by decide +kernel
theorem dX8_speed_13 : decode cX8_speed 13 = .ok (.iconst (-1), 1) := by decide +kernel
theorem dX8_speed_14 : decode cX8_speed 14 = .ok (.goto 8, 3) := by decide +kernel
theorem dX8_speed_17 : decode cX8_speed 17 = .ok (.aload_n 0, 1) := by decide +kernel
theorem dX8_speed_18 : decode cX8_speed 18 = .ok (.iload_n 1, 1) := by decide +kernel
theorem dX8_speed_19 : decode cX8_speed 19 = .ok (.invokevirtual 175, 3) := by decide +kernel
theorem dX8_speed_22 : decode cX8_speed 22 = .ok (.ireturn, 1) := by decide +kernel
theorem dX8_span_0 : decode cX8_span 0 = .ok (.aload_n 0, 1) := by decide +kernel
theorem dX8_span_1 : decode cX8_span 1 = .ok (.iconst 0, 1) := by decide +kernel
theorem dX8_span_2 : decode cX8_span 2 = .ok (.putfield 95, 3) := by decide +kernel
theorem dX8_span_5 : decode cX8_span 5 = .ok (.aload_n 0, 1) := by decide +kernel
theorem dX8_span_6 : decode cX8_span 6 = .ok (.iload_n 1, 1) := by decide +kernel
theorem dX8_span_7 : decode cX8_span 7 = .ok (.invokevirtual 110, 3) := by decide +kernel
theorem dX8_span_10 : decode cX8_span 10 = .ok (.ifCond .eq 5, 3) := by decide +kernel
theorem dX8_span_13 : decode cX8_span 13 = .ok (.iconst (-1), 1) := by decide +kernel
theorem dX8_span_14 : decode cX8_span 14 = .ok (.ireturn, 1) := by decide +kernel
theorem dX8_span_15 : decode cX8_span 15 = .ok (.aload_n 0, 1) := by decide +kernel
theorem dX8_span_16 : decode cX8_span 16 = .ok (.iload_n 1, 1) := by decide +kernel
theorem dX8_span_17 : decode cX8_span 17 = .ok (.invokevirtual 175, 3) := by decide +kernel
theorem dX8_span_20 : decode cX8_span 20 = .ok (.istore_n 2, 1) := by decide +kernel
theorem dX8_span_21 : decode cX8_span 21 = .ok (.iload_n 2, 1) := by decide +kernel
theorem dX8_span_22 : decode cX8_span 22 = .ok (.bipush (-9), 2) := by decide +kernel
theorem dX8_span_24 : decode cX8_span 24 = .ok (.if_icmp .ne 6, 3) := by decide +kernel
theorem dX8_span_27 : decode cX8_span 27 = .ok (.bipush (-9), 2) := by decide +kernel
theorem dX8_span_29 : decode cX8_span 29 = .ok (.ireturn, 1) := by decide +kernel
theorem dX8_span_30 : decode cX8_span 30 = .ok (.aload_n 0, 1) := by decide +kernel
theorem dX8_span_31 : decode cX8_span 31 = .ok (.iload_n 1, 1) := by decide +kernel
theorem dX8_span_32 : decode cX8_span 32 = .ok (.iload_n 2, 1) := by decide +kernel
theorem dX8_span_33 : decode cX8_span 33 = .ok (.invokevirtual 171, 3) := by decide +kernel
theorem dX8_span_36 : decode cX8_span 36 = .ok (.istore_n 3, 1) := by decide +kernel
theorem dX8_span_37 : decode cX8_span 37 = .ok (.iload_n 2, 1) := by decide +kernel
theorem dX8_span_38 : decode cX8_span 38 = .ok (.istore 4, 2) := by decide +kernel
theorem dX8_span_40 : decode cX8_span 40 = .ok (.iload 4, 2) := by decide +kernel
theorem dX8_span_42 : decode cX8_span 42 = .ok (.sipush 30000, 3) := by decide +kernel
theorem dX8_span_45 : decode cX8_span 45 = .ok (.if_icmp .ge 138, 3) := by decide +kernel
theorem dX8_span_48 : decode cX8_span 48 = .ok (.aload_n 0, 1) := by decide +kernel
theorem dX8_span_49 : decode cX8_span 49 = .ok (.iload_n 1, 1) := by decide +kernel
theorem dX8_span_50 : decode cX8_span 50 = .ok (.iload 4, 2) := by decide +kernel
theorem dX8_span_52 : decode cX8_span 52 = .ok (.iconst 1, 1) := by decide +kernel
theorem dX8_span_53 : decode cX8_span 53 = .ok (.iadd, 1) := by decide +kernel
theorem dX8_span_54 : decode cX8_span 54 = .ok (.invokevirtual 171, 3) := by decide +kernel
theorem dX8_span_57 : decode cX8_span 57 = .ok (.iload_n 3, 1) := by decide +kernel
theorem dX8_span_58 : decode cX8_span 58 = .ok (.if_icmp .ne 125, 3) := by decide +kernel
theorem dX8_span_61 : decode cX8_span 61 = .ok (.sipush 30000, 3) := by decide +kernel
theorem dX8_span_64 : decode cX8_span 64 = .ok (.istore 5, 2) := by decide +kernel
theorem dX8_span_66 : decode cX8_span 66 = .ok (.iconst 0, 1) := by decide +kernel
theorem dX8_span_67 : decode cX8_span 67 = .ok (.istore 6, 2) := by decide +kernel
theorem dX8_span_69 : decode cX8_span 69 = .ok (.iload 6, 2) := by decide +kernel
theorem dX8_span_71 : decode cX8_span 71 = .ok (.aload_n 0, 1) := by decide +kernel
theorem dX8_span_72 : decode cX8_span 72 = .ok (.getfield 164, 3) := by decide +kernel
theorem dX8_span_75 : decode cX8_span 75 = .ok (.if_icmp .ge 101, 3) := by decide +kernel
theorem dX8_span_78 : decode cX8_span 78 = .ok (.aload_n 0, 1) := by decide +kernel
theorem dX8_span_79 : decode cX8_span 79 = .ok (.iload 6, 2) := by decide +kernel
theorem dX8_span_81 : decode cX8_span 81 = .ok (.iload_n 1, 1) := by decide +kernel
theorem dX8_span_82 : decode cX8_span 82 = .ok (.invokevirtual 167, 3) := by decide +kernel
theorem dX8_span_85 : decode cX8_span 85 = .ok (.ifCond .eq 85, 3) := by decide +kernel
theorem dX8_span_88 : decode cX8_span 88 = .ok (.aload_n 0, 1) := by decide +kernel
theorem dX8_span_89 : decode cX8_span 89 = .ok (.getfield 49, 3) := by decide +kernel
theorem dX8_span_92 : decode cX8_span 92 = .ok (.iload 6, 2) := by decide +kernel
theorem dX8_span_94 : decode cX8_span 94 = .ok (.iaload, 1) := by decide +kernel
theorem dX8_span_95 : decode cX8_span 95 = .ok (.iload 4, 2) := by decide +kernel
theorem dX8_span_97 : decode cX8_span 97 = .ok (.if_icmp .le 25, 3) := by decide +kernel
theorem dX8_span_100 : decode cX8_span 100 = .ok (.aload_n 0, 1) := by decide +kernel
theorem dX8_span_101 : decode cX8_span 101 = .ok (.getfield 49, 3) := by decide +kernel
theorem dX8_span_104 : decode cX8_span 104 = .ok (.iload 6, 2) := by decide +kernel
theorem dX8_span_106 : decode cX8_span 106 = .ok (.iaload, 1) := by decide +kernel
theorem dX8_span_107 : decode cX8_span 107 = .ok (.iload 5, 2) := by decide +kernel
theorem dX8_span_109 : decode cX8_span 109 = .ok (.if_icmp .ge 13, 3) := by decide +kernel
theorem dX8_span_112 : decode cX8_span 112 = .ok (.aload_n 0, 1) := by decide +kernel
theorem dX8_span_113 : decode cX8_span 113 = .ok (.getfield 49, 3) := by decide +kernel
theorem dX8_span_116 : decode cX8_span 116 = .ok (.iload 6, 2) := by decide +kernel
theorem dX8_span_118 : decode cX8_span 118 = .ok (.iaload, 1) := by decide +kernel
theorem dX8_span_119 : decode cX8_span 119 = .ok (.goto 5, 3) := by decide +kernel
theorem dX8_span_122 : decode cX8_span 122 = .ok (.iload 5, 2) := by decide +kernel
theorem dX8_span_124 : decode cX8_span 124 = .ok (.istore 5, 2) := by decide +kernel
theorem dX8_span_126 : decode cX8_span 126 = .ok (.aload_n 0, 1) := by decide +kernel
theorem dX8_span_127 : decode cX8_span 127 = .ok (.getfield 46, 3) := by decide +kernel
theorem dX8_span_130 : decode cX8_span 130 = .ok (.iload 6, 2) := by decide +kernel
theorem dX8_span_132 : decode cX8_span 132 = .ok (.iaload, 1) := by decide +kernel
theorem dX8_span_133 : decode cX8_span 133 = .ok (.iconst 1, 1) := by decide +kernel
theorem dX8_span_134 : decode cX8_span 134 = .ok (.isub, 1) := by decide +kernel
theorem dX8_span_135 : decode cX8_span 135 = .ok (.iload 4, 2) := by decide +kernel
theorem dX8_span_137 : decode cX8_span 137 = .ok (.if_icmp .le 29, 3) := by decide +kernel
theorem dX8_span_140 : decode cX8_span 140 = .ok (.aload_n 0, 1) := by decide +kernel
theorem dX8_span_141 : decode cX8_span 141 = .ok (.getfield 46, 3) := by decide +kernel
theorem dX8_span_144 : decode cX8_span 144 = .ok (.iload 6, 2) := by decide +kernel
theorem dX8_span_146 : decode cX8_span 146 = .ok (.iaload, 1) := by decide +kernel
theorem dX8_span_147 : decode cX8_span 147 = .ok (.iconst 1, 1) := by decide +kernel
theorem dX8_span_148 : decode cX8_span 148 = .ok (.isub, 1) := by decide +kernel
theorem dX8_span_149 : decode cX8_span 149 = .ok (.iload 5, 2) := by decide +kernel
theorem dX8_span_151 : decode cX8_span 151 = .ok (.if_icmp .ge 15, 3) := by decide +kernel
theorem dX8_span_154 : decode cX8_span 154 = .ok (.aload_n 0, 1) := by decide +kernel
theorem dX8_span_155 : decode cX8_span 155 = .ok (.getfield 46, 3) := by decide +kernel
theorem dX8_span_158 : decode cX8_span 158 = .ok (.iload 6, 2) := by decide +kernel
theorem dX8_span_160 : decode cX8_span 160 = .ok (.iaload, 1) := by decide +kernel
theorem dX8_span_161 : decode cX8_span 161 = .ok (.iconst 1, 1) := by decide +kernel
theorem dX8_span_162 : decode cX8_span 162 = .ok (.isub, 1) := by decide +kernel
theorem dX8_span_163 : decode cX8_span 163 = .ok (.goto 5, 3) := by decide +kernel
theorem dX8_span_166 : decode cX8_span 166 = .ok (.iload 5, 2) := by decide +kernel
theorem dX8_span_168 : decode cX8_span 168 = .ok (.istore 5, 2) := by decide +kernel
theorem dX8_span_170 : decode cX8_span 170 = .ok (.iinc 6 1, 3) := by decide +kernel
theorem dX8_span_173 : decode cX8_span 173 = .ok (.goto (-104), 3) := by decide +kernel
theorem dX8_span_176 : decode cX8_span 176 = .ok (.iload 5, 2) := by decide +kernel
theorem dX8_span_178 : decode cX8_span 178 = .ok (.istore 4, 2) := by decide +kernel
theorem dX8_span_180 : decode cX8_span 180 = .ok (.goto (-140), 3) := by decide +kernel
theorem dX8_span_183 : decode cX8_span 183 = .ok (.iload 4, 2) := by decide +kernel
theorem dX8_span_185 : decode cX8_span 185 = .ok (.ireturn, 1) := by decide +kernel
theorem dX8_weighs_0 : decode cX8_weighs 0 = .ok (.aload_n 0, 1) := by decide +kernel
theorem dX8_weighs_1 : decode cX8_weighs 1 = .ok (.iconst 0, 1) := by decide +kernel
theorem dX8_weighs_2 : decode cX8_weighs 2 = .ok (.putfield 95, 3) := by decide +kernel
theorem dX8_weighs_5 : decode cX8_weighs 5 = .ok (.aload_n 0, 1) := by decide +kernel
theorem dX8_weighs_6 : decode cX8_weighs 6 = .ok (.iload_n 1, 1) := by decide +kernel
theorem dX8_weighs_7 : decode cX8_weighs 7 = .ok (.invokevirtual 110, 3) := by decide +kernel
theorem dX8_weighs_10 : decode cX8_weighs 10 = .ok (.ifCond .eq 5, 3) := by decide +kernel
theorem dX8_weighs_13 : decode cX8_weighs 13 = .ok (.iconst (-1), 1) := by decide +kernel
theorem dX8_weighs_14 : decode cX8_weighs 14 = .ok (.ireturn, 1) := by decide +kernel
theorem dX8_weighs_15 : decode cX8_weighs 15 = .ok (.iload_n 2, 1) := by decide +kernel
theorem dX8_weighs_16 : decode cX8_weighs 16 = .ok (.i2l, 1) := by decide +kernel
theorem dX8_weighs_17 : decode cX8_weighs 17 = .ok (.lconst 1, 1) := by decide +kernel
theorem dX8_weighs_18 : decode cX8_weighs 18 = .ok (.ldc2_w 178, 3) := by decide +kernel
theorem dX8_weighs_21 : decode cX8_weighs 21 = .ok (.invokestatic 102, 3) := by decide +kernel
theorem dX8_weighs_24 : decode cX8_weighs 24 = .ok (.ifCond .eq 12, 3) := by decide +kernel
theorem dX8_weighs_27 : decode cX8_weighs 27 = .ok (.aload_n 0, 1) := by decide +kernel
theorem dX8_weighs_28 : decode cX8_weighs 28 = .ok (.iload_n 1, 1) := by decide +kernel
theorem dX8_weighs_29 : decode cX8_weighs 29 = .ok (.iload_n 2, 1) := by decide +kernel
theorem dX8_weighs_30 : decode cX8_weighs 30 = .ok (.invokevirtual 171, 3) := by decide +kernel
theorem dX8_weighs_33 : decode cX8_weighs 33 = .ok (.goto 5, 3) := by decide +kernel
theorem dX8_weighs_36 : decode cX8_weighs 36 = .ok (.bipush (-2), 2) := by decide +kernel
theorem dX8_weighs_38 : decode cX8_weighs 38 = .ok (.ireturn, 1) := by decide +kernel
theorem dX8_quarrels_0 : decode cX8_quarrels 0 = .ok (.aload_n 0, 1) := by decide +kernel
theorem dX8_quarrels_1 : decode cX8_quarrels 1 = .ok (.iconst 0, 1) := by decide +kernel
theorem dX8_quarrels_2 : decode cX8_quarrels 2 = .ok (.putfield 95, 3) := by decide +kernel
theorem dX8_quarrels_5 : decode cX8_quarrels 5 = .ok (.aload_n 0, 1) := by decide +kernel
theorem dX8_quarrels_6 : decode cX8_quarrels 6 = .ok (.iload_n 1, 1) := by decide +kernel
theorem dX8_quarrels_7 : decode cX8_quarrels 7 = .ok (.invokevirtual 110, 3) := by decide +kernel
theorem dX8_quarrels_10 : decode cX8_quarrels 10 = .ok (.ifCond .eq 5, 3) := by decide +kernel
theorem dX8_quarrels_13 : decode cX8_quarrels 13 = .ok (.iconst (-1), 1) := by decide +kernel
theorem dX8_quarrels_14 : decode cX8_quarrels 14 = .ok (.ireturn, 1) := by decide +kernel
theorem dX8_quarrels_15 : decode cX8_quarrels 15 = .ok (.iconst 0, 1) := by decide +kernel
theorem dX8_quarrels_16 : decode cX8_quarrels 16 = .ok (.istore_n 2, 1) := by decide +kernel
theorem dX8_quarrels_17 : decode cX8_quarrels 17 = .ok (.iconst 0, 1) := by decide +kernel
theorem dX8_quarrels_18 : decode cX8_quarrels 18 = .ok (.istore_n 3, 1) := by decide +kernel
theorem dX8_quarrels_19 : decode cX8_quarrels 19 = .ok (.iload_n 3, 1) := by decide +kernel
theorem dX8_quarrels_20 : decode cX8_quarrels 20 = .ok (.aload_n 0, 1) := by decide +kernel
theorem dX8_quarrels_21 : decode cX8_quarrels 21 = .ok (.getfield 164, 3) := by decide +kernel
theorem dX8_quarrels_24 : decode cX8_quarrels 24 = .ok (.if_icmp .ge 83, 3) := by decide +kernel
theorem dX8_quarrels_27 : decode cX8_quarrels 27 = .ok (.iconst 0, 1) := by decide +kernel
theorem dX8_quarrels_28 : decode cX8_quarrels 28 = .ok (.istore 4, 2) := by decide +kernel
theorem dX8_quarrels_30 : decode cX8_quarrels 30 = .ok (.iload 4, 2) := by decide +kernel
theorem dX8_quarrels_32 : decode cX8_quarrels 32 = .ok (.iload_n 3, 1) := by decide +kernel
theorem dX8_quarrels_33 : decode cX8_quarrels 33 = .ok (.if_icmp .ge 68, 3) := by decide +kernel
theorem dX8_quarrels_36 : decode cX8_quarrels 36 = .ok (.iload_n 2, 1) := by decide +kernel
theorem dX8_quarrels_37 : decode cX8_quarrels 37 = .ok (.aload_n 0, 1) := by decide +kernel
theorem dX8_quarrels_38 : decode cX8_quarrels 38 = .ok (.iload_n 3, 1) := by decide +kernel
theorem dX8_quarrels_39 : decode cX8_quarrels 39 = .ok (.iload_n 1, 1) := by decide +kernel
theorem dX8_quarrels_40 : decode cX8_quarrels 40 = .ok (.invokevirtual 167, 3) := by decide +kernel
theorem dX8_quarrels_43 : decode cX8_quarrels 43 = .ok (.ifCond .eq 49, 3) := by decide +kernel
theorem dX8_quarrels_46 : decode cX8_quarrels 46 = .ok (.aload_n 0, 1) := by decide +kernel
theorem dX8_quarrels_47 : decode cX8_quarrels 47 = .ok (.iload 4, 2) := by decide +kernel
theorem dX8_quarrels_49 : decode cX8_quarrels 49 = .ok (.iload_n 1, 1) := by decide +kernel
theorem dX8_quarrels_50 : decode cX8_quarrels 50 = .ok (.invokevirtual 167, 3) := by decide +kernel
theorem dX8_quarrels_53 : decode cX8_quarrels 53 = .ok (.ifCond .eq 39, 3) := by decide +kernel
theorem dX8_quarrels_56 : decode cX8_quarrels 56 = .ok (.aload_n 0, 1) := by decide +kernel
theorem dX8_quarrels_57 : decode cX8_quarrels 57 = .ok (.getfield 49, 3) := by decide +kernel
theorem dX8_quarrels_60 : decode cX8_quarrels 60 = .ok (.iload_n 3, 1) := by decide +kernel
theorem dX8_quarrels_61 : decode cX8_quarrels 61 = .ok (.iaload, 1) := by decide +kernel
theorem dX8_quarrels_62 : decode cX8_quarrels 62 = .ok (.aload_n 0, 1) := by decide +kernel
theorem dX8_quarrels_63 : decode cX8_quarrels 63 = .ok (.getfield 46, 3) := by decide +kernel
theorem dX8_quarrels_66 : decode cX8_quarrels 66 = .ok (.iload 4, 2) := by decide +kernel
theorem dX8_quarrels_68 : decode cX8_quarrels 68 = .ok (.iaload, 1) := by decide +kernel
theorem dX8_quarrels_69 : decode cX8_quarrels 69 = .ok (.if_icmp .lt 19, 3) := by decide +kernel
theorem dX8_quarrels_72 : decode cX8_quarrels 72 = .ok (.aload_n 0, 1) := by decide +kernel
theorem dX8_quarrels_73 : decode cX8_quarrels 73 = .ok (.getfield 49, 3) := by decide +kernel
theorem dX8_quarrels_76 : decode cX8_quarrels 76 = .ok (.iload 4, 2) := by decide +kernel
theorem dX8_quarrels_78 : decode cX8_quarrels 78 = .ok (.iaload, 1) := by decide +kernel
theorem dX8_quarrels_79 : decode cX8_quarrels 79 = .ok (.aload_n 0, 1) := by decide +kernel
theorem dX8_quarrels_80 : decode cX8_quarrels 80 = .ok (.getfield 46, 3) := by decide +kernel
theorem dX8_quarrels_83 : decode cX8_quarrels 83 = .ok (.iload_n 3, 1) := by decide +kernel
theorem dX8_quarrels_84 : decode cX8_quarrels 84 = .ok (.iaload, 1) := by decide +kernel
theorem dX8_quarrels_85 : decode cX8_quarrels 85 = .ok (.if_icmp .ge 7, 3) := by decide +kernel
theorem dX8_quarrels_88 : decode cX8_quarrels 88 = .ok (.iconst 1, 1) := by decide +kernel
theorem dX8_quarrels_89 : decode cX8_quarrels 89 = .ok (.goto 4, 3) := by decide +kernel
theorem dX8_quarrels_92 : decode cX8_quarrels 92 = .ok (.iconst 0, 1) := by decide +kernel
theorem dX8_quarrels_93 : decode cX8_quarrels 93 = .ok (.iadd, 1) := by decide +kernel
theorem dX8_quarrels_94 : decode cX8_quarrels 94 = .ok (.istore_n 2, 1) := by decide +kernel
theorem dX8_quarrels_95 : decode cX8_quarrels 95 = .ok (.iinc 4 1, 3) := by decide +kernel
theorem dX8_quarrels_98 : decode cX8_quarrels 98 = .ok (.goto (-68), 3) := by decide +kernel
theorem dX8_quarrels_101 : decode cX8_quarrels 101 = .ok (.iinc 3 1, 3) := by decide +kernel
theorem dX8_quarrels_104 : decode cX8_quarrels 104 = .ok (.goto (-85), 3) := by decide +kernel
theorem dX8_quarrels_107 : decode cX8_quarrels 107 = .ok (.iload_n 2, 1) := by decide +kernel
theorem dX8_quarrels_108 : decode cX8_quarrels 108 = .ok (.ireturn, 1) := by decide +kernel
theorem dX8_piece_0 : decode cX8_piece 0 = .ok (.aload_n 0, 1) := by decide +kernel
theorem dX8_piece_1 : decode cX8_piece 1 = .ok (.iconst 0, 1) := by decide +kernel
theorem dX8_piece_2 : decode cX8_piece 2 = .ok (.putfield 95, 3) := by decide +kernel
theorem dX8_piece_5 : decode cX8_piece 5 = .ok (.iload_n 1, 1) := by decide +kernel
theorem dX8_piece_6 : decode cX8_piece 6 = .ok (.i2l, 1) := by decide +kernel
theorem dX8_piece_7 : decode cX8_piece 7 = .ok (.lconst 0, 1) := by decide +kernel
theorem dX8_piece_8 : decode cX8_piece 8 = .ok (.ldc2_w 180, 3) := by decide +kernel
theorem dX8_piece_11 : decode cX8_piece 11 = .ok (.invokestatic 102, 3) := by decide +kernel
theorem dX8_piece_14 : decode cX8_piece 14 = .ok (.ifCond .eq 15, 3) := by decide +kernel
theorem dX8_piece_17 : decode cX8_piece 17 = .ok (.iload_n 2, 1) := by decide +kernel
theorem dX8_piece_18 : decode cX8_piece 18 = .ok (.i2l, 1) := by decide +kernel
theorem dX8_piece_19 : decode cX8_piece 19 = .ok (.lconst 0, 1) := by decide +kernel
theorem dX8_piece_20 : decode cX8_piece 20 = .ok (.ldc2_w 180, 3) := by decide +kernel
theorem dX8_piece_23 : decode cX8_piece 23 = .ok (.invokestatic 102, 3) := by decide +kernel
theorem dX8_piece_26 : decode cX8_piece 26 = .ok (.ifCond .ne 6, 3) := by decide +kernel
theorem dX8_piece_29 : decode cX8_piece 29 = .ok (.bipush (-2), 2) := by decide +kernel
theorem dX8_piece_31 : decode cX8_piece 31 = .ok (.ireturn, 1) := by decide +kernel
theorem dX8_piece_32 : decode cX8_piece 32 = .ok (.aload_n 0, 1) := by decide +kernel
theorem dX8_piece_33 : decode cX8_piece 33 = .ok (.getfield 182, 3) := by decide +kernel
theorem dX8_piece_36 : decode cX8_piece 36 = .ok (.bipush 7, 2) := by decide +kernel
theorem dX8_piece_38 : decode cX8_piece 38 = .ok (.if_icmp .ne 6, 3) := by decide +kernel
theorem dX8_piece_41 : decode cX8_piece 41 = .ok (.bipush (-4), 2) := by decide +kernel
theorem dX8_piece_43 : decode cX8_piece 43 = .ok (.ireturn, 1) := by decide +kernel
theorem dX8_piece_44 : decode cX8_piece 44 = .ok (.aload_n 0, 1) := by decide +kernel
theorem dX8_piece_45 : decode cX8_piece 45 = .ok (.getfield 59, 3) := by decide +kernel
theorem dX8_piece_48 : decode cX8_piece 48 = .ok (.aload_n 0, 1) := by decide +kernel
theorem dX8_piece_49 : decode cX8_piece 49 = .ok (.getfield 182, 3) := by decide +kernel
theorem dX8_piece_52 : decode cX8_piece 52 = .ok (.iload_n 1, 1) := by decide +kernel
theorem dX8_piece_53 : decode cX8_piece 53 = .ok (.iastore, 1) := by decide +kernel
theorem dX8_piece_54 : decode cX8_piece 54 = .ok (.aload_n 0, 1) := by decide +kernel
theorem dX8_piece_55 : decode cX8_piece 55 = .ok (.getfield 62, 3) := by decide +kernel
theorem dX8_piece_58 : decode cX8_piece 58 = .ok (.aload_n 0, 1) := by decide +kernel
theorem dX8_piece_59 : decode cX8_piece 59 = .ok (.getfield 182, 3) := by decide +kernel
theorem dX8_piece_62 : decode cX8_piece 62 = .ok (.iload_n 2, 1) := by decide +kernel
theorem dX8_piece_63 : decode cX8_piece 63 = .ok (.iastore, 1) := by decide +kernel
theorem dX8_piece_64 : decode cX8_piece 64 = .ok (.aload_n 0, 1) := by decide +kernel
theorem dX8_piece_65 : decode cX8_piece 65 = .ok (.dup, 1) := by decide +kernel
theorem dX8_piece_66 : decode cX8_piece 66 = .ok (.getfield 182, 3) := by decide +kernel
theorem dX8_piece_69 : decode cX8_piece 69 = .ok (.iconst 1, 1) := by decide +kernel
theorem dX8_piece_70 : decode cX8_piece 70 = .ok (.iadd, 1) := by decide +kernel
theorem dX8_piece_71 : decode cX8_piece 71 = .ok (.putfield 182, 3) := by decide +kernel
theorem dX8_piece_74 : decode cX8_piece 74 = .ok (.aload_n 0, 1) := by decide +kernel
theorem dX8_piece_75 : decode cX8_piece 75 = .ok (.getfield 182, 3) := by decide +kernel
theorem dX8_piece_78 : decode cX8_piece 78 = .ok (.iconst 1, 1) := by decide +kernel
theorem dX8_piece_79 : decode cX8_piece 79 = .ok (.isub, 1) := by decide +kernel
theorem dX8_piece_80 : decode cX8_piece 80 = .ok (.ireturn, 1) := by decide +kernel
theorem dX8_sweep_0 : decode cX8_sweep 0 = .ok (.aload_n 0, 1) := by decide +kernel
theorem dX8_sweep_1 : decode cX8_sweep 1 = .ok (.iconst 0, 1) := by decide +kernel
theorem dX8_sweep_2 : decode cX8_sweep 2 = .ok (.putfield 95, 3) := by decide +kernel
theorem dX8_sweep_5 : decode cX8_sweep 5 = .ok (.aload_n 0, 1) := by decide +kernel
theorem dX8_sweep_6 : decode cX8_sweep 6 = .ok (.getfield 182, 3) := by decide +kernel
theorem dX8_sweep_9 : decode cX8_sweep 9 = .ok (.istore_n 1, 1) := by decide +kernel
theorem dX8_sweep_10 : decode cX8_sweep 10 = .ok (.aload_n 0, 1) := by decide +kernel
theorem dX8_sweep_11 : decode cX8_sweep 11 = .ok (.iconst 0, 1) := by decide +kernel
theorem dX8_sweep_12 : decode cX8_sweep 12 = .ok (.putfield 182, 3) := by decide +kernel
theorem dX8_sweep_15 : decode cX8_sweep 15 = .ok (.iload_n 1, 1) := by decide +kernel
theorem dX8_sweep_16 : decode cX8_sweep 16 = .ok (.ireturn, 1) := by decide +kernel
theorem dX8_tolerance_0 : decode cX8_tolerance 0 = .ok (.aload_n 0, 1) := by decide +kernel
theorem dX8_tolerance_1 : decode cX8_tolerance 1 = .ok (.iconst 0, 1) := by decide +kernel
theorem dX8_tolerance_2 : decode cX8_tolerance 2 = .ok (.putfield 95, 3) := by decide +kernel
theorem dX8_tolerance_5 : decode cX8_tolerance 5 = .ok (.iload_n 1, 1) := by decide +kernel
theorem dX8_tolerance_6 : decode cX8_tolerance 6 = .ok (.i2l, 1) := by decide +kernel
theorem dX8_tolerance_7 : decode cX8_tolerance 7 = .ok (.lconst 0, 1) := by decide +kernel
theorem dX8_tolerance_8 : decode cX8_tolerance 8 = .ok (.ldc2_w 180, 3) := by decide +kernel
theorem dX8_tolerance_11 : decode cX8_tolerance 11 = .ok (.invokestatic 102, 3) := by decide +kernel
theorem dX8_tolerance_14 : decode cX8_tolerance 14 = .ok (.ifCond .ne 6, 3) := by decide +kernel
theorem dX8_tolerance_17 : decode cX8_tolerance 17 = .ok (.bipush (-2), 2) := by decide +kernel
theorem dX8_tolerance_19 : decode cX8_tolerance 19 = .ok (.ireturn, 1) := by decide +kernel
theorem dX8_tolerance_20 : decode cX8_tolerance 20 = .ok (.aload_n 0, 1) := by decide +kernel
theorem dX8_tolerance_21 : decode cX8_tolerance 21 = .ok (.getfield 185, 3) := by decide +kernel
theorem dX8_tolerance_24 : decode cX8_tolerance 24 = .ok (.istore_n 2, 1) := by decide +kernel
theorem dX8_tolerance_25 : decode cX8_tolerance 25 = .ok (.aload_n 0, 1) := by decide +kernel
theorem dX8_tolerance_26 : decode cX8_tolerance 26 = .ok (.iload_n 1, 1) := by decide +kernel
theorem dX8_tolerance_27 : decode cX8_tolerance 27 = .ok (.putfield 185, 3) := by decide +kernel
theorem dX8_tolerance_30 : decode cX8_tolerance 30 = .ok (.iload_n 2, 1) := by decide +kernel
theorem dX8_tolerance_31 : decode cX8_tolerance 31 = .ok (.ireturn, 1) := by decide +kernel
theorem dX8_apart_0 : decode cX8_apart 0 = .ok (.aload_n 0, 1) := by decide +kernel
theorem dX8_apart_1 : decode cX8_apart 1 = .ok (.getfield 62, 3) := by decide +kernel
theorem dX8_apart_4 : decode cX8_apart 4 = .ok (.iload_n 1, 1) := by decide +kernel
theorem dX8_apart_5 : decode cX8_apart 5 = .ok (.iaload, 1) := by decide +kernel
theorem dX8_apart_6 : decode cX8_apart 6 = .ok (.aload_n 0, 1) := by decide +kernel
theorem dX8_apart_7 : decode cX8_apart 7 = .ok (.getfield 59, 3) := by decide +kernel
theorem dX8_apart_10 : decode cX8_apart 10 = .ok (.iload_n 2, 1) := by decide +kernel
theorem dX8_apart_11 : decode cX8_apart 11 = .ok (.iaload, 1) := by decide +kernel
theorem dX8_apart_12 : decode cX8_apart 12 = .ok (.isub, 1) := by decide +kernel
theorem dX8_apart_13 : decode cX8_apart 13 = .ok (.istore_n 3, 1) := by decide +kernel
theorem dX8_apart_14 : decode cX8_apart 14 = .ok (.iload_n 3, 1) := by decide +kernel
theorem dX8_apart_15 : decode cX8_apart 15 = .ok (.ifCond .ge 8, 3) := by decide +kernel
theorem dX8_apart_18 : decode cX8_apart 18 = .ok (.iload_n 3, 1) := by decide +kernel
theorem dX8_apart_19 : decode cX8_apart 19 = .ok (.ineg, 1) := by decide +kernel
theorem dX8_apart_20 : decode cX8_apart 20 = .ok (.goto 4, 3) := by decide +kernel
theorem dX8_apart_23 : decode cX8_apart 23 = .ok (.iload_n 3, 1) := by decide +kernel
theorem dX8_apart_24 : decode cX8_apart 24 = .ok (.istore_n 3, 1) := by decide +kernel
theorem dX8_apart_25 : decode cX8_apart 25 = .ok (.iload_n 3, 1) := by decide +kernel
theorem dX8_apart_26 : decode cX8_apart 26 = .ok (.aload_n 0, 1) := by decide +kernel
theorem dX8_apart_27 : decode cX8_apart 27 = .ok (.getfield 185, 3) := by decide +kernel
theorem dX8_apart_30 : decode cX8_apart 30 = .ok (.if_icmp .le 8, 3) := by decide +kernel
theorem dX8_apart_33 : decode cX8_apart 33 = .ok (.ldc 188, 2) := by decide +kernel
theorem dX8_apart_35 : decode cX8_apart 35 = .ok (.goto 4, 3) := by decide +kernel
theorem dX8_apart_38 : decode cX8_apart 38 = .ok (.iload_n 3, 1) := by decide +kernel
theorem dX8_apart_39 : decode cX8_apart 39 = .ok (.ireturn, 1) := by decide +kernel
theorem dX8_join_0 : decode cX8_join 0 = .ok (.iconst 0, 1) := by decide +kernel
theorem dX8_join_1 : decode cX8_join 1 = .ok (.istore_n 1, 1) := by decide +kernel
theorem dX8_join_2 : decode cX8_join 2 = .ok (.iload_n 1, 1) := by decide +kernel
theorem dX8_join_3 : decode cX8_join 3 = .ok (.iconst 1, 1) := by decide +kernel
theorem dX8_join_4 : decode cX8_join 4 = .ok (.aload_n 0, 1) := by decide +kernel
theorem dX8_join_5 : decode cX8_join 5 = .ok (.getfield 182, 3) := by decide +kernel
theorem dX8_join_8 : decode cX8_join 8 = .ok (.ishl, 1) := by decide +kernel
theorem dX8_join_9 : decode cX8_join 9 = .ok (.if_icmp .ge 177, 3) := by decide +kernel
theorem dX8_join_12 : decode cX8_join 12 = .ok (.iconst 0, 1) := by decide +kernel
theorem dX8_join_13 : decode cX8_join 13 = .ok (.istore_n 2, 1) := by decide +kernel
theorem dX8_join_14 : decode cX8_join 14 = .ok (.iload_n 2, 1) := by decide +kernel
theorem dX8_join_15 : decode cX8_join 15 = .ok (.aload_n 0, 1) := by decide +kernel
theorem dX8_join_16 : decode cX8_join 16 = .ok (.getfield 182, 3) := by decide +kernel
theorem dX8_join_19 : decode cX8_join 19 = .ok (.if_icmp .ge 161, 3) := by decide +kernel
theorem dX8_join_22 : decode cX8_join 22 = .ok (.iload_n 1, 1) := by decide +kernel
theorem dX8_join_23 : decode cX8_join 23 = .ok (.ifCond .ne 7, 3) := by decide +kernel
theorem dX8_join_26 : decode cX8_join 26 = .ok (.iconst 0, 1) := by decide +kernel
theorem dX8_join_27 : decode cX8_join 27 = .ok (.goto 5, 3) := by decide +kernel
theorem dX8_join_30 : decode cX8_join 30 = .ok (.ldc 188, 2) := by decide +kernel
theorem dX8_join_32 : decode cX8_join 32 = .ok (.istore_n 3, 1) := by decide +kernel
theorem dX8_join_33 : decode cX8_join 33 = .ok (.iload_n 1, 1) := by decide +kernel
theorem dX8_join_34 : decode cX8_join 34 = .ok (.ifCond .ne 7, 3) := by decide +kernel
theorem dX8_join_37 : decode cX8_join 37 = .ok (.iconst 1, 1) := by decide +kernel
theorem dX8_join_38 : decode cX8_join 38 = .ok (.goto 4, 3) := by decide +kernel
theorem dX8_join_41 : decode cX8_join 41 = .ok (.iconst 0, 1) := by decide +kernel
theorem dX8_join_42 : decode cX8_join 42 = .ok (.istore 4, 2) := by decide +kernel
theorem dX8_join_44 : decode cX8_join 44 = .ok (.iconst 0, 1) := by decide +kernel
theorem dX8_join_45 : decode cX8_join 45 = .ok (.istore 5, 2) := by decide +kernel
theorem dX8_join_47 : decode cX8_join 47 = .ok (.iload 5, 2) := by decide +kernel
theorem dX8_join_49 : decode cX8_join 49 = .ok (.aload_n 0, 1) := by decide +kernel
theorem dX8_join_50 : decode cX8_join 50 = .ok (.getfield 182, 3) := by decide +kernel
theorem dX8_join_53 : decode cX8_join 53 = .ok (.if_icmp .ge 96, 3) := by decide +kernel
theorem dX8_join_56 : decode cX8_join 56 = .ok (.iload_n 1, 1) := by decide +kernel
theorem dX8_join_57 : decode cX8_join 57 = .ok (.iload 5, 2) := by decide +kernel
theorem dX8_join_59 : decode cX8_join 59 = .ok (.ishr, 1) := by decide +kernel
theorem dX8_join_60 : decode cX8_join 60 = .ok (.iconst 1, 1) := by decide +kernel
theorem dX8_join_61 : decode cX8_join 61 = .ok (.iand, 1) := by decide +kernel
theorem dX8_join_62 : decode cX8_join 62 = .ok (.iconst 1, 1) := by decide +kernel
theorem dX8_join_63 : decode cX8_join 63 = .ok (.if_icmp .ne 80, 3) := by decide +kernel
theorem dX8_join_66 : decode cX8_join 66 = .ok (.aload_n 0, 1) := by decide +kernel
theorem dX8_join_67 : decode cX8_join 67 = .ok (.iload_n 2, 1) := by decide +kernel
theorem dX8_join_68 : decode cX8_join 68 = .ok (.iload 5, 2) := by decide +kernel
theorem dX8_join_70 : decode cX8_join 70 = .ok (.invokevirtual 189, 3) := by decide +kernel
theorem dX8_join_73 : decode cX8_join 73 = .ok (.ldc 188, 2) := by decide +kernel
theorem dX8_join_75 : decode cX8_join 75 = .ok (.if_icmp .ge 68, 3) := by decide +kernel
theorem dX8_join_78 : decode cX8_join 78 = .ok (.bipush 7, 2) := by decide +kernel
theorem dX8_join_80 : decode cX8_join 80 = .ok (.iload_n 1, 1) := by decide +kernel
theorem dX8_join_81 : decode cX8_join 81 = .ok (.iconst 1, 1) := by decide +kernel
theorem dX8_join_82 : decode cX8_join 82 = .ok (.iload 5, 2) := by decide +kernel
theorem dX8_join_84 : decode cX8_join 84 = .ok (.ishl, 1) := by decide +kernel
theorem dX8_join_85 : decode cX8_join 85 = .ok (.ixor, 1) := by decide +kernel
theorem dX8_join_86 : decode cX8_join 86 = .ok (.imul, 1) := by decide +kernel
theorem dX8_join_87 : decode cX8_join 87 = .ok (.iload 5, 2) := by decide +kernel
theorem dX8_join_89 : decode cX8_join 89 = .ok (.iadd, 1) := by decide +kernel
theorem dX8_join_90 : decode cX8_join 90 = .ok (.istore 6, 2) := by decide +kernel
theorem dX8_join_92 : decode cX8_join 92 = .ok (.iload 4, 2) := by decide +kernel
theorem dX8_join_94 : decode cX8_join 94 = .ok (.aload_n 0, 1) := by decide +kernel
theorem dX8_join_95 : decode cX8_join 95 = .ok (.getfield 92, 3) := by decide +kernel
theorem dX8_join_98 : decode cX8_join 98 = .ok (.iload 6, 2) := by decide +kernel
theorem dX8_join_100 : decode cX8_join 100 = .ok (.iaload, 1) := by decide +kernel
theorem dX8_join_101 : decode cX8_join 101 = .ok (.iadd, 1) := by decide +kernel
theorem dX8_join_102 : decode cX8_join 102 = .ok (.istore 4, 2) := by decide +kernel
theorem dX8_join_104 : decode cX8_join 104 = .ok (.aload_n 0, 1) := by decide +kernel
theorem dX8_join_105 : decode cX8_join 105 = .ok (.iload_n 2, 1) := by decide +kernel
theorem dX8_join_106 : decode cX8_join 106 = .ok (.iload 5, 2) := by decide +kernel
theorem dX8_join_108 : decode cX8_join 108 = .ok (.invokevirtual 189, 3) := by decide +kernel
theorem dX8_join_111 : decode cX8_join 111 = .ok (.aload_n 0, 1) := by decide +kernel
theorem dX8_join_112 : decode cX8_join 112 = .ok (.getfield 89, 3) := by decide +kernel
theorem dX8_join_115 : decode cX8_join 115 = .ok (.iload 6, 2) := by decide +kernel
theorem dX8_join_117 : decode cX8_join 117 = .ok (.iaload, 1) := by decide +kernel
theorem dX8_join_118 : decode cX8_join 118 = .ok (.iadd, 1) := by decide +kernel
theorem dX8_join_119 : decode cX8_join 119 = .ok (.iload_n 3, 1) := by decide +kernel
theorem dX8_join_120 : decode cX8_join 120 = .ok (.if_icmp .ge 21, 3) := by decide +kernel
theorem dX8_join_123 : decode cX8_join 123 = .ok (.aload_n 0, 1) := by decide +kernel
theorem dX8_join_124 : decode cX8_join 124 = .ok (.iload_n 2, 1) := by decide +kernel
theorem dX8_join_125 : decode cX8_join 125 = .ok (.iload 5, 2) := by decide +kernel
theorem dX8_join_127 : decode cX8_join 127 = .ok (.invokevirtual 189, 3) := by decide +kernel
theorem dX8_join_130 : decode cX8_join 130 = .ok (.aload_n 0, 1) := by decide +kernel
theorem dX8_join_131 : decode cX8_join 131 = .ok (.getfield 89, 3) := by decide +kernel
theorem dX8_join_134 : decode cX8_join 134 = .ok (.iload 6, 2) := by decide +kernel
theorem dX8_join_136 : decode cX8_join 136 = .ok (.iaload, 1) := by decide +kernel
theorem dX8_join_137 : decode cX8_join 137 = .ok (.iadd, 1) := by decide +kernel
theorem dX8_join_138 : decode cX8_join 138 = .ok (.goto 4, 3) := by decide +kernel
theorem dX8_join_141 : decode cX8_join 141 = .ok (.iload_n 3, 1) := by decide +kernel
theorem dX8_join_142 : decode cX8_join 142 = .ok (.istore_n 3, 1) := by decide +kernel
theorem dX8_join_143 : decode cX8_join 143 = .ok (.iinc 5 1, 3) := by decide +kernel
theorem dX8_join_146 : decode cX8_join 146 = .ok (.goto (-99), 3) := by decide +kernel
theorem dX8_join_149 : decode cX8_join 149 = .ok (.aload_n 0, 1) := by decide +kernel
theorem dX8_join_150 : decode cX8_join 150 = .ok (.getfield 89, 3) := by decide +kernel
theorem dX8_join_153 : decode cX8_join 153 = .ok (.bipush 7, 2) := by decide +kernel
theorem dX8_join_155 : decode cX8_join 155 = .ok (.iload_n 1, 1) := by decide +kernel
theorem dX8_join_156 : decode cX8_join 156 = .ok (.imul, 1) := by decide +kernel
theorem dX8_join_157 : decode cX8_join 157 = .ok (.iload_n 2, 1) := by decide +kernel
theorem dX8_join_158 : decode cX8_join 158 = .ok (.iadd, 1) := by decide +kernel
theorem dX8_join_159 : decode cX8_join 159 = .ok (.iload_n 3, 1) := by decide +kernel
theorem dX8_join_160 : decode cX8_join 160 = .ok (.iastore, 1) := by decide +kernel
theorem dX8_join_161 : decode cX8_join 161 = .ok (.aload_n 0, 1) := by decide +kernel
theorem dX8_join_162 : decode cX8_join 162 = .ok (.getfield 92, 3) := by decide +kernel
theorem dX8_join_165 : decode cX8_join 165 = .ok (.bipush 7, 2) := by decide +kernel
theorem dX8_join_167 : decode cX8_join 167 = .ok (.iload_n 1, 1) := by decide +kernel
theorem dX8_join_168 : decode cX8_join 168 = .ok (.imul, 1) := by decide +kernel
theorem dX8_join_169 : decode cX8_join 169 = .ok (.iload_n 2, 1) := by decide +kernel
theorem dX8_join_170 : decode cX8_join 170 = .ok (.iadd, 1) := by decide +kernel
theorem dX8_join_171 : decode cX8_join 171 = .ok (.iload 4, 2) := by decide +kernel
theorem dX8_join_173 : decode cX8_join 173 = .ok (.iastore, 1) := by decide +kernel
theorem dX8_join_174 : decode cX8_join 174 = .ok (.iinc 2 1, 3) := by decide +kernel
theorem dX8_join_177 : decode cX8_join 177 = .ok (.goto (-163), 3) := by decide +kernel
theorem dX8_join_180 : decode cX8_join 180 = .ok (.iinc 1 1, 3) := by decide +kernel
theorem dX8_join_183 : decode cX8_join 183 = .ok (.goto (-181), 3) := by decide +kernel
theorem dX8_join_186 : decode cX8_join 186 = .ok (.return_, 1) := by decide +kernel
theorem dX8_others_0 : decode cX8_others 0 = .ok (.iconst 1, 1) := by decide +kernel
theorem dX8_others_1 : decode cX8_others 1 = .ok (.aload_n 0, 1) := by decide +kernel
theorem dX8_others_2 : decode cX8_others 2 = .ok (.getfield 182, 3) := by decide +kernel
theorem dX8_others_5 : decode cX8_others 5 = .ok (.ishl, 1) := by decide +kernel
theorem dX8_others_6 : decode cX8_others 6 = .ok (.iconst 1, 1) := by decide +kernel
theorem dX8_others_7 : decode cX8_others 7 = .ok (.isub, 1) := by decide +kernel
theorem dX8_others_8 : decode cX8_others 8 = .ok (.iconst 1, 1) := by decide +kernel
theorem dX8_others_9 : decode cX8_others 9 = .ok (.iload_n 1, 1) := by decide +kernel
theorem dX8_others_10 : decode cX8_others 10 = .ok (.ishl, 1) := by decide +kernel
theorem dX8_others_11 : decode cX8_others 11 = .ok (.ixor, 1) := by decide +kernel
theorem dX8_others_12 : decode cX8_others 12 = .ok (.ireturn, 1) := by decide +kernel
theorem dX8_rows_0 : decode cX8_rows 0 = .ok (.aload_n 0, 1) := by decide +kernel
theorem dX8_rows_1 : decode cX8_rows 1 = .ok (.iconst 0, 1) := by decide +kernel
theorem dX8_rows_2 : decode cX8_rows 2 = .ok (.putfield 95, 3) := by decide +kernel
theorem dX8_rows_5 : decode cX8_rows 5 = .ok (.aload_n 0, 1) := by decide +kernel
theorem dX8_rows_6 : decode cX8_rows 6 = .ok (.invokevirtual 192, 3) := by decide +kernel
theorem dX8_rows_9 : decode cX8_rows 9 = .ok (.iconst 0, 1) := by decide +kernel
theorem dX8_rows_10 : decode cX8_rows 10 = .ok (.istore_n 1, 1) := by decide +kernel
theorem dX8_rows_11 : decode cX8_rows 11 = .ok (.iconst 0, 1) := by decide +kernel
theorem dX8_rows_12 : decode cX8_rows 12 = .ok (.istore_n 2, 1) := by decide +kernel
theorem dX8_rows_13 : decode cX8_rows 13 = .ok (.iload_n 2, 1) := by decide +kernel
theorem dX8_rows_14 : decode cX8_rows 14 = .ok (.aload_n 0, 1) := by decide +kernel
theorem dX8_rows_15 : decode cX8_rows 15 = .ok (.getfield 182, 3) := by decide +kernel
theorem dX8_rows_18 : decode cX8_rows 18 = .ok (.if_icmp .ge 27, 3) := by decide +kernel
theorem dX8_rows_21 : decode cX8_rows 21 = .ok (.iload_n 1, 1) := by decide +kernel
theorem dX8_rows_22 : decode cX8_rows 22 = .ok (.aload_n 0, 1) := by decide +kernel
theorem dX8_rows_23 : decode cX8_rows 23 = .ok (.getfield 92, 3) := by decide +kernel
theorem dX8_rows_26 : decode cX8_rows 26 = .ok (.bipush 7, 2) := by decide +kernel
theorem dX8_rows_28 : decode cX8_rows 28 = .ok (.aload_n 0, 1) := by decide +kernel
theorem dX8_rows_29 : decode cX8_rows 29 = .ok (.iload_n 2, 1) := by decide +kernel
theorem dX8_rows_30 : decode cX8_rows 30 = .ok (.invokevirtual 195, 3) := by decide +kernel
theorem dX8_rows_33 : decode cX8_rows 33 = .ok (.imul, 1) := by decide +kernel
theorem dX8_rows_34 : decode cX8_rows 34 = .ok (.iload_n 2, 1) := by decide +kernel
theorem dX8_rows_35 : decode cX8_rows 35 = .ok (.iadd, 1) := by decide +kernel
theorem dX8_rows_36 : decode cX8_rows 36 = .ok (.iaload, 1) := by decide +kernel
theorem dX8_rows_37 : decode cX8_rows 37 = .ok (.iadd, 1) := by decide +kernel
theorem dX8_rows_38 : decode cX8_rows 38 = .ok (.istore_n 1, 1) := by decide +kernel
theorem dX8_rows_39 : decode cX8_rows 39 = .ok (.iinc 2 1, 3) := by decide +kernel
theorem dX8_rows_42 : decode cX8_rows 42 = .ok (.goto (-29), 3) := by decide +kernel
theorem dX8_rows_45 : decode cX8_rows 45 = .ok (.iload_n 1, 1) := by decide +kernel
theorem dX8_rows_46 : decode cX8_rows 46 = .ok (.ireturn, 1) := by decide +kernel
theorem dX8_leastOf_0 : decode cX8_leastOf 0 = .ok (.aload_n 0, 1) := by decide +kernel
theorem dX8_leastOf_1 : decode cX8_leastOf 1 = .ok (.invokevirtual 192, 3) := by decide +kernel
theorem dX8_leastOf_4 : decode cX8_leastOf 4 = .ok (.ldc 188, 2) := by decide +kernel
theorem dX8_leastOf_6 : decode cX8_leastOf 6 = .ok (.istore_n 1, 1) := by decide +kernel
theorem dX8_leastOf_7 : decode cX8_leastOf 7 = .ok (.iconst 0, 1) := by decide +kernel
theorem dX8_leastOf_8 : decode cX8_leastOf 8 = .ok (.istore_n 2, 1) := by decide +kernel
theorem dX8_leastOf_9 : decode cX8_leastOf 9 = .ok (.iload_n 2, 1) := by decide +kernel
theorem dX8_leastOf_10 : decode cX8_leastOf 10 = .ok (.aload_n 0, 1) := by decide +kernel
theorem dX8_leastOf_11 : decode cX8_leastOf 11 = .ok (.getfield 182, 3) := by decide +kernel
theorem dX8_leastOf_14 : decode cX8_leastOf 14 = .ok (.if_icmp .ge 48, 3) := by decide +kernel
theorem dX8_leastOf_17 : decode cX8_leastOf 17 = .ok (.aload_n 0, 1) := by decide +kernel
theorem dX8_leastOf_18 : decode cX8_leastOf 18 = .ok (.getfield 89, 3) := by decide +kernel
theorem dX8_leastOf_21 : decode cX8_leastOf 21 = .ok (.bipush 7, 2) := by decide +kernel
theorem dX8_leastOf_23 : decode cX8_leastOf 23 = .ok (.aload_n 0, 1) := by decide +kernel
theorem dX8_leastOf_24 : decode cX8_leastOf 24 = .ok (.iload_n 2, 1) := by decide +kernel
theorem dX8_leastOf_25 : decode cX8_leastOf 25 = .ok (.invokevirtual 195, 3) := by decide +kernel
theorem dX8_leastOf_28 : decode cX8_leastOf 28 = .ok (.imul, 1) := by decide +kernel
theorem dX8_leastOf_29 : decode cX8_leastOf 29 = .ok (.iload_n 2, 1) := by decide +kernel
theorem dX8_leastOf_30 : decode cX8_leastOf 30 = .ok (.iadd, 1) := by decide +kernel
theorem dX8_leastOf_31 : decode cX8_leastOf 31 = .ok (.iaload, 1) := by decide +kernel
theorem dX8_leastOf_32 : decode cX8_leastOf 32 = .ok (.iload_n 1, 1) := by decide +kernel
theorem dX8_leastOf_33 : decode cX8_leastOf 33 = .ok (.if_icmp .ge 21, 3) := by decide +kernel
theorem dX8_leastOf_36 : decode cX8_leastOf 36 = .ok (.aload_n 0, 1) := by decide +kernel
theorem dX8_leastOf_37 : decode cX8_leastOf 37 = .ok (.getfield 89, 3) := by decide +kernel
theorem dX8_leastOf_40 : decode cX8_leastOf 40 = .ok (.bipush 7, 2) := by decide +kernel
theorem dX8_leastOf_42 : decode cX8_leastOf 42 = .ok (.aload_n 0, 1) := by decide +kernel
theorem dX8_leastOf_43 : decode cX8_leastOf 43 = .ok (.iload_n 2, 1) := by decide +kernel
theorem dX8_leastOf_44 : decode cX8_leastOf 44 = .ok (.invokevirtual 195, 3) := by decide +kernel
theorem dX8_leastOf_47 : decode cX8_leastOf 47 = .ok (.imul, 1) := by decide +kernel
theorem dX8_leastOf_48 : decode cX8_leastOf 48 = .ok (.iload_n 2, 1) := by decide +kernel
theorem dX8_leastOf_49 : decode cX8_leastOf 49 = .ok (.iadd, 1) := by decide +kernel
theorem dX8_leastOf_50 : decode cX8_leastOf 50 = .ok (.iaload, 1) := by decide +kernel
theorem dX8_leastOf_51 : decode cX8_leastOf 51 = .ok (.goto 4, 3) := by decide +kernel
theorem dX8_leastOf_54 : decode cX8_leastOf 54 = .ok (.iload_n 1, 1) := by decide +kernel
theorem dX8_leastOf_55 : decode cX8_leastOf 55 = .ok (.istore_n 1, 1) := by decide +kernel
theorem dX8_leastOf_56 : decode cX8_leastOf 56 = .ok (.iinc 2 1, 3) := by decide +kernel
theorem dX8_leastOf_59 : decode cX8_leastOf 59 = .ok (.goto (-50), 3) := by decide +kernel
theorem dX8_leastOf_62 : decode cX8_leastOf 62 = .ok (.iload_n 1, 1) := by decide +kernel
theorem dX8_leastOf_63 : decode cX8_leastOf 63 = .ok (.ireturn, 1) := by decide +kernel
theorem dX8_misfit_0 : decode cX8_misfit 0 = .ok (.aload_n 0, 1) := by decide +kernel
theorem dX8_misfit_1 : decode cX8_misfit 1 = .ok (.iconst 0, 1) := by decide +kernel
theorem dX8_misfit_2 : decode cX8_misfit 2 = .ok (.putfield 95, 3) := by decide +kernel
theorem dX8_misfit_5 : decode cX8_misfit 5 = .ok (.aload_n 0, 1) := by decide +kernel
theorem dX8_misfit_6 : decode cX8_misfit 6 = .ok (.invokevirtual 198, 3) := by decide +kernel
theorem dX8_misfit_9 : decode cX8_misfit 9 = .ok (.istore_n 1, 1) := by decide +kernel
theorem dX8_misfit_10 : decode cX8_misfit 10 = .ok (.iload_n 1, 1) := by decide +kernel
theorem dX8_misfit_11 : decode cX8_misfit 11 = .ok (.ldc 188, 2) := by decide +kernel
