theorem dX8_read_24 : decode cX8_read 24 = .ok (.bipush (-3), 2) := by decide +kernel
theorem dX8_read_26 : decode cX8_read 26 = .ok (.ireturn, 1) := by decide +kernel
theorem dX8_read_27 : decode cX8_read 27 = .ok (.iload_n 2, 1) := by decide +kernel
theorem dX8_read_28 : decode cX8_read 28 = .ok (.ifCond .eq 35, 3) := by decide +kernel
theorem dX8_read_31 : decode cX8_read 31 = .ok (.aload_n 0, 1) := by decide +kernel
theorem dX8_read_32 : decode cX8_read 32 = .ok (.getfield 13, 3) := by decide +kernel
theorem dX8_read_35 : decode cX8_read 35 = .ok (.iload_n 1, 1) := by decide +kernel
theorem dX8_read_36 : decode cX8_read 36 = .ok (.aload_n 0, 1) := by decide +kernel
theorem dX8_read_37 : decode cX8_read 37 = .ok (.getfield 13, 3) := by decide +kernel
theorem dX8_read_40 : decode cX8_read 40 = .ok (.iload_n 1, 1) := by decide +kernel
theorem dX8_read_41 : decode cX8_read 41 = .ok (.iaload, 1) := by decide +kernel
theorem dX8_read_42 : decode cX8_read 42 = .ok (.aload_n 0, 1) := by decide +kernel
theorem dX8_read_43 : decode cX8_read 43 = .ok (.getfield 16, 3) := by decide +kernel
theorem dX8_read_46 : decode cX8_read 46 = .ok (.iload_n 1, 1) := by decide +kernel
theorem dX8_read_47 : decode cX8_read 47 = .ok (.iaload, 1) := by decide +kernel
theorem dX8_read_48 : decode cX8_read 48 = .ok (.isub, 1) := by decide +kernel
theorem dX8_read_49 : decode cX8_read 49 = .ok (.invokestatic 114, 3) := by decide +kernel
theorem dX8_read_52 : decode cX8_read 52 = .ok (.iastore, 1) := by decide +kernel
theorem dX8_read_53 : decode cX8_read 53 = .ok (.aload_n 0, 1) := by decide +kernel
theorem dX8_read_54 : decode cX8_read 54 = .ok (.getfield 28, 3) := by decide +kernel
theorem dX8_read_57 : decode cX8_read 57 = .ok (.iload_n 1, 1) := by decide +kernel
theorem dX8_read_58 : decode cX8_read 58 = .ok (.dup2, 1) := by decide +kernel
theorem dX8_read_59 : decode cX8_read 59 = .ok (.iaload, 1) := by decide +kernel
theorem dX8_read_60 : decode cX8_read 60 = .ok (.iconst 1, 1) := by decide +kernel
theorem dX8_read_61 : decode cX8_read 61 = .ok (.iadd, 1) := by decide +kernel
theorem dX8_read_62 : decode cX8_read 62 = .ok (.iastore, 1) := by decide +kernel
theorem dX8_read_63 : decode cX8_read 63 = .ok (.aload_n 0, 1) := by decide +kernel
theorem dX8_read_64 : decode cX8_read 64 = .ok (.getfield 31, 3) := by decide +kernel
theorem dX8_read_67 : decode cX8_read 67 = .ok (.iload_n 1, 1) := by decide +kernel
theorem dX8_read_68 : decode cX8_read 68 = .ok (.aload_n 0, 1) := by decide +kernel
theorem dX8_read_69 : decode cX8_read 69 = .ok (.getfield 118, 3) := by decide +kernel
theorem dX8_read_72 : decode cX8_read 72 = .ok (.iastore, 1) := by decide +kernel
theorem dX8_read_73 : decode cX8_read 73 = .ok (.aload_n 0, 1) := by decide +kernel
theorem dX8_read_74 : decode cX8_read 74 = .ok (.getfield 13, 3) := by decide +kernel
theorem dX8_read_77 : decode cX8_read 77 = .ok (.iload_n 1, 1) := by decide +kernel
theorem dX8_read_78 : decode cX8_read 78 = .ok (.iaload, 1) := by decide +kernel
theorem dX8_read_79 : decode cX8_read 79 = .ok (.ireturn, 1) := by decide +kernel
theorem dX8_pass_0 : decode cX8_pass 0 = .ok (.aload_n 0, 1) := by decide +kernel
theorem dX8_pass_1 : decode cX8_pass 1 = .ok (.iconst 0, 1) := by decide +kernel
theorem dX8_pass_2 : decode cX8_pass 2 = .ok (.putfield 95, 3) := by decide +kernel
theorem dX8_pass_5 : decode cX8_pass 5 = .ok (.iload_n 1, 1) := by decide +kernel
theorem dX8_pass_6 : decode cX8_pass 6 = .ok (.i2l, 1) := by decide +kernel
theorem dX8_pass_7 : decode cX8_pass 7 = .ok (.lconst 1, 1) := by decide +kernel
theorem dX8_pass_8 : decode cX8_pass 8 = .ok (.ldc2_w 108, 3) := by decide +kernel
theorem dX8_pass_11 : decode cX8_pass 11 = .ok (.invokestatic 102, 3) := by decide +kernel
theorem dX8_pass_14 : decode cX8_pass 14 = .ok (.ifCond .ne 6, 3) := by decide +kernel
theorem dX8_pass_17 : decode cX8_pass 17 = .ok (.bipush (-2), 2) := by decide +kernel
theorem dX8_pass_19 : decode cX8_pass 19 = .ok (.ireturn, 1) := by decide +kernel
theorem dX8_pass_20 : decode cX8_pass 20 = .ok (.aload_n 0, 1) := by decide +kernel
theorem dX8_pass_21 : decode cX8_pass 21 = .ok (.getfield 118, 3) := by decide +kernel
theorem dX8_pass_24 : decode cX8_pass 24 = .ok (.iload_n 1, 1) := by decide +kernel
theorem dX8_pass_25 : decode cX8_pass 25 = .ok (.iadd, 1) := by decide +kernel
theorem dX8_pass_26 : decode cX8_pass 26 = .ok (.sipush 1000, 3) := by decide +kernel
theorem dX8_pass_29 : decode cX8_pass 29 = .ok (.if_icmp .le 6, 3) := by decide +kernel
theorem dX8_pass_32 : decode cX8_pass 32 = .ok (.bipush (-4), 2) := by decide +kernel
theorem dX8_pass_34 : decode cX8_pass 34 = .ok (.ireturn, 1) := by decide +kernel
theorem dX8_pass_35 : decode cX8_pass 35 = .ok (.aload_n 0, 1) := by decide +kernel
theorem dX8_pass_36 : decode cX8_pass 36 = .ok (.dup, 1) := by decide +kernel
theorem dX8_pass_37 : decode cX8_pass 37 = .ok (.getfield 118, 3) := by decide +kernel
theorem dX8_pass_40 : decode cX8_pass 40 = .ok (.iload_n 1, 1) := by decide +kernel
theorem dX8_pass_41 : decode cX8_pass 41 = .ok (.iadd, 1) := by decide +kernel
theorem dX8_pass_42 : decode cX8_pass 42 = .ok (.putfield 118, 3) := by decide +kernel
theorem dX8_pass_45 : decode cX8_pass 45 = .ok (.iconst 0, 1) := by decide +kernel
theorem dX8_pass_46 : decode cX8_pass 46 = .ok (.istore_n 2, 1) := by decide +kernel
theorem dX8_pass_47 : decode cX8_pass 47 = .ok (.iload_n 2, 1) := by decide +kernel
theorem dX8_pass_48 : decode cX8_pass 48 = .ok (.aload_n 0, 1) := by decide +kernel
theorem dX8_pass_49 : decode cX8_pass 49 = .ok (.getfield 99, 3) := by decide +kernel
theorem dX8_pass_52 : decode cX8_pass 52 = .ok (.if_icmp .ge 33, 3) := by decide +kernel
theorem dX8_pass_55 : decode cX8_pass 55 = .ok (.aload_n 0, 1) := by decide +kernel
theorem dX8_pass_56 : decode cX8_pass 56 = .ok (.getfield 13, 3) := by decide +kernel
theorem dX8_pass_59 : decode cX8_pass 59 = .ok (.iload_n 2, 1) := by decide +kernel
theorem dX8_pass_60 : decode cX8_pass 60 = .ok (.aload_n 0, 1) := by decide +kernel
theorem dX8_pass_61 : decode cX8_pass 61 = .ok (.getfield 13, 3) := by decide +kernel
theorem dX8_pass_64 : decode cX8_pass 64 = .ok (.iload_n 2, 1) := by decide +kernel
theorem dX8_pass_65 : decode cX8_pass 65 = .ok (.iaload, 1) := by decide +kernel
theorem dX8_pass_66 : decode cX8_pass 66 = .ok (.iload_n 1, 1) := by decide +kernel
theorem dX8_pass_67 : decode cX8_pass 67 = .ok (.aload_n 0, 1) := by decide +kernel
theorem dX8_pass_68 : decode cX8_pass 68 = .ok (.getfield 19, 3) := by decide +kernel
theorem dX8_pass_71 : decode cX8_pass 71 = .ok (.iload_n 2, 1) := by decide +kernel
theorem dX8_pass_72 : decode cX8_pass 72 = .ok (.iaload, 1) := by decide +kernel
theorem dX8_pass_73 : decode cX8_pass 73 = .ok (.imul, 1) := by decide +kernel
theorem dX8_pass_74 : decode cX8_pass 74 = .ok (.isub, 1) := by decide +kernel
theorem dX8_pass_75 : decode cX8_pass 75 = .ok (.invokestatic 114, 3) := by decide +kernel
theorem dX8_pass_78 : decode cX8_pass 78 = .ok (.iastore, 1) := by decide +kernel
theorem dX8_pass_79 : decode cX8_pass 79 = .ok (.iinc 2 1, 3) := by decide +kernel
theorem dX8_pass_82 : decode cX8_pass 82 = .ok (.goto (-35), 3) := by decide +kernel
theorem dX8_pass_85 : decode cX8_pass 85 = .ok (.aload_n 0, 1) := by decide +kernel
theorem dX8_pass_86 : decode cX8_pass 86 = .ok (.getfield 118, 3) := by decide +kernel
theorem dX8_pass_89 : decode cX8_pass 89 = .ok (.ireturn, 1) := by decide +kernel
theorem dX8_gather_0 : decode cX8_gather 0 = .ok (.aload_n 0, 1) := by decide +kernel
theorem dX8_gather_1 : decode cX8_gather 1 = .ok (.iconst 0, 1) := by decide +kernel
theorem dX8_gather_2 : decode cX8_gather 2 = .ok (.putfield 121, 3) := by decide +kernel
theorem dX8_gather_5 : decode cX8_gather 5 = .ok (.iconst 0, 1) := by decide +kernel
theorem dX8_gather_6 : decode cX8_gather 6 = .ok (.istore_n 2, 1) := by decide +kernel
theorem dX8_gather_7 : decode cX8_gather 7 = .ok (.iload_n 2, 1) := by decide +kernel
theorem dX8_gather_8 : decode cX8_gather 8 = .ok (.aload_n 0, 1) := by decide +kernel
theorem dX8_gather_9 : decode cX8_gather 9 = .ok (.getfield 99, 3) := by decide +kernel
theorem dX8_gather_12 : decode cX8_gather 12 = .ok (.if_icmp .ge 38, 3) := by decide +kernel
theorem dX8_gather_15 : decode cX8_gather 15 = .ok (.iload_n 1, 1) := by decide +kernel
theorem dX8_gather_16 : decode cX8_gather 16 = .ok (.iload_n 2, 1) := by decide +kernel
theorem dX8_gather_17 : decode cX8_gather 17 = .ok (.ishr, 1) := by decide +kernel
theorem dX8_gather_18 : decode cX8_gather 18 = .ok (.iconst 1, 1) := by decide +kernel
theorem dX8_gather_19 : decode cX8_gather 19 = .ok (.iand, 1) := by decide +kernel
theorem dX8_gather_20 : decode cX8_gather 20 = .ok (.iconst 1, 1) := by decide +kernel
theorem dX8_gather_21 : decode cX8_gather 21 = .ok (.if_icmp .ne 23, 3) := by decide +kernel
theorem dX8_gather_24 : decode cX8_gather 24 = .ok (.aload_n 0, 1) := by decide +kernel
theorem dX8_gather_25 : decode cX8_gather 25 = .ok (.getfield 80, 3) := by decide +kernel
theorem dX8_gather_28 : decode cX8_gather 28 = .ok (.aload_n 0, 1) := by decide +kernel
theorem dX8_gather_29 : decode cX8_gather 29 = .ok (.getfield 121, 3) := by decide +kernel
theorem dX8_gather_32 : decode cX8_gather 32 = .ok (.iload_n 2, 1) := by decide +kernel
theorem dX8_gather_33 : decode cX8_gather 33 = .ok (.iastore, 1) := by decide +kernel
theorem dX8_gather_34 : decode cX8_gather 34 = .ok (.aload_n 0, 1) := by decide +kernel
theorem dX8_gather_35 : decode cX8_gather 35 = .ok (.dup, 1) := by decide +kernel
theorem dX8_gather_36 : decode cX8_gather 36 = .ok (.getfield 121, 3) := by decide +kernel
theorem dX8_gather_39 : decode cX8_gather 39 = .ok (.iconst 1, 1) := by decide +kernel
theorem dX8_gather_40 : decode cX8_gather 40 = .ok (.iadd, 1) := by decide +kernel
theorem dX8_gather_41 : decode cX8_gather 41 = .ok (.putfield 121, 3) := by decide +kernel
theorem dX8_gather_44 : decode cX8_gather 44 = .ok (.iinc 2 1, 3) := by decide +kernel
theorem dX8_gather_47 : decode cX8_gather 47 = .ok (.goto (-40), 3) := by decide +kernel
theorem dX8_gather_50 : decode cX8_gather 50 = .ok (.return_, 1) := by decide +kernel
theorem dX8_weigh_0 : decode cX8_weigh 0 = .ok (.aload_n 0, 1) := by decide +kernel
theorem dX8_weigh_1 : decode cX8_weigh 1 = .ok (.iconst 0, 1) := by decide +kernel
theorem dX8_weigh_2 : decode cX8_weigh 2 = .ok (.putfield 124, 3) := by decide +kernel
theorem dX8_weigh_5 : decode cX8_weigh 5 = .ok (.iconst 0, 1) := by decide +kernel
theorem dX8_weigh_6 : decode cX8_weigh 6 = .ok (.istore_n 3, 1) := by decide +kernel
theorem dX8_weigh_7 : decode cX8_weigh 7 = .ok (.iload_n 3, 1) := by decide +kernel
theorem dX8_weigh_8 : decode cX8_weigh 8 = .ok (.iconst 3, 1) := by decide +kernel
theorem dX8_weigh_9 : decode cX8_weigh 9 = .ok (.if_icmp .ge 16, 3) := by decide +kernel
theorem dX8_weigh_12 : decode cX8_weigh 12 = .ok (.aload_n 0, 1) := by decide +kernel
theorem dX8_weigh_13 : decode cX8_weigh 13 = .ok (.getfield 86, 3) := by decide +kernel
theorem dX8_weigh_16 : decode cX8_weigh 16 = .ok (.iload_n 3, 1) := by decide +kernel
theorem dX8_weigh_17 : decode cX8_weigh 17 = .ok (.iconst 0, 1) := by decide +kernel
theorem dX8_weigh_18 : decode cX8_weigh 18 = .ok (.iastore, 1) := by decide +kernel
theorem dX8_weigh_19 : decode cX8_weigh 19 = .ok (.iinc 3 1, 3) := by decide +kernel
theorem dX8_weigh_22 : decode cX8_weigh 22 = .ok (.goto (-15), 3) := by decide +kernel
theorem dX8_weigh_25 : decode cX8_weigh 25 = .ok (.iload_n 1, 1) := by decide +kernel
theorem dX8_weigh_26 : decode cX8_weigh 26 = .ok (.istore_n 3, 1) := by decide +kernel
theorem dX8_weigh_27 : decode cX8_weigh 27 = .ok (.aload_n 0, 1) := by decide +kernel
theorem dX8_weigh_28 : decode cX8_weigh 28 = .ok (.getfield 121, 3) := by decide +kernel
theorem dX8_weigh_31 : decode cX8_weigh 31 = .ok (.iconst 1, 1) := by decide +kernel
theorem dX8_weigh_32 : decode cX8_weigh 32 = .ok (.isub, 1) := by decide +kernel
theorem dX8_weigh_33 : decode cX8_weigh 33 = .ok (.istore 4, 2) := by decide +kernel
theorem dX8_weigh_35 : decode cX8_weigh 35 = .ok (.iload 4, 2) := by decide +kernel
theorem dX8_weigh_37 : decode cX8_weigh 37 = .ok (.ifCond .lt 174, 3) := by decide +kernel
theorem dX8_weigh_40 : decode cX8_weigh 40 = .ok (.iload_n 3, 1) := by decide +kernel
theorem dX8_weigh_41 : decode cX8_weigh 41 = .ok (.iconst 2, 1) := by decide +kernel
theorem dX8_weigh_42 : decode cX8_weigh 42 = .ok (.iload_n 2, 1) := by decide +kernel
theorem dX8_weigh_43 : decode cX8_weigh 43 = .ok (.imul, 1) := by decide +kernel
theorem dX8_weigh_44 : decode cX8_weigh 44 = .ok (.iconst 1, 1) := by decide +kernel
theorem dX8_weigh_45 : decode cX8_weigh 45 = .ok (.iadd, 1) := by decide +kernel
theorem dX8_weigh_46 : decode cX8_weigh 46 = .ok (.irem, 1) := by decide +kernel
theorem dX8_weigh_47 : decode cX8_weigh 47 = .ok (.istore 5, 2) := by decide +kernel
theorem dX8_weigh_49 : decode cX8_weigh 49 = .ok (.iload_n 3, 1) := by decide +kernel
theorem dX8_weigh_50 : decode cX8_weigh 50 = .ok (.iconst 2, 1) := by decide +kernel
theorem dX8_weigh_51 : decode cX8_weigh 51 = .ok (.iload_n 2, 1) := by decide +kernel
theorem dX8_weigh_52 : decode cX8_weigh 52 = .ok (.imul, 1) := by decide +kernel
theorem dX8_weigh_53 : decode cX8_weigh 53 = .ok (.iconst 1, 1) := by decide +kernel
theorem dX8_weigh_54 : decode cX8_weigh 54 = .ok (.iadd, 1) := by decide +kernel
theorem dX8_weigh_55 : decode cX8_weigh 55 = .ok (.idiv, 1) := by decide +kernel
theorem dX8_weigh_56 : decode cX8_weigh 56 = .ok (.istore_n 3, 1) := by decide +kernel
theorem dX8_weigh_57 : decode cX8_weigh 57 = .ok (.aload_n 0, 1) := by decide +kernel
theorem dX8_weigh_58 : decode cX8_weigh 58 = .ok (.getfield 83, 3) := by decide +kernel
theorem dX8_weigh_61 : decode cX8_weigh 61 = .ok (.iload 4, 2) := by decide +kernel
theorem dX8_weigh_63 : decode cX8_weigh 63 = .ok (.iload 5, 2) := by decide +kernel
theorem dX8_weigh_65 : decode cX8_weigh 65 = .ok (.iconst 2, 1) := by decide +kernel
theorem dX8_weigh_66 : decode cX8_weigh 66 = .ok (.iload_n 2, 1) := by decide +kernel
theorem dX8_weigh_67 : decode cX8_weigh 67 = .ok (.imul, 1) := by decide +kernel
theorem dX8_weigh_68 : decode cX8_weigh 68 = .ok (.if_icmp .ne 8, 3) := by decide +kernel
theorem dX8_weigh_71 : decode cX8_weigh 71 = .ok (.bipush (-9), 2) := by decide +kernel
theorem dX8_weigh_73 : decode cX8_weigh 73 = .ok (.goto 5, 3) := by decide +kernel
theorem dX8_weigh_76 : decode cX8_weigh 76 = .ok (.iload 5, 2) := by decide +kernel
theorem dX8_weigh_78 : decode cX8_weigh 78 = .ok (.iastore, 1) := by decide +kernel
theorem dX8_weigh_79 : decode cX8_weigh 79 = .ok (.iload 5, 2) := by decide +kernel
theorem dX8_weigh_81 : decode cX8_weigh 81 = .ok (.iconst 2, 1) := by decide +kernel
theorem dX8_weigh_82 : decode cX8_weigh 82 = .ok (.iload_n 2, 1) := by decide +kernel
theorem dX8_weigh_83 : decode cX8_weigh 83 = .ok (.imul, 1) := by decide +kernel
theorem dX8_weigh_84 : decode cX8_weigh 84 = .ok (.if_icmp .ge 121, 3) := by decide +kernel
theorem dX8_weigh_87 : decode cX8_weigh 87 = .ok (.aload_n 0, 1) := by decide +kernel
theorem dX8_weigh_88 : decode cX8_weigh 88 = .ok (.getfield 80, 3) := by decide +kernel
theorem dX8_weigh_91 : decode cX8_weigh 91 = .ok (.iload 4, 2) := by decide +kernel
theorem dX8_weigh_93 : decode cX8_weigh 93 = .ok (.iaload, 1) := by decide +kernel
theorem dX8_weigh_94 : decode cX8_weigh 94 = .ok (.istore 6, 2) := by decide +kernel
theorem dX8_weigh_96 : decode cX8_weigh 96 = .ok (.aload_n 0, 1) := by decide +kernel
theorem dX8_weigh_97 : decode cX8_weigh 97 = .ok (.getfield 13, 3) := by decide +kernel
theorem dX8_weigh_100 : decode cX8_weigh 100 = .ok (.iload 6, 2) := by decide +kernel
theorem dX8_weigh_102 : decode cX8_weigh 102 = .ok (.iaload, 1) := by decide +kernel
theorem dX8_weigh_103 : decode cX8_weigh 103 = .ok (.iload 5, 2) := by decide +kernel
theorem dX8_weigh_105 : decode cX8_weigh 105 = .ok (.iconst 2, 1) := by decide +kernel
theorem dX8_weigh_106 : decode cX8_weigh 106 = .ok (.idiv, 1) := by decide +kernel
theorem dX8_weigh_107 : decode cX8_weigh 107 = .ok (.aload_n 0, 1) := by decide +kernel
theorem dX8_weigh_108 : decode cX8_weigh 108 = .ok (.getfield 19, 3) := by decide +kernel
theorem dX8_weigh_111 : decode cX8_weigh 111 = .ok (.iload 6, 2) := by decide +kernel
theorem dX8_weigh_113 : decode cX8_weigh 113 = .ok (.iaload, 1) := by decide +kernel
theorem dX8_weigh_114 : decode cX8_weigh 114 = .ok (.imul, 1) := by decide +kernel
theorem dX8_weigh_115 : decode cX8_weigh 115 = .ok (.isub, 1) := by decide +kernel
theorem dX8_weigh_116 : decode cX8_weigh 116 = .ok (.invokestatic 114, 3) := by decide +kernel
theorem dX8_weigh_119 : decode cX8_weigh 119 = .ok (.istore 7, 2) := by decide +kernel
theorem dX8_weigh_121 : decode cX8_weigh 121 = .ok (.iload 5, 2) := by decide +kernel
theorem dX8_weigh_123 : decode cX8_weigh 123 = .ok (.iconst 2, 1) := by decide +kernel
theorem dX8_weigh_124 : decode cX8_weigh 124 = .ok (.irem, 1) := by decide +kernel
theorem dX8_weigh_125 : decode cX8_weigh 125 = .ok (.iconst 1, 1) := by decide +kernel
theorem dX8_weigh_126 : decode cX8_weigh 126 = .ok (.if_icmp .ne 19, 3) := by decide +kernel
theorem dX8_weigh_129 : decode cX8_weigh 129 = .ok (.iload 7, 2) := by decide +kernel
theorem dX8_weigh_131 : decode cX8_weigh 131 = .ok (.aload_n 0, 1) := by decide +kernel
theorem dX8_weigh_132 : decode cX8_weigh 132 = .ok (.getfield 16, 3) := by decide +kernel
theorem dX8_weigh_135 : decode cX8_weigh 135 = .ok (.iload 6, 2) := by decide +kernel
theorem dX8_weigh_137 : decode cX8_weigh 137 = .ok (.iaload, 1) := by decide +kernel
theorem dX8_weigh_138 : decode cX8_weigh 138 = .ok (.isub, 1) := by decide +kernel
theorem dX8_weigh_139 : decode cX8_weigh 139 = .ok (.invokestatic 114, 3) := by decide +kernel
theorem dX8_weigh_142 : decode cX8_weigh 142 = .ok (.goto 5, 3) := by decide +kernel
theorem dX8_weigh_145 : decode cX8_weigh 145 = .ok (.iload 7, 2) := by decide +kernel
theorem dX8_weigh_147 : decode cX8_weigh 147 = .ok (.istore 7, 2) := by decide +kernel
theorem dX8_weigh_149 : decode cX8_weigh 149 = .ok (.aload_n 0, 1) := by decide +kernel
theorem dX8_weigh_150 : decode cX8_weigh 150 = .ok (.dup, 1) := by decide +kernel
theorem dX8_weigh_151 : decode cX8_weigh 151 = .ok (.getfield 124, 3) := by decide +kernel
theorem dX8_weigh_154 : decode cX8_weigh 154 = .ok (.aload_n 0, 1) := by decide +kernel
theorem dX8_weigh_155 : decode cX8_weigh 155 = .ok (.getfield 7, 3) := by decide +kernel
theorem dX8_weigh_158 : decode cX8_weigh 158 = .ok (.iload 6, 2) := by decide +kernel
theorem dX8_weigh_160 : decode cX8_weigh 160 = .ok (.iaload, 1) := by decide +kernel
theorem dX8_weigh_161 : decode cX8_weigh 161 = .ok (.iload 7, 2) := by decide +kernel
theorem dX8_weigh_163 : decode cX8_weigh 163 = .ok (.imul, 1) := by decide +kernel
theorem dX8_weigh_164 : decode cX8_weigh 164 = .ok (.iadd, 1) := by decide +kernel
theorem dX8_weigh_165 : decode cX8_weigh 165 = .ok (.putfield 124, 3) := by decide +kernel
theorem dX8_weigh_168 : decode cX8_weigh 168 = .ok (.aload_n 0, 1) := by decide +kernel
theorem dX8_weigh_169 : decode cX8_weigh 169 = .ok (.getfield 86, 3) := by decide +kernel
theorem dX8_weigh_172 : decode cX8_weigh 172 = .ok (.iload 5, 2) := by decide +kernel
theorem dX8_weigh_174 : decode cX8_weigh 174 = .ok (.iconst 2, 1) := by decide +kernel
theorem dX8_weigh_175 : decode cX8_weigh 175 = .ok (.idiv, 1) := by decide +kernel
theorem dX8_weigh_176 : decode cX8_weigh 176 = .ok (.dup2, 1) := by decide +kernel
theorem dX8_weigh_177 : decode cX8_weigh 177 = .ok (.iaload, 1) := by decide +kernel
theorem dX8_weigh_178 : decode cX8_weigh 178 = .ok (.iload 5, 2) := by decide +kernel
theorem dX8_weigh_180 : decode cX8_weigh 180 = .ok (.iconst 2, 1) := by decide +kernel
theorem dX8_weigh_181 : decode cX8_weigh 181 = .ok (.irem, 1) := by decide +kernel
theorem dX8_weigh_182 : decode cX8_weigh 182 = .ok (.iconst 1, 1) := by decide +kernel
theorem dX8_weigh_183 : decode cX8_weigh 183 = .ok (.if_icmp .ne 13, 3) := by decide +kernel
theorem dX8_weigh_186 : decode cX8_weigh 186 = .ok (.aload_n 0, 1) := by decide +kernel
theorem dX8_weigh_187 : decode cX8_weigh 187 = .ok (.getfield 25, 3) := by decide +kernel
theorem dX8_weigh_190 : decode cX8_weigh 190 = .ok (.iload 6, 2) := by decide +kernel
theorem dX8_weigh_192 : decode cX8_weigh 192 = .ok (.iaload, 1) := by decide +kernel
theorem dX8_weigh_193 : decode cX8_weigh 193 = .ok (.goto 10, 3) := by decide +kernel
theorem dX8_weigh_196 : decode cX8_weigh 196 = .ok (.aload_n 0, 1) := by decide +kernel
theorem dX8_weigh_197 : decode cX8_weigh 197 = .ok (.getfield 22, 3) := by decide +kernel
theorem dX8_weigh_200 : decode cX8_weigh 200 = .ok (.iload 6, 2) := by decide +kernel
theorem dX8_weigh_202 : decode cX8_weigh 202 = .ok (.iaload, 1) := by decide +kernel
theorem dX8_weigh_203 : decode cX8_weigh 203 = .ok (.iadd, 1) := by decide +kernel
theorem dX8_weigh_204 : decode cX8_weigh 204 = .ok (.iastore, 1) := by decide +kernel
theorem dX8_weigh_205 : decode cX8_weigh 205 = .ok (.iinc 4 (-1), 3) := by decide +kernel
theorem dX8_weigh_208 : decode cX8_weigh 208 = .ok (.goto (-173), 3) := by decide +kernel
theorem dX8_weigh_211 : decode cX8_weigh 211 = .ok (.return_, 1) := by decide +kernel
theorem dX8_most_0 : decode cX8_most 0 = .ok (.aload_n 0, 1) := by decide +kernel
theorem dX8_most_1 : decode cX8_most 1 = .ok (.getfield 86, 3) := by decide +kernel
theorem dX8_most_4 : decode cX8_most 4 = .ok (.iconst 0, 1) := by decide +kernel
theorem dX8_most_5 : decode cX8_most 5 = .ok (.iaload, 1) := by decide +kernel
theorem dX8_most_6 : decode cX8_most 6 = .ok (.aload_n 0, 1) := by decide +kernel
theorem dX8_most_7 : decode cX8_most 7 = .ok (.getfield 86, 3) := by decide +kernel
theorem dX8_most_10 : decode cX8_most 10 = .ok (.iconst 1, 1) := by decide +kernel
theorem dX8_most_11 : decode cX8_most 11 = .ok (.iaload, 1) := by decide +kernel
theorem dX8_most_12 : decode cX8_most 12 = .ok (.if_icmp .le 12, 3) := by decide +kernel
theorem dX8_most_15 : decode cX8_most 15 = .ok (.aload_n 0, 1) := by decide +kernel
theorem dX8_most_16 : decode cX8_most 16 = .ok (.getfield 86, 3) := by decide +kernel
theorem dX8_most_19 : decode cX8_most 19 = .ok (.iconst 0, 1) := by decide +kernel
theorem dX8_most_20 : decode cX8_most 20 = .ok (.iaload, 1) := by decide +kernel
theorem dX8_most_21 : decode cX8_most 21 = .ok (.goto 9, 3) := by decide +kernel
theorem dX8_most_24 : decode cX8_most 24 = .ok (.aload_n 0, 1) := by decide +kernel
theorem dX8_most_25 : decode cX8_most 25 = .ok (.getfield 86, 3) := by decide +kernel
theorem dX8_most_28 : decode cX8_most 28 = .ok (.iconst 1, 1) := by decide +kernel
theorem dX8_most_29 : decode cX8_most 29 = .ok (.iaload, 1) := by decide +kernel
theorem dX8_most_30 : decode cX8_most 30 = .ok (.istore_n 1, 1) := by decide +kernel
theorem dX8_most_31 : decode cX8_most 31 = .ok (.iload_n 1, 1) := by decide +kernel
theorem dX8_most_32 : decode cX8_most 32 = .ok (.aload_n 0, 1) := by decide +kernel
theorem dX8_most_33 : decode cX8_most 33 = .ok (.getfield 86, 3) := by decide +kernel
theorem dX8_most_36 : decode cX8_most 36 = .ok (.iconst 2, 1) := by decide +kernel
theorem dX8_most_37 : decode cX8_most 37 = .ok (.iaload, 1) := by decide +kernel
theorem dX8_most_38 : decode cX8_most 38 = .ok (.if_icmp .le 7, 3) := by decide +kernel
theorem dX8_most_41 : decode cX8_most 41 = .ok (.iload_n 1, 1) := by decide +kernel
theorem dX8_most_42 : decode cX8_most 42 = .ok (.goto 9, 3) := by decide +kernel
theorem dX8_most_45 : decode cX8_most 45 = .ok (.aload_n 0, 1) := by decide +kernel
theorem dX8_most_46 : decode cX8_most 46 = .ok (.getfield 86, 3) := by decide +kernel
theorem dX8_most_49 : decode cX8_most 49 = .ok (.iconst 2, 1) := by decide +kernel
theorem dX8_most_50 : decode cX8_most 50 = .ok (.iaload, 1) := by decide +kernel
theorem dX8_most_51 : decode cX8_most 51 = .ok (.ireturn, 1) := by decide +kernel
theorem dX8_codes_0 : decode cX8_codes 0 = .ok (.iconst 1, 1) := by decide +kernel
theorem dX8_codes_1 : decode cX8_codes 1 = .ok (.istore_n 2, 1) := by decide +kernel
theorem dX8_codes_2 : decode cX8_codes 2 = .ok (.iconst 0, 1) := by decide +kernel
theorem dX8_codes_3 : decode cX8_codes 3 = .ok (.istore_n 3, 1) := by decide +kernel
theorem dX8_codes_4 : decode cX8_codes 4 = .ok (.iload_n 3, 1) := by decide +kernel
theorem dX8_codes_5 : decode cX8_codes 5 = .ok (.aload_n 0, 1) := by decide +kernel
theorem dX8_codes_6 : decode cX8_codes 6 = .ok (.getfield 121, 3) := by decide +kernel
theorem dX8_codes_9 : decode cX8_codes 9 = .ok (.if_icmp .ge 17, 3) := by decide +kernel
theorem dX8_codes_12 : decode cX8_codes 12 = .ok (.iload_n 2, 1) := by decide +kernel
theorem dX8_codes_13 : decode cX8_codes 13 = .ok (.iconst 2, 1) := by decide +kernel
theorem dX8_codes_14 : decode cX8_codes 14 = .ok (.iload_n 1, 1) := by decide +kernel
theorem dX8_codes_15 : decode cX8_codes 15 = .ok (.imul, 1) := by decide +kernel
theorem dX8_codes_16 : decode cX8_codes 16 = .ok (.iconst 1, 1) := by decide +kernel
theorem dX8_codes_17 : decode cX8_codes 17 = .ok (.iadd, 1) := by decide +kernel
theorem dX8_codes_18 : decode cX8_codes 18 = .ok (.imul, 1) := by decide +kernel
theorem dX8_codes_19 : decode cX8_codes 19 = .ok (.istore_n 2, 1) := by decide +kernel
theorem dX8_codes_20 : decode cX8_codes 20 = .ok (.iinc 3 1, 3) := by decide +kernel
theorem dX8_codes_23 : decode cX8_codes 23 = .ok (.goto (-19), 3) := by decide +kernel
theorem dX8_codes_26 : decode cX8_codes 26 = .ok (.iload_n 2, 1) := by decide +kernel
theorem dX8_codes_27 : decode cX8_codes 27 = .ok (.ireturn, 1) := by decide +kernel
theorem dX8_plan_0 : decode cX8_plan 0 = .ok (.aload_n 0, 1) := by decide +kernel
theorem dX8_plan_1 : decode cX8_plan 1 = .ok (.iload_n 1, 1) := by decide +kernel
theorem dX8_plan_2 : decode cX8_plan 2 = .ok (.invokevirtual 127, 3) := by decide +kernel
theorem dX8_plan_5 : decode cX8_plan 5 = .ok (.bipush (-9), 2) := by decide +kernel
theorem dX8_plan_7 : decode cX8_plan 7 = .ok (.istore 4, 2) := by decide +kernel
theorem dX8_plan_9 : decode cX8_plan 9 = .ok (.iconst 0, 1) := by decide +kernel
theorem dX8_plan_10 : decode cX8_plan 10 = .ok (.istore 5, 2) := by decide +kernel
theorem dX8_plan_12 : decode cX8_plan 12 = .ok (.iconst 0, 1) := by decide +kernel
theorem dX8_plan_13 : decode cX8_plan 13 = .ok (.istore 6, 2) := by decide +kernel
theorem dX8_plan_15 : decode cX8_plan 15 = .ok (.iload 6, 2) := by decide +kernel
theorem dX8_plan_17 : decode cX8_plan 17 = .ok (.aload_n 0, 1) := by decide +kernel
theorem dX8_plan_18 : decode cX8_plan 18 = .ok (.iload_n 2, 1) := by decide +kernel
theorem dX8_plan_19 : decode cX8_plan 19 = .ok (.invokevirtual 131, 3) := by decide +kernel
theorem dX8_plan_22 : decode cX8_plan 22 = .ok (.if_icmp .ge 50, 3) := by decide +kernel
theorem dX8_plan_25 : decode cX8_plan 25 = .ok (.aload_n 0, 1) := by decide +kernel
theorem dX8_plan_26 : decode cX8_plan 26 = .ok (.iload 6, 2) := by decide +kernel
theorem dX8_plan_28 : decode cX8_plan 28 = .ok (.iload_n 2, 1) := by decide +kernel
theorem dX8_plan_29 : decode cX8_plan 29 = .ok (.invokevirtual 134, 3) := by decide +kernel
theorem dX8_plan_32 : decode cX8_plan 32 = .ok (.aload_n 0, 1) := by decide +kernel
theorem dX8_plan_33 : decode cX8_plan 33 = .ok (.invokevirtual 138, 3) := by decide +kernel
theorem dX8_plan_36 : decode cX8_plan 36 = .ok (.iload_n 3, 1) := by decide +kernel
theorem dX8_plan_37 : decode cX8_plan 37 = .ok (.if_icmp .gt 29, 3) := by decide +kernel
theorem dX8_plan_40 : decode cX8_plan 40 = .ok (.iload 4, 2) := by decide +kernel
theorem dX8_plan_42 : decode cX8_plan 42 = .ok (.bipush (-9), 2) := by decide +kernel
theorem dX8_plan_44 : decode cX8_plan 44 = .ok (.if_icmp .eq 12, 3) := by decide +kernel
theorem dX8_plan_47 : decode cX8_plan 47 = .ok (.aload_n 0, 1) := by decide +kernel
theorem dX8_plan_48 : decode cX8_plan 48 = .ok (.getfield 124, 3) := by decide +kernel
theorem dX8_plan_51 : decode cX8_plan 51 = .ok (.iload 5, 2) := by decide +kernel
theorem dX8_plan_53 : decode cX8_plan 53 = .ok (.if_icmp .le 13, 3) := by decide +kernel
theorem dX8_plan_56 : decode cX8_plan 56 = .ok (.iload 6, 2) := by decide +kernel
theorem dX8_plan_58 : decode cX8_plan 58 = .ok (.istore 4, 2) := by decide +kernel
theorem dX8_plan_60 : decode cX8_plan 60 = .ok (.aload_n 0, 1) := by decide +kernel
theorem dX8_plan_61 : decode cX8_plan 61 = .ok (.getfield 124, 3) := by decide +kernel
theorem dX8_plan_64 : decode cX8_plan 64 = .ok (.istore 5, 2) := by decide +kernel
theorem dX8_plan_66 : decode cX8_plan 66 = .ok (.iinc 6 1, 3) := by decide +kernel
theorem dX8_plan_69 : decode cX8_plan 69 = .ok (.goto (-54), 3) := by decide +kernel
theorem dX8_plan_72 : decode cX8_plan 72 = .ok (.aload_n 0, 1) := by decide +kernel
theorem dX8_plan_73 : decode cX8_plan 73 = .ok (.iload 4, 2) := by decide +kernel
theorem dX8_plan_75 : decode cX8_plan 75 = .ok (.iload_n 2, 1) := by decide +kernel
theorem dX8_plan_76 : decode cX8_plan 76 = .ok (.invokevirtual 134, 3) := by decide +kernel
theorem dX8_plan_79 : decode cX8_plan 79 = .ok (.return_, 1) := by decide +kernel
theorem dX8_badPlan_0 : decode cX8_badPlan 0 = .ok (.iload_n 0, 1) := by decide +kernel
theorem dX8_badPlan_1 : decode cX8_badPlan 1 = .ok (.invokestatic 142, 3) := by decide +kernel
theorem dX8_badPlan_4 : decode cX8_badPlan 4 = .ok (.bipush 6, 2) := by decide +kernel
theorem dX8_badPlan_6 : decode cX8_badPlan 6 = .ok (.if_icmp .gt 27, 3) := by decide +kernel
theorem dX8_badPlan_9 : decode cX8_badPlan 9 = .ok (.iload_n 1, 1) := by decide +kernel
theorem dX8_badPlan_10 : decode cX8_badPlan 10 = .ok (.i2l, 1) := by decide +kernel
theorem dX8_badPlan_11 : decode cX8_badPlan 11 = .ok (.lconst 1, 1) := by decide +kernel
theorem dX8_badPlan_12 : decode cX8_badPlan 12 = .ok (.ldc2_w 145, 3) := by decide +kernel
theorem dX8_badPlan_15 : decode cX8_badPlan 15 = .ok (.invokestatic 102, 3) := by decide +kernel
theorem dX8_badPlan_18 : decode cX8_badPlan 18 = .ok (.ifCond .eq 15, 3) := by decide +kernel
theorem dX8_badPlan_21 : decode cX8_badPlan 21 = .ok (.iload_n 2, 1) := by decide +kernel
theorem dX8_badPlan_22 : decode cX8_badPlan 22 = .ok (.i2l, 1) := by decide +kernel
theorem dX8_badPlan_23 : decode cX8_badPlan 23 = .ok (.lconst 0, 1) := by decide +kernel
theorem dX8_badPlan_24 : decode cX8_badPlan 24 = .ok (.ldc2_w 147, 3) := by decide +kernel
theorem dX8_badPlan_27 : decode cX8_badPlan 27 = .ok (.invokestatic 102, 3) := by decide +kernel
theorem dX8_badPlan_30 : decode cX8_badPlan 30 = .ok (.ifCond .ne 7, 3) := by decide +kernel
theorem dX8_badPlan_33 : decode cX8_badPlan 33 = .ok (.iconst 1, 1) := by decide +kernel
theorem dX8_badPlan_34 : decode cX8_badPlan 34 = .ok (.goto 4, 3) := by decide +kernel
theorem dX8_badPlan_37 : decode cX8_badPlan 37 = .ok (.iconst 0, 1) := by decide +kernel
theorem dX8_badPlan_38 : decode cX8_badPlan 38 = .ok (.ireturn, 1) := by decide +kernel
theorem dX8_best_0 : decode cX8_best 0 = .ok (.aload_n 0, 1) := by decide +kernel
theorem dX8_best_1 : decode cX8_best 1 = .ok (.iconst 0, 1) := by decide +kernel
theorem dX8_best_2 : decode cX8_best 2 = .ok (.putfield 95, 3) := by decide +kernel
theorem dX8_best_5 : decode cX8_best 5 = .ok (.aload_n 0, 1) := by decide +kernel
theorem dX8_best_6 : decode cX8_best 6 = .ok (.iload_n 1, 1) := by decide +kernel
theorem dX8_best_7 : decode cX8_best 7 = .ok (.invokevirtual 149, 3) := by decide +kernel
theorem dX8_best_10 : decode cX8_best 10 = .ok (.ifCond .eq 5, 3) := by decide +kernel
theorem dX8_best_13 : decode cX8_best 13 = .ok (.iconst (-1), 1) := by decide +kernel
theorem dX8_best_14 : decode cX8_best 14 = .ok (.ireturn, 1) := by decide +kernel
theorem dX8_best_15 : decode cX8_best 15 = .ok (.iload_n 1, 1) := by decide +kernel
theorem dX8_best_16 : decode cX8_best 16 = .ok (.iload_n 2, 1) := by decide +kernel
theorem dX8_best_17 : decode cX8_best 17 = .ok (.iload_n 3, 1) := by decide +kernel
theorem dX8_best_18 : decode cX8_best 18 = .ok (.invokestatic 152, 3) := by decide +kernel
theorem dX8_best_21 : decode cX8_best 21 = .ok (.ifCond .eq 6, 3) := by decide +kernel
theorem dX8_best_24 : decode cX8_best 24 = .ok (.bipush (-2), 2) := by decide +kernel
theorem dX8_best_26 : decode cX8_best 26 = .ok (.ireturn, 1) := by decide +kernel
theorem dX8_best_27 : decode cX8_best 27 = .ok (.aload_n 0, 1) := by decide +kernel
theorem dX8_best_28 : decode cX8_best 28 = .ok (.iload_n 1, 1) := by decide +kernel
theorem dX8_best_29 : decode cX8_best 29 = .ok (.iload_n 2, 1) := by decide +kernel
theorem dX8_best_30 : decode cX8_best 30 = .ok (.iload_n 3, 1) := by decide +kernel
theorem dX8_best_31 : decode cX8_best 31 = .ok (.invokevirtual 156, 3) := by decide +kernel
theorem dX8_best_34 : decode cX8_best 34 = .ok (.aload_n 0, 1) := by decide +kernel
theorem dX8_best_35 : decode cX8_best 35 = .ok (.getfield 124, 3) := by decide +kernel
theorem dX8_best_38 : decode cX8_best 38 = .ok (.ireturn, 1) := by decide +kernel
theorem dX8_does_0 : decode cX8_does 0 = .ok (.aload_n 0, 1) := by decide +kernel
theorem dX8_does_1 : decode cX8_does 1 = .ok (.iconst 0, 1) := by decide +kernel
theorem dX8_does_2 : decode cX8_does 2 = .ok (.putfield 95, 3) := by decide +kernel
theorem dX8_does_5 : decode cX8_does 5 = .ok (.aload_n 0, 1) := by decide +kernel
theorem dX8_does_6 : decode cX8_does 6 = .ok (.iload_n 1, 1) := by decide +kernel
theorem dX8_does_7 : decode cX8_does 7 = .ok (.invokevirtual 149, 3) := by decide +kernel
theorem dX8_does_10 : decode cX8_does 10 = .ok (.ifCond .eq 5, 3) := by decide +kernel
theorem dX8_does_13 : decode cX8_does 13 = .ok (.iconst (-1), 1) := by decide +kernel
theorem dX8_does_14 : decode cX8_does 14 = .ok (.ireturn, 1) := by decide +kernel
theorem dX8_does_15 : decode cX8_does 15 = .ok (.iload_n 1, 1) := by decide +kernel
theorem dX8_does_16 : decode cX8_does 16 = .ok (.iload_n 2, 1) := by decide +kernel
theorem dX8_does_17 : decode cX8_does 17 = .ok (.iload_n 3, 1) := by decide +kernel
theorem dX8_does_18 : decode cX8_does 18 = .ok (.invokestatic 152, 3) := by decide +kernel
theorem dX8_does_21 : decode cX8_does 21 = .ok (.ifCond .eq 6, 3) := by decide +kernel
theorem dX8_does_24 : decode cX8_does 24 = .ok (.bipush (-2), 2) := by decide +kernel
theorem dX8_does_26 : decode cX8_does 26 = .ok (.ireturn, 1) := by decide +kernel
theorem dX8_does_27 : decode cX8_does 27 = .ok (.aload_n 0, 1) := by decide +kernel
theorem dX8_does_28 : decode cX8_does 28 = .ok (.iload 4, 2) := by decide +kernel
theorem dX8_does_30 : decode cX8_does 30 = .ok (.invokevirtual 110, 3) := by decide +kernel
theorem dX8_does_33 : decode cX8_does 33 = .ok (.ifCond .eq 5, 3) := by decide +kernel
theorem dX8_does_36 : decode cX8_does 36 = .ok (.iconst (-1), 1) := by decide +kernel
theorem dX8_does_37 : decode cX8_does 37 = .ok (.ireturn, 1) := by decide +kernel
theorem dX8_does_38 : decode cX8_does 38 = .ok (.aload_n 0, 1) := by decide +kernel
theorem dX8_does_39 : decode cX8_does 39 = .ok (.iload_n 1, 1) := by decide +kernel
theorem dX8_does_40 : decode cX8_does 40 = .ok (.iload_n 2, 1) := by decide +kernel
theorem dX8_does_41 : decode cX8_does 41 = .ok (.iload_n 3, 1) := by decide +kernel
theorem dX8_does_42 : decode cX8_does 42 = .ok (.invokevirtual 156, 3) := by decide +kernel
theorem dX8_does_45 : decode cX8_does 45 = .ok (.bipush (-9), 2) := by decide +kernel
theorem dX8_does_47 : decode cX8_does 47 = .ok (.istore 5, 2) := by decide +kernel
theorem dX8_does_49 : decode cX8_does 49 = .ok (.iconst 0, 1) := by decide +kernel
theorem dX8_does_50 : decode cX8_does 50 = .ok (.istore 6, 2) := by decide +kernel
theorem dX8_does_52 : decode cX8_does 52 = .ok (.iload 6, 2) := by decide +kernel
theorem dX8_does_54 : decode cX8_does 54 = .ok (.aload_n 0, 1) := by decide +kernel
theorem dX8_does_55 : decode cX8_does 55 = .ok (.getfield 121, 3) := by decide +kernel
theorem dX8_does_58 : decode cX8_does 58 = .ok (.if_icmp .ge 35, 3) := by decide +kernel
theorem dX8_does_61 : decode cX8_does 61 = .ok (.aload_n 0, 1) := by decide +kernel
theorem dX8_does_62 : decode cX8_does 62 = .ok (.getfield 80, 3) := by decide +kernel
theorem dX8_does_65 : decode cX8_does 65 = .ok (.iload 6, 2) := by decide +kernel
theorem dX8_does_67 : decode cX8_does 67 = .ok (.iaload, 1) := by decide +kernel
theorem dX8_does_68 : decode cX8_does 68 = .ok (.iload 4, 2) := by decide +kernel
theorem dX8_does_70 : decode cX8_does 70 = .ok (.if_icmp .ne 13, 3) := by decide +kernel
theorem dX8_does_73 : decode cX8_does 73 = .ok (.aload_n 0, 1) := by decide +kernel
theorem dX8_does_74 : decode cX8_does 74 = .ok (.getfield 83, 3) := by decide +kernel
theorem dX8_does_77 : decode cX8_does 77 = .ok (.iload 6, 2) := by decide +kernel
theorem dX8_does_79 : decode cX8_does 79 = .ok (.iaload, 1) := by decide +kernel
theorem dX8_does_80 : decode cX8_does 80 = .ok (.goto 5, 3) := by decide +kernel
theorem dX8_does_83 : decode cX8_does 83 = .ok (.iload 5, 2) := by decide +kernel
theorem dX8_does_85 : decode cX8_does 85 = .ok (.istore 5, 2) := by decide +kernel
theorem dX8_does_87 : decode cX8_does 87 = .ok (.iinc 6 1, 3) := by decide +kernel
theorem dX8_does_90 : decode cX8_does 90 = .ok (.goto (-38), 3) := by decide +kernel
theorem dX8_does_93 : decode cX8_does 93 = .ok (.iload 5, 2) := by decide +kernel
theorem dX8_does_95 : decode cX8_does 95 = .ok (.ireturn, 1) := by decide +kernel
theorem dX8_needed_0 : decode cX8_needed 0 = .ok (.aload_n 0, 1) := by decide +kernel
theorem dX8_needed_1 : decode cX8_needed 1 = .ok (.iconst 0, 1) := by decide +kernel
theorem dX8_needed_2 : decode cX8_needed 2 = .ok (.putfield 95, 3) := by decide +kernel
theorem dX8_needed_5 : decode cX8_needed 5 = .ok (.aload_n 0, 1) := by decide +kernel
theorem dX8_needed_6 : decode cX8_needed 6 = .ok (.iload_n 1, 1) := by decide +kernel
theorem dX8_needed_7 : decode cX8_needed 7 = .ok (.invokevirtual 149, 3) := by decide +kernel
theorem dX8_needed_10 : decode cX8_needed 10 = .ok (.ifCond .eq 5, 3) := by decide +kernel
theorem dX8_needed_13 : decode cX8_needed 13 = .ok (.iconst (-1), 1) := by decide +kernel
theorem dX8_needed_14 : decode cX8_needed 14 = .ok (.ireturn, 1) := by decide +kernel
theorem dX8_needed_15 : decode cX8_needed 15 = .ok (.iload_n 1, 1) := by decide +kernel
theorem dX8_needed_16 : decode cX8_needed 16 = .ok (.iload_n 2, 1) := by decide +kernel
theorem dX8_needed_17 : decode cX8_needed 17 = .ok (.iconst 0, 1) := by decide +kernel
theorem dX8_needed_18 : decode cX8_needed 18 = .ok (.invokestatic 152, 3) := by decide +kernel
theorem dX8_needed_21 : decode cX8_needed 21 = .ok (.ifCond .ne 15, 3) := by decide +kernel
theorem dX8_needed_24 : decode cX8_needed 24 = .ok (.iload_n 3, 1) := by decide +kernel
theorem dX8_needed_25 : decode cX8_needed 25 = .ok (.i2l, 1) := by decide +kernel
theorem dX8_needed_26 : decode cX8_needed 26 = .ok (.lconst 0, 1) := by decide +kernel
theorem dX8_needed_27 : decode cX8_needed 27 = .ok (.ldc2_w 160, 3) := by decide +kernel
theorem dX8_needed_30 : decode cX8_needed 30 = .ok (.invokestatic 102, 3) := by decide +kernel
theorem dX8_needed_33 : decode cX8_needed 33 = .ok (.ifCond .ne 6, 3) := by decide +kernel
theorem dX8_needed_36 : decode cX8_needed 36 = .ok (.bipush (-2), 2) := by decide +kernel
theorem dX8_needed_38 : decode cX8_needed 38 = .ok (.ireturn, 1) := by decide +kernel
theorem dX8_needed_39 : decode cX8_needed 39 = .ok (.aload_n 0, 1) := by decide +kernel
theorem dX8_needed_40 : decode cX8_needed 40 = .ok (.iload_n 1, 1) := by decide +kernel
theorem dX8_needed_41 : decode cX8_needed 41 = .ok (.invokevirtual 127, 3) := by decide +kernel
theorem dX8_needed_44 : decode cX8_needed 44 = .ok (.bipush (-9), 2) := by decide +kernel
theorem dX8_needed_46 : decode cX8_needed 46 = .ok (.istore 4, 2) := by decide +kernel
theorem dX8_needed_48 : decode cX8_needed 48 = .ok (.iconst 0, 1) := by decide +kernel
theorem dX8_needed_49 : decode cX8_needed 49 = .ok (.istore 5, 2) := by decide +kernel
theorem dX8_needed_51 : decode cX8_needed 51 = .ok (.iload 5, 2) := by decide +kernel
theorem dX8_needed_53 : decode cX8_needed 53 = .ok (.aload_n 0, 1) := by decide +kernel
theorem dX8_needed_54 : decode cX8_needed 54 = .ok (.iload_n 2, 1) := by decide +kernel
theorem dX8_needed_55 : decode cX8_needed 55 = .ok (.invokevirtual 131, 3) := by decide +kernel
theorem dX8_needed_58 : decode cX8_needed 58 = .ok (.if_icmp .ge 56, 3) := by decide +kernel
theorem dX8_needed_61 : decode cX8_needed 61 = .ok (.aload_n 0, 1) := by decide +kernel
theorem dX8_needed_62 : decode cX8_needed 62 = .ok (.iload 5, 2) := by decide +kernel
theorem dX8_needed_64 : decode cX8_needed 64 = .ok (.iload_n 2, 1) := by decide +kernel
theorem dX8_needed_65 : decode cX8_needed 65 = .ok (.invokevirtual 134, 3) := by decide +kernel
theorem dX8_needed_68 : decode cX8_needed 68 = .ok (.aload_n 0, 1) := by decide +kernel
theorem dX8_needed_69 : decode cX8_needed 69 = .ok (.getfield 124, 3) := by decide +kernel
theorem dX8_needed_72 : decode cX8_needed 72 = .ok (.iload_n 3, 1) := by decide +kernel
theorem dX8_needed_73 : decode cX8_needed 73 = .ok (.if_icmp .lt 35, 3) := by decide +kernel
theorem dX8_needed_76 : decode cX8_needed 76 = .ok (.aload_n 0, 1) := by decide +kernel
theorem dX8_needed_77 : decode cX8_needed 77 = .ok (.invokevirtual 138, 3) := by decide +kernel
theorem dX8_needed_80 : decode cX8_needed 80 = .ok (.sipush 3000, 3) := by decide +kernel
theorem dX8_needed_83 : decode cX8_needed 83 = .ok (.if_icmp .gt 25, 3) := by decide +kernel
theorem dX8_needed_86 : decode cX8_needed 86 = .ok (.iload 4, 2) := by decide +kernel
theorem dX8_needed_88 : decode cX8_needed 88 = .ok (.bipush (-9), 2) := by decide +kernel
theorem dX8_needed_90 : decode cX8_needed 90 = .ok (.if_icmp .eq 12, 3) := by decide +kernel
theorem dX8_needed_93 : decode cX8_needed 93 = .ok (.aload_n 0, 1) := by decide +kernel
theorem dX8_needed_94 : decode cX8_needed 94 = .ok (.invokevirtual 138, 3) := by decide +kernel
theorem dX8_needed_97 : decode cX8_needed 97 = .ok (.iload 4, 2) := by decide +kernel
theorem dX8_needed_99 : decode cX8_needed 99 = .ok (.if_icmp .ge 9, 3) := by decide +kernel
theorem dX8_needed_102 : decode cX8_needed 102 = .ok (.aload_n 0, 1) := by decide +kernel
theorem dX8_needed_103 : decode cX8_needed 103 = .ok (.invokevirtual 138, 3) := by decide +kernel
theorem dX8_needed_106 : decode cX8_needed 106 = .ok (.istore 4, 2) := by decide +kernel
theorem dX8_needed_108 : decode cX8_needed 108 = .ok (.iinc 5 1, 3) := by decide +kernel
theorem dX8_needed_111 : decode cX8_needed 111 = .ok (.goto (-60), 3) := by decide +kernel
theorem dX8_needed_114 : decode cX8_needed 114 = .ok (.iload 4, 2) := by decide +kernel
theorem dX8_needed_116 : decode cX8_needed 116 = .ok (.ireturn, 1) := by decide +kernel
theorem dX8_sign_0 : decode cX8_sign 0 = .ok (.aload_n 0, 1) := by decide +kernel
theorem dX8_sign_1 : decode cX8_sign 1 = .ok (.iconst 0, 1) := by decide +kernel
theorem dX8_sign_2 : decode cX8_sign 2 = .ok (.putfield 95, 3) := by decide +kernel
theorem dX8_sign_5 : decode cX8_sign 5 = .ok (.aload_n 0, 1) := by decide +kernel
theorem dX8_sign_6 : decode cX8_sign 6 = .ok (.iload_n 1, 1) := by decide +kernel
theorem dX8_sign_7 : decode cX8_sign 7 = .ok (.invokevirtual 110, 3) := by decide +kernel
theorem dX8_sign_10 : decode cX8_sign 10 = .ok (.ifCond .eq 5, 3) := by decide +kernel
theorem dX8_sign_13 : decode cX8_sign 13 = .ok (.iconst (-1), 1) := by decide +kernel
theorem dX8_sign_14 : decode cX8_sign 14 = .ok (.ireturn, 1) := by decide +kernel
theorem dX8_sign_15 : decode cX8_sign 15 = .ok (.iload_n 2, 1) := by decide +kernel
theorem dX8_sign_16 : decode cX8_sign 16 = .ok (.i2l, 1) := by decide +kernel
theorem dX8_sign_17 : decode cX8_sign 17 = .ok (.lconst 1, 1) := by decide +kernel
theorem dX8_sign_18 : decode cX8_sign 18 = .ok (.iload_n 3, 1) := by decide +kernel
theorem dX8_sign_19 : decode cX8_sign 19 = .ok (.i2l, 1) := by decide +kernel
theorem dX8_sign_20 : decode cX8_sign 20 = .ok (.invokestatic 102, 3) := by decide +kernel
theorem dX8_sign_23 : decode cX8_sign 23 = .ok (.ifCond .eq 23, 3) := by decide +kernel
theorem dX8_sign_26 : decode cX8_sign 26 = .ok (.iload_n 3, 1) := by decide +kernel
theorem dX8_sign_27 : decode cX8_sign 27 = .ok (.sipush 30000, 3) := by decide +kernel
theorem dX8_sign_30 : decode cX8_sign 30 = .ok (.if_icmp .gt 16, 3) := by decide +kernel
theorem dX8_sign_33 : decode cX8_sign 33 = .ok (.iload 4, 2) := by decide +kernel
theorem dX8_sign_35 : decode cX8_sign 35 = .ok (.i2l, 1) := by decide +kernel
theorem dX8_sign_36 : decode cX8_sign 36 = .ok (.lconst 1, 1) := by decide +kernel
theorem dX8_sign_37 : decode cX8_sign 37 = .ok (.ldc2_w 162, 3) := by decide +kernel
theorem dX8_sign_40 : decode cX8_sign 40 = .ok (.invokestatic 102, 3) := by decide +kernel
theorem dX8_sign_43 : decode cX8_sign 43 = .ok (.ifCond .ne 6, 3) := by decide +kernel
theorem dX8_sign_46 : decode cX8_sign 46 = .ok (.bipush (-2), 2) := by decide +kernel
theorem dX8_sign_48 : decode cX8_sign 48 = .ok (.ireturn, 1) := by decide +kernel
theorem dX8_sign_49 : decode cX8_sign 49 = .ok (.aload_n 0, 1) := by decide +kernel
theorem dX8_sign_50 : decode cX8_sign 50 = .ok (.getfield 164, 3) := by decide +kernel
theorem dX8_sign_53 : decode cX8_sign 53 = .ok (.bipush 60, 2) := by decide +kernel
theorem dX8_sign_55 : decode cX8_sign 55 = .ok (.if_icmp .ne 6, 3) := by decide +kernel
theorem dX8_sign_58 : decode cX8_sign 58 = .ok (.bipush (-4), 2) := by decide +kernel
theorem dX8_sign_60 : decode cX8_sign 60 = .ok (.ireturn, 1) := by decide +kernel
theorem dX8_sign_61 : decode cX8_sign 61 = .ok (.aload_n 0, 1) := by decide +kernel
theorem dX8_sign_62 : decode cX8_sign 62 = .ok (.getfield 43, 3) := by decide +kernel
theorem dX8_sign_65 : decode cX8_sign 65 = .ok (.aload_n 0, 1) := by decide +kernel
theorem dX8_sign_66 : decode cX8_sign 66 = .ok (.getfield 164, 3) := by decide +kernel
theorem dX8_sign_69 : decode cX8_sign 69 = .ok (.iload_n 1, 1) := by decide +kernel
theorem dX8_sign_70 : decode cX8_sign 70 = .ok (.iastore, 1) := by decide +kernel
theorem dX8_sign_71 : decode cX8_sign 71 = .ok (.aload_n 0, 1) := by decide +kernel
theorem dX8_sign_72 : decode cX8_sign 72 = .ok (.getfield 46, 3) := by decide +kernel
theorem dX8_sign_75 : decode cX8_sign 75 = .ok (.aload_n 0, 1) := by decide +kernel
theorem dX8_sign_76 : decode cX8_sign 76 = .ok (.getfield 164, 3) := by decide +kernel
theorem dX8_sign_79 : decode cX8_sign 79 = .ok (.iload_n 2, 1) := by decide +kernel
theorem dX8_sign_80 : decode cX8_sign 80 = .ok (.iastore, 1) := by decide +kernel
theorem dX8_sign_81 : decode cX8_sign 81 = .ok (.aload_n 0, 1) := by decide +kernel
theorem dX8_sign_82 : decode cX8_sign 82 = .ok (.getfield 49, 3) := by decide +kernel
theorem dX8_sign_85 : decode cX8_sign 85 = .ok (.aload_n 0, 1) := by decide +kernel
theorem dX8_sign_86 : decode cX8_sign 86 = .ok (.getfield 164, 3) := by decide +kernel
theorem dX8_sign_89 : decode cX8_sign 89 = .ok (.iload_n 3, 1) := by decide +kernel
theorem dX8_sign_90 : decode cX8_sign 90 = .ok (.iastore, 1) := by decide +kernel
theorem dX8_sign_91 : decode cX8_sign 91 = .ok (.aload_n 0, 1) := by decide +kernel
theorem dX8_sign_92 : decode cX8_sign 92 = .ok (.getfield 52, 3) := by decide +kernel
theorem dX8_sign_95 : decode cX8_sign 95 = .ok (.aload_n 0, 1) := by decide +kernel
theorem dX8_sign_96 : decode cX8_sign 96 = .ok (.getfield 164, 3) := by decide +kernel
theorem dX8_sign_99 : decode cX8_sign 99 = .ok (.iload 4, 2) := by decide +kernel
theorem dX8_sign_101 : decode cX8_sign 101 = .ok (.iastore, 1) := by decide +kernel
theorem dX8_sign_102 : decode cX8_sign 102 = .ok (.aload_n 0, 1) := by decide +kernel
theorem dX8_sign_103 : decode cX8_sign 103 = .ok (.dup, 1) := by decide +kernel
theorem dX8_sign_104 : decode cX8_sign 104 = .ok (.getfield 164, 3) := by decide +kernel
theorem dX8_sign_107 : decode cX8_sign 107 = .ok (.iconst 1, 1) := by decide +kernel
theorem dX8_sign_108 : decode cX8_sign 108 = .ok (.iadd, 1) := by decide +kernel
theorem dX8_sign_109 : decode cX8_sign 109 = .ok (.putfield 164, 3) := by decide +kernel
theorem dX8_sign_112 : decode cX8_sign 112 = .ok (.aload_n 0, 1) := by decide +kernel
theorem dX8_sign_113 : decode cX8_sign 113 = .ok (.getfield 164, 3) := by decide +kernel
theorem dX8_sign_116 : decode cX8_sign 116 = .ok (.iconst 1, 1) := by decide +kernel
theorem dX8_sign_117 : decode cX8_sign 117 = .ok (.isub, 1) := by decide +kernel
theorem dX8_sign_118 : decode cX8_sign 118 = .ok (.ireturn, 1) := by decide +kernel
theorem dX8_drop_0 : decode cX8_drop 0 = .ok (.aload_n 0, 1) := by decide +kernel
theorem dX8_drop_1 : decode cX8_drop 1 = .ok (.iconst 0, 1) := by decide +kernel
theorem dX8_drop_2 : decode cX8_drop 2 = .ok (.putfield 95, 3) := by decide +kernel
theorem dX8_drop_5 : decode cX8_drop 5 = .ok (.iload_n 1, 1) := by decide +kernel
theorem dX8_drop_6 : decode cX8_drop 6 = .ok (.i2l, 1) := by decide +kernel
theorem dX8_drop_7 : decode cX8_drop 7 = .ok (.lconst 0, 1) := by decide +kernel
theorem dX8_drop_8 : decode cX8_drop 8 = .ok (.aload_n 0, 1) := by decide +kernel
theorem dX8_drop_9 : decode cX8_drop 9 = .ok (.getfield 164, 3) := by decide +kernel
theorem dX8_drop_12 : decode cX8_drop 12 = .ok (.iconst 1, 1) := by decide +kernel
theorem dX8_drop_13 : decode cX8_drop 13 = .ok (.isub, 1) := by decide +kernel
theorem dX8_drop_14 : decode cX8_drop 14 = .ok (.i2l, 1) := by decide +kernel
theorem dX8_drop_15 : decode cX8_drop 15 = .ok (.invokestatic 102, 3) := by decide +kernel
theorem dX8_drop_18 : decode cX8_drop 18 = .ok (.ifCond .ne 5, 3) := by decide +kernel
theorem dX8_drop_21 : decode cX8_drop 21 = .ok (.iconst (-1), 1) := by decide +kernel
theorem dX8_drop_22 : decode cX8_drop 22 = .ok (.ireturn, 1) := by decide +kernel
theorem dX8_drop_23 : decode cX8_drop 23 = .ok (.aload_n 0, 1) := by decide +kernel
theorem dX8_drop_24 : decode cX8_drop 24 = .ok (.getfield 55, 3) := by decide +kernel
theorem dX8_drop_27 : decode cX8_drop 27 = .ok (.iload_n 1, 1) := by decide +kernel
theorem dX8_drop_28 : decode cX8_drop 28 = .ok (.baload, 1) := by decide +kernel
theorem dX8_drop_29 : decode cX8_drop 29 = .ok (.ifCond .eq 6, 3) := by decide +kernel
theorem dX8_drop_32 : decode cX8_drop 32 = .ok (.bipush (-3), 2) := by decide +kernel
theorem dX8_drop_34 : decode cX8_drop 34 = .ok (.ireturn, 1) := by decide +kernel
theorem dX8_drop_35 : decode cX8_drop 35 = .ok (.aload_n 0, 1) := by decide +kernel
theorem dX8_drop_36 : decode cX8_drop 36 = .ok (.getfield 55, 3) := by decide +kernel
theorem dX8_drop_39 : decode cX8_drop 39 = .ok (.iload_n 1, 1) := by decide +kernel
theorem dX8_drop_40 : decode cX8_drop 40 = .ok (.iconst 1, 1) := by decide +kernel
theorem dX8_drop_41 : decode cX8_drop 41 = .ok (.bastore, 1) := by decide +kernel
theorem dX8_drop_42 : decode cX8_drop 42 = .ok (.iconst 1, 1) := by decide +kernel
theorem dX8_drop_43 : decode cX8_drop 43 = .ok (.ireturn, 1) := by decide +kernel
theorem dX8_isOf_0 : decode cX8_isOf 0 = .ok (.aload_n 0, 1) := by decide +kernel
theorem dX8_isOf_1 : decode cX8_isOf 1 = .ok (.getfield 43, 3) := by decide +kernel
theorem dX8_isOf_4 : decode cX8_isOf 4 = .ok (.iload_n 1, 1) := by decide +kernel
theorem dX8_isOf_5 : decode cX8_isOf 5 = .ok (.iaload, 1) := by decide +kernel
theorem dX8_isOf_6 : decode cX8_isOf 6 = .ok (.iload_n 2, 1) := by decide +kernel
