theorem dX0_init_0 : decode cX0_init 0 = .ok (.aload_n 0, 1) := by decide +kernel
theorem dX0_init_1 : decode cX0_init 1 = .ok (.invokespecial 5, 3) := by decide +kernel
theorem dX0_init_4 : decode cX0_init 4 = .ok (.aload_n 0, 1) := by decide +kernel
theorem dX0_init_5 : decode cX0_init 5 = .ok (.iconst 0, 1) := by decide +kernel
theorem dX0_init_6 : decode cX0_init 6 = .ok (.putfield 11, 3) := by decide +kernel
theorem dX0_init_9 : decode cX0_init 9 = .ok (.aload_n 0, 1) := by decide +kernel
theorem dX0_init_10 : decode cX0_init 10 = .ok (.iconst 0, 1) := by decide +kernel
theorem dX0_init_11 : decode cX0_init 11 = .ok (.putfield 15, 3) := by decide +kernel
theorem dX0_init_14 : decode cX0_init 14 = .ok (.aload_n 0, 1) := by decide +kernel
theorem dX0_init_15 : decode cX0_init 15 = .ok (.bipush 6, 2) := by decide +kernel
theorem dX0_init_17 : decode cX0_init 17 = .ok (.newarray .int, 2) := by decide +kernel
theorem dX0_init_19 : decode cX0_init 19 = .ok (.putfield 18, 3) := by decide +kernel
theorem dX0_init_22 : decode cX0_init 22 = .ok (.aload_n 0, 1) := by decide +kernel
theorem dX0_init_23 : decode cX0_init 23 = .ok (.bipush 6, 2) := by decide +kernel
theorem dX0_init_25 : decode cX0_init 25 = .ok (.newarray .int, 2) := by decide +kernel
theorem dX0_init_27 : decode cX0_init 27 = .ok (.putfield 22, 3) := by decide +kernel
theorem dX0_init_30 : decode cX0_init 30 = .ok (.aload_n 0, 1) := by decide +kernel
theorem dX0_init_31 : decode cX0_init 31 = .ok (.bipush 6, 2) := by decide +kernel
theorem dX0_init_33 : decode cX0_init 33 = .ok (.bipush 6, 2) := by decide +kernel
theorem dX0_init_35 : decode cX0_init 35 = .ok (.multianewarray 25 2, 4) := by decide +kernel
theorem dX0_init_39 : decode cX0_init 39 = .ok (.putfield 27, 3) := by decide +kernel
theorem dX0_init_42 : decode cX0_init 42 = .ok (.aload_n 0, 1) := by decide +kernel
theorem dX0_init_43 : decode cX0_init 43 = .ok (.iconst 3, 1) := by decide +kernel
theorem dX0_init_44 : decode cX0_init 44 = .ok (.newarray .int, 2) := by decide +kernel
theorem dX0_init_46 : decode cX0_init 46 = .ok (.putfield 30, 3) := by decide +kernel
theorem dX0_init_49 : decode cX0_init 49 = .ok (.aload_n 0, 1) := by decide +kernel
theorem dX0_init_50 : decode cX0_init 50 = .ok (.bipush 64, 2) := by decide +kernel
theorem dX0_init_52 : decode cX0_init 52 = .ok (.newarray .int, 2) := by decide +kernel
theorem dX0_init_54 : decode cX0_init 54 = .ok (.putfield 33, 3) := by decide +kernel
theorem dX0_init_57 : decode cX0_init 57 = .ok (.aload_n 0, 1) := by decide +kernel
theorem dX0_init_58 : decode cX0_init 58 = .ok (.bipush 64, 2) := by decide +kernel
theorem dX0_init_60 : decode cX0_init 60 = .ok (.newarray .int, 2) := by decide +kernel
theorem dX0_init_62 : decode cX0_init 62 = .ok (.putfield 36, 3) := by decide +kernel
theorem dX0_init_65 : decode cX0_init 65 = .ok (.aload_n 0, 1) := by decide +kernel
theorem dX0_init_66 : decode cX0_init 66 = .ok (.bipush 64, 2) := by decide +kernel
theorem dX0_init_68 : decode cX0_init 68 = .ok (.newarray .int, 2) := by decide +kernel
theorem dX0_init_70 : decode cX0_init 70 = .ok (.putfield 39, 3) := by decide +kernel
theorem dX0_init_73 : decode cX0_init 73 = .ok (.aload_n 0, 1) := by decide +kernel
theorem dX0_init_74 : decode cX0_init 74 = .ok (.bipush 64, 2) := by decide +kernel
theorem dX0_init_76 : decode cX0_init 76 = .ok (.newarray .int, 2) := by decide +kernel
theorem dX0_init_78 : decode cX0_init 78 = .ok (.putfield 42, 3) := by decide +kernel
theorem dX0_init_81 : decode cX0_init 81 = .ok (.aload_n 0, 1) := by decide +kernel
theorem dX0_init_82 : decode cX0_init 82 = .ok (.bipush 64, 2) := by decide +kernel
theorem dX0_init_84 : decode cX0_init 84 = .ok (.newarray .int, 2) := by decide +kernel
theorem dX0_init_86 : decode cX0_init 86 = .ok (.putfield 45, 3) := by decide +kernel
theorem dX0_init_89 : decode cX0_init 89 = .ok (.aload_n 0, 1) := by decide +kernel
theorem dX0_init_90 : decode cX0_init 90 = .ok (.bipush 64, 2) := by decide +kernel
theorem dX0_init_92 : decode cX0_init 92 = .ok (.newarray .int, 2) := by decide +kernel
theorem dX0_init_94 : decode cX0_init 94 = .ok (.putfield 48, 3) := by decide +kernel
theorem dX0_init_97 : decode cX0_init 97 = .ok (.return_, 1) := by decide +kernel
theorem dX0_begin_0 : decode cX0_begin 0 = .ok (.aload_n 0, 1) := by decide +kernel
theorem dX0_begin_1 : decode cX0_begin 1 = .ok (.iconst 0, 1) := by decide +kernel
theorem dX0_begin_2 : decode cX0_begin 2 = .ok (.putfield 11, 3) := by decide +kernel
theorem dX0_begin_5 : decode cX0_begin 5 = .ok (.aload_n 0, 1) := by decide +kernel
theorem dX0_begin_6 : decode cX0_begin 6 = .ok (.iload_n 1, 1) := by decide +kernel
theorem dX0_begin_7 : decode cX0_begin 7 = .ok (.iconst 3, 1) := by decide +kernel
theorem dX0_begin_8 : decode cX0_begin 8 = .ok (.invokestatic 51, 3) := by decide +kernel
theorem dX0_begin_11 : decode cX0_begin 11 = .ok (.putfield 15, 3) := by decide +kernel
theorem dX0_begin_14 : decode cX0_begin 14 = .ok (.return_, 1) := by decide +kernel
theorem dX0_take_0 : decode cX0_take 0 = .ok (.aload_n 0, 1) := by decide +kernel
theorem dX0_take_1 : decode cX0_take 1 = .ok (.getfield 11, 3) := by decide +kernel
theorem dX0_take_4 : decode cX0_take 4 = .ok (.bipush 6, 2) := by decide +kernel
theorem dX0_take_6 : decode cX0_take 6 = .ok (.if_icmp .lt 4, 3) := by decide +kernel
theorem dX0_take_9 : decode cX0_take 9 = .ok (.return_, 1) := by decide +kernel
theorem dX0_take_10 : decode cX0_take 10 = .ok (.aload_n 0, 1) := by decide +kernel
theorem dX0_take_11 : decode cX0_take 11 = .ok (.getfield 18, 3) := by decide +kernel
theorem dX0_take_14 : decode cX0_take 14 = .ok (.aload_n 0, 1) := by decide +kernel
theorem dX0_take_15 : decode cX0_take 15 = .ok (.getfield 11, 3) := by decide +kernel
theorem dX0_take_18 : decode cX0_take 18 = .ok (.aload_n 1, 1) := by decide +kernel
theorem dX0_take_19 : decode cX0_take 19 = .ok (.getfield 57, 3) := by decide +kernel
theorem dX0_take_22 : decode cX0_take 22 = .ok (.iastore, 1) := by decide +kernel
theorem dX0_take_23 : decode cX0_take 23 = .ok (.aload_n 0, 1) := by decide +kernel
theorem dX0_take_24 : decode cX0_take 24 = .ok (.getfield 22, 3) := by decide +kernel
theorem dX0_take_27 : decode cX0_take 27 = .ok (.aload_n 0, 1) := by decide +kernel
theorem dX0_take_28 : decode cX0_take 28 = .ok (.getfield 11, 3) := by decide +kernel
theorem dX0_take_31 : decode cX0_take 31 = .ok (.aload_n 1, 1) := by decide +kernel
theorem dX0_take_32 : decode cX0_take 32 = .ok (.getfield 61, 3) := by decide +kernel
theorem dX0_take_35 : decode cX0_take 35 = .ok (.iastore, 1) := by decide +kernel
theorem dX0_take_36 : decode cX0_take 36 = .ok (.iconst 0, 1) := by decide +kernel
theorem dX0_take_37 : decode cX0_take 37 = .ok (.istore_n 2, 1) := by decide +kernel
theorem dX0_take_38 : decode cX0_take 38 = .ok (.iload_n 2, 1) := by decide +kernel
theorem dX0_take_39 : decode cX0_take 39 = .ok (.aload_n 0, 1) := by decide +kernel
theorem dX0_take_40 : decode cX0_take 40 = .ok (.getfield 15, 3) := by decide +kernel
theorem dX0_take_43 : decode cX0_take 43 = .ok (.if_icmp .ge 49, 3) := by decide +kernel
theorem dX0_take_46 : decode cX0_take 46 = .ok (.aload_n 0, 1) := by decide +kernel
theorem dX0_take_47 : decode cX0_take 47 = .ok (.getfield 27, 3) := by decide +kernel
theorem dX0_take_50 : decode cX0_take 50 = .ok (.iconst 2, 1) := by decide +kernel
theorem dX0_take_51 : decode cX0_take 51 = .ok (.iload_n 2, 1) := by decide +kernel
theorem dX0_take_52 : decode cX0_take 52 = .ok (.imul, 1) := by decide +kernel
theorem dX0_take_53 : decode cX0_take 53 = .ok (.aaload, 1) := by decide +kernel
theorem dX0_take_54 : decode cX0_take 54 = .ok (.aload_n 0, 1) := by decide +kernel
theorem dX0_take_55 : decode cX0_take 55 = .ok (.getfield 11, 3) := by decide +kernel
theorem dX0_take_58 : decode cX0_take 58 = .ok (.aload_n 1, 1) := by decide +kernel
theorem dX0_take_59 : decode cX0_take 59 = .ok (.iload_n 2, 1) := by decide +kernel
theorem dX0_take_60 : decode cX0_take 60 = .ok (.iconst 0, 1) := by decide +kernel
theorem dX0_take_61 : decode cX0_take 61 = .ok (.invokevirtual 63, 3) := by decide +kernel
theorem dX0_take_64 : decode cX0_take 64 = .ok (.iastore, 1) := by decide +kernel
theorem dX0_take_65 : decode cX0_take 65 = .ok (.aload_n 0, 1) := by decide +kernel
theorem dX0_take_66 : decode cX0_take 66 = .ok (.getfield 27, 3) := by decide +kernel
theorem dX0_take_69 : decode cX0_take 69 = .ok (.iconst 2, 1) := by decide +kernel
theorem dX0_take_70 : decode cX0_take 70 = .ok (.iload_n 2, 1) := by decide +kernel
theorem dX0_take_71 : decode cX0_take 71 = .ok (.imul, 1) := by decide +kernel
theorem dX0_take_72 : decode cX0_take 72 = .ok (.iconst 1, 1) := by decide +kernel
theorem dX0_take_73 : decode cX0_take 73 = .ok (.iadd, 1) := by decide +kernel
theorem dX0_take_74 : decode cX0_take 74 = .ok (.aaload, 1) := by decide +kernel
theorem dX0_take_75 : decode cX0_take 75 = .ok (.aload_n 0, 1) := by decide +kernel
theorem dX0_take_76 : decode cX0_take 76 = .ok (.getfield 11, 3) := by decide +kernel
theorem dX0_take_79 : decode cX0_take 79 = .ok (.aload_n 1, 1) := by decide +kernel
theorem dX0_take_80 : decode cX0_take 80 = .ok (.iload_n 2, 1) := by decide +kernel
theorem dX0_take_81 : decode cX0_take 81 = .ok (.iconst 1, 1) := by decide +kernel
theorem dX0_take_82 : decode cX0_take 82 = .ok (.invokevirtual 63, 3) := by decide +kernel
theorem dX0_take_85 : decode cX0_take 85 = .ok (.iastore, 1) := by decide +kernel
theorem dX0_take_86 : decode cX0_take 86 = .ok (.iinc 2 1, 3) := by decide +kernel
theorem dX0_take_89 : decode cX0_take 89 = .ok (.goto (-51), 3) := by decide +kernel
theorem dX0_take_92 : decode cX0_take 92 = .ok (.aload_n 0, 1) := by decide +kernel
theorem dX0_take_93 : decode cX0_take 93 = .ok (.dup, 1) := by decide +kernel
theorem dX0_take_94 : decode cX0_take 94 = .ok (.getfield 11, 3) := by decide +kernel
theorem dX0_take_97 : decode cX0_take 97 = .ok (.iconst 1, 1) := by decide +kernel
theorem dX0_take_98 : decode cX0_take 98 = .ok (.iadd, 1) := by decide +kernel
theorem dX0_take_99 : decode cX0_take 99 = .ok (.putfield 11, 3) := by decide +kernel
theorem dX0_take_102 : decode cX0_take 102 = .ok (.return_, 1) := by decide +kernel
theorem dX0_mostWith_0 : decode cX0_mostWith 0 = .ok (.aload_n 0, 1) := by decide +kernel
theorem dX0_mostWith_1 : decode cX0_mostWith 1 = .ok (.getfield 30, 3) := by decide +kernel
theorem dX0_mostWith_4 : decode cX0_mostWith 4 = .ok (.iload_n 1, 1) := by decide +kernel
theorem dX0_mostWith_5 : decode cX0_mostWith 5 = .ok (.invokestatic 67, 3) := by decide +kernel
theorem dX0_mostWith_8 : decode cX0_mostWith 8 = .ok (.aload_n 0, 1) := by decide +kernel
theorem dX0_mostWith_9 : decode cX0_mostWith 9 = .ok (.iconst 0, 1) := by decide +kernel
theorem dX0_mostWith_10 : decode cX0_mostWith 10 = .ok (.invokevirtual 73, 3) := by decide +kernel
theorem dX0_mostWith_13 : decode cX0_mostWith 13 = .ok (.ireturn, 1) := by decide +kernel
theorem dX0_leastHours_0 : decode cX0_leastHours 0 = .ok (.iconst (-1), 1) := by decide +kernel
theorem dX0_leastHours_1 : decode cX0_leastHours 1 = .ok (.istore_n 2, 1) := by decide +kernel
theorem dX0_leastHours_2 : decode cX0_leastHours 2 = .ok (.sipush 2048, 3) := by decide +kernel
theorem dX0_leastHours_5 : decode cX0_leastHours 5 = .ok (.istore_n 3, 1) := by decide +kernel
theorem dX0_leastHours_6 : decode cX0_leastHours 6 = .ok (.iload_n 3, 1) := by decide +kernel
theorem dX0_leastHours_7 : decode cX0_leastHours 7 = .ok (.ifCond .le 36, 3) := by decide +kernel
theorem dX0_leastHours_10 : decode cX0_leastHours 10 = .ok (.iload_n 2, 1) := by decide +kernel
theorem dX0_leastHours_11 : decode cX0_leastHours 11 = .ok (.iload_n 3, 1) := by decide +kernel
theorem dX0_leastHours_12 : decode cX0_leastHours 12 = .ok (.iadd, 1) := by decide +kernel
theorem dX0_leastHours_13 : decode cX0_leastHours 13 = .ok (.istore 4, 2) := by decide +kernel
theorem dX0_leastHours_15 : decode cX0_leastHours 15 = .ok (.iload 4, 2) := by decide +kernel
theorem dX0_leastHours_17 : decode cX0_leastHours 17 = .ok (.sipush 3000, 3) := by decide +kernel
theorem dX0_leastHours_20 : decode cX0_leastHours 20 = .ok (.if_icmp .gt 16, 3) := by decide +kernel
theorem dX0_leastHours_23 : decode cX0_leastHours 23 = .ok (.aload_n 0, 1) := by decide +kernel
theorem dX0_leastHours_24 : decode cX0_leastHours 24 = .ok (.iload 4, 2) := by decide +kernel
theorem dX0_leastHours_26 : decode cX0_leastHours 26 = .ok (.invokevirtual 77, 3) := by decide +kernel
theorem dX0_leastHours_29 : decode cX0_leastHours 29 = .ok (.iload_n 1, 1) := by decide +kernel
theorem dX0_leastHours_30 : decode cX0_leastHours 30 = .ok (.if_icmp .ge 6, 3) := by decide +kernel
theorem dX0_leastHours_33 : decode cX0_leastHours 33 = .ok (.iload 4, 2) := by decide +kernel
theorem dX0_leastHours_35 : decode cX0_leastHours 35 = .ok (.istore_n 2, 1) := by decide +kernel
theorem dX0_leastHours_36 : decode cX0_leastHours 36 = .ok (.iload_n 3, 1) := by decide +kernel
theorem dX0_leastHours_37 : decode cX0_leastHours 37 = .ok (.iconst 2, 1) := by decide +kernel
theorem dX0_leastHours_38 : decode cX0_leastHours 38 = .ok (.idiv, 1) := by decide +kernel
theorem dX0_leastHours_39 : decode cX0_leastHours 39 = .ok (.istore_n 3, 1) := by decide +kernel
theorem dX0_leastHours_40 : decode cX0_leastHours 40 = .ok (.goto (-34), 3) := by decide +kernel
theorem dX0_leastHours_43 : decode cX0_leastHours 43 = .ok (.iload_n 2, 1) := by decide +kernel
theorem dX0_leastHours_44 : decode cX0_leastHours 44 = .ok (.sipush 3000, 3) := by decide +kernel
theorem dX0_leastHours_47 : decode cX0_leastHours 47 = .ok (.if_icmp .ge 9, 3) := by decide +kernel
theorem dX0_leastHours_50 : decode cX0_leastHours 50 = .ok (.iload_n 2, 1) := by decide +kernel
theorem dX0_leastHours_51 : decode cX0_leastHours 51 = .ok (.iconst 1, 1) := by decide +kernel
theorem dX0_leastHours_52 : decode cX0_leastHours 52 = .ok (.iadd, 1) := by decide +kernel
theorem dX0_leastHours_53 : decode cX0_leastHours 53 = .ok (.goto 5, 3) := by decide +kernel
theorem dX0_leastHours_56 : decode cX0_leastHours 56 = .ok (.bipush (-9), 2) := by decide +kernel
theorem dX0_leastHours_58 : decode cX0_leastHours 58 = .ok (.ireturn, 1) := by decide +kernel
theorem dX0_optionAt_0 : decode cX0_optionAt 0 = .ok (.aload_n 0, 1) := by decide +kernel
theorem dX0_optionAt_1 : decode cX0_optionAt 1 = .ok (.iload_n 2, 1) := by decide +kernel
theorem dX0_optionAt_2 : decode cX0_optionAt 2 = .ok (.invokevirtual 77, 3) := by decide +kernel
theorem dX0_optionAt_5 : decode cX0_optionAt 5 = .ok (.istore_n 3, 1) := by decide +kernel
theorem dX0_optionAt_6 : decode cX0_optionAt 6 = .ok (.bipush (-9), 2) := by decide +kernel
theorem dX0_optionAt_8 : decode cX0_optionAt 8 = .ok (.istore 4, 2) := by decide +kernel
theorem dX0_optionAt_10 : decode cX0_optionAt 10 = .ok (.iconst 0, 1) := by decide +kernel
theorem dX0_optionAt_11 : decode cX0_optionAt 11 = .ok (.istore 5, 2) := by decide +kernel
theorem dX0_optionAt_13 : decode cX0_optionAt 13 = .ok (.iload 5, 2) := by decide +kernel
theorem dX0_optionAt_15 : decode cX0_optionAt 15 = .ok (.iload_n 1, 1) := by decide +kernel
theorem dX0_optionAt_16 : decode cX0_optionAt 16 = .ok (.if_icmp .gt 67, 3) := by decide +kernel
theorem dX0_optionAt_19 : decode cX0_optionAt 19 = .ok (.iload 5, 2) := by decide +kernel
theorem dX0_optionAt_21 : decode cX0_optionAt 21 = .ok (.aload_n 0, 1) := by decide +kernel
theorem dX0_optionAt_22 : decode cX0_optionAt 22 = .ok (.getfield 11, 3) := by decide +kernel
theorem dX0_optionAt_25 : decode cX0_optionAt 25 = .ok (.if_icmp .ge 58, 3) := by decide +kernel
theorem dX0_optionAt_28 : decode cX0_optionAt 28 = .ok (.aload_n 0, 1) := by decide +kernel
theorem dX0_optionAt_29 : decode cX0_optionAt 29 = .ok (.iload 5, 2) := by decide +kernel
theorem dX0_optionAt_31 : decode cX0_optionAt 31 = .ok (.iload_n 3, 1) := by decide +kernel
theorem dX0_optionAt_32 : decode cX0_optionAt 32 = .ok (.invokevirtual 80, 3) := by decide +kernel
theorem dX0_optionAt_35 : decode cX0_optionAt 35 = .ok (.istore 4, 2) := by decide +kernel
theorem dX0_optionAt_37 : decode cX0_optionAt 37 = .ok (.iload 4, 2) := by decide +kernel
theorem dX0_optionAt_39 : decode cX0_optionAt 39 = .ok (.bipush (-9), 2) := by decide +kernel
theorem dX0_optionAt_41 : decode cX0_optionAt 41 = .ok (.if_icmp .eq 36, 3) := by decide +kernel
theorem dX0_optionAt_44 : decode cX0_optionAt 44 = .ok (.aload_n 0, 1) := by decide +kernel
theorem dX0_optionAt_45 : decode cX0_optionAt 45 = .ok (.getfield 30, 3) := by decide +kernel
theorem dX0_optionAt_48 : decode cX0_optionAt 48 = .ok (.iload 4, 2) := by decide +kernel
theorem dX0_optionAt_50 : decode cX0_optionAt 50 = .ok (.iconst 2, 1) := by decide +kernel
theorem dX0_optionAt_51 : decode cX0_optionAt 51 = .ok (.idiv, 1) := by decide +kernel
theorem dX0_optionAt_52 : decode cX0_optionAt 52 = .ok (.dup2, 1) := by decide +kernel
theorem dX0_optionAt_53 : decode cX0_optionAt 53 = .ok (.iaload, 1) := by decide +kernel
theorem dX0_optionAt_54 : decode cX0_optionAt 54 = .ok (.aload_n 0, 1) := by decide +kernel
theorem dX0_optionAt_55 : decode cX0_optionAt 55 = .ok (.iload 4, 2) := by decide +kernel
theorem dX0_optionAt_57 : decode cX0_optionAt 57 = .ok (.iload 5, 2) := by decide +kernel
theorem dX0_optionAt_59 : decode cX0_optionAt 59 = .ok (.invokevirtual 83, 3) := by decide +kernel
theorem dX0_optionAt_62 : decode cX0_optionAt 62 = .ok (.isub, 1) := by decide +kernel
theorem dX0_optionAt_63 : decode cX0_optionAt 63 = .ok (.iastore, 1) := by decide +kernel
theorem dX0_optionAt_64 : decode cX0_optionAt 64 = .ok (.iload_n 3, 1) := by decide +kernel
theorem dX0_optionAt_65 : decode cX0_optionAt 65 = .ok (.aload_n 0, 1) := by decide +kernel
theorem dX0_optionAt_66 : decode cX0_optionAt 66 = .ok (.getfield 27, 3) := by decide +kernel
theorem dX0_optionAt_69 : decode cX0_optionAt 69 = .ok (.iload 4, 2) := by decide +kernel
theorem dX0_optionAt_71 : decode cX0_optionAt 71 = .ok (.aaload, 1) := by decide +kernel
theorem dX0_optionAt_72 : decode cX0_optionAt 72 = .ok (.iload 5, 2) := by decide +kernel
theorem dX0_optionAt_74 : decode cX0_optionAt 74 = .ok (.iaload, 1) := by decide +kernel
theorem dX0_optionAt_75 : decode cX0_optionAt 75 = .ok (.isub, 1) := by decide +kernel
theorem dX0_optionAt_76 : decode cX0_optionAt 76 = .ok (.istore_n 3, 1) := by decide +kernel
theorem dX0_optionAt_77 : decode cX0_optionAt 77 = .ok (.iinc 5 1, 3) := by decide +kernel
theorem dX0_optionAt_80 : decode cX0_optionAt 80 = .ok (.goto (-67), 3) := by decide +kernel
theorem dX0_optionAt_83 : decode cX0_optionAt 83 = .ok (.iload 4, 2) := by decide +kernel
theorem dX0_optionAt_85 : decode cX0_optionAt 85 = .ok (.ireturn, 1) := by decide +kernel
theorem dX0_firstOption_0 : decode cX0_firstOption 0 = .ok (.iconst 0, 1) := by decide +kernel
theorem dX0_firstOption_1 : decode cX0_firstOption 1 = .ok (.istore_n 3, 1) := by decide +kernel
theorem dX0_firstOption_2 : decode cX0_firstOption 2 = .ok (.iload_n 3, 1) := by decide +kernel
theorem dX0_firstOption_3 : decode cX0_firstOption 3 = .ok (.iconst 2, 1) := by decide +kernel
theorem dX0_firstOption_4 : decode cX0_firstOption 4 = .ok (.aload_n 0, 1) := by decide +kernel
theorem dX0_firstOption_5 : decode cX0_firstOption 5 = .ok (.getfield 15, 3) := by decide +kernel
theorem dX0_firstOption_8 : decode cX0_firstOption 8 = .ok (.imul, 1) := by decide +kernel
theorem dX0_firstOption_9 : decode cX0_firstOption 9 = .ok (.if_icmp .ge 87, 3) := by decide +kernel
theorem dX0_firstOption_12 : decode cX0_firstOption 12 = .ok (.aload_n 0, 1) := by decide +kernel
theorem dX0_firstOption_13 : decode cX0_firstOption 13 = .ok (.iload_n 3, 1) := by decide +kernel
theorem dX0_firstOption_14 : decode cX0_firstOption 14 = .ok (.iload_n 1, 1) := by decide +kernel
theorem dX0_firstOption_15 : decode cX0_firstOption 15 = .ok (.invokevirtual 83, 3) := by decide +kernel
theorem dX0_firstOption_18 : decode cX0_firstOption 18 = .ok (.istore 4, 2) := by decide +kernel
theorem dX0_firstOption_20 : decode cX0_firstOption 20 = .ok (.iload_n 3, 1) := by decide +kernel
theorem dX0_firstOption_21 : decode cX0_firstOption 21 = .ok (.iconst 2, 1) := by decide +kernel
theorem dX0_firstOption_22 : decode cX0_firstOption 22 = .ok (.idiv, 1) := by decide +kernel
theorem dX0_firstOption_23 : decode cX0_firstOption 23 = .ok (.istore 5, 2) := by decide +kernel
theorem dX0_firstOption_25 : decode cX0_firstOption 25 = .ok (.iload 4, 2) := by decide +kernel
theorem dX0_firstOption_27 : decode cX0_firstOption 27 = .ok (.aload_n 0, 1) := by decide +kernel
theorem dX0_firstOption_28 : decode cX0_firstOption 28 = .ok (.getfield 30, 3) := by decide +kernel
theorem dX0_firstOption_31 : decode cX0_firstOption 31 = .ok (.iload 5, 2) := by decide +kernel
theorem dX0_firstOption_33 : decode cX0_firstOption 33 = .ok (.iaload, 1) := by decide +kernel
theorem dX0_firstOption_34 : decode cX0_firstOption 34 = .ok (.if_icmp .le 6, 3) := by decide +kernel
theorem dX0_firstOption_37 : decode cX0_firstOption 37 = .ok (.goto 53, 3) := by decide +kernel
theorem dX0_firstOption_40 : decode cX0_firstOption 40 = .ok (.aload_n 0, 1) := by decide +kernel
theorem dX0_firstOption_41 : decode cX0_firstOption 41 = .ok (.getfield 30, 3) := by decide +kernel
theorem dX0_firstOption_44 : decode cX0_firstOption 44 = .ok (.iload 5, 2) := by decide +kernel
theorem dX0_firstOption_46 : decode cX0_firstOption 46 = .ok (.dup2, 1) := by decide +kernel
theorem dX0_firstOption_47 : decode cX0_firstOption 47 = .ok (.iaload, 1) := by decide +kernel
theorem dX0_firstOption_48 : decode cX0_firstOption 48 = .ok (.iload 4, 2) := by decide +kernel
theorem dX0_firstOption_50 : decode cX0_firstOption 50 = .ok (.isub, 1) := by decide +kernel
theorem dX0_firstOption_51 : decode cX0_firstOption 51 = .ok (.iastore, 1) := by decide +kernel
theorem dX0_firstOption_52 : decode cX0_firstOption 52 = .ok (.aload_n 0, 1) := by decide +kernel
theorem dX0_firstOption_53 : decode cX0_firstOption 53 = .ok (.getfield 27, 3) := by decide +kernel
theorem dX0_firstOption_56 : decode cX0_firstOption 56 = .ok (.iload_n 3, 1) := by decide +kernel
theorem dX0_firstOption_57 : decode cX0_firstOption 57 = .ok (.aaload, 1) := by decide +kernel
theorem dX0_firstOption_58 : decode cX0_firstOption 58 = .ok (.iload_n 1, 1) := by decide +kernel
theorem dX0_firstOption_59 : decode cX0_firstOption 59 = .ok (.iaload, 1) := by decide +kernel
theorem dX0_firstOption_60 : decode cX0_firstOption 60 = .ok (.aload_n 0, 1) := by decide +kernel
theorem dX0_firstOption_61 : decode cX0_firstOption 61 = .ok (.iload_n 1, 1) := by decide +kernel
theorem dX0_firstOption_62 : decode cX0_firstOption 62 = .ok (.iconst 1, 1) := by decide +kernel
theorem dX0_firstOption_63 : decode cX0_firstOption 63 = .ok (.iadd, 1) := by decide +kernel
theorem dX0_firstOption_64 : decode cX0_firstOption 64 = .ok (.invokevirtual 73, 3) := by decide +kernel
theorem dX0_firstOption_67 : decode cX0_firstOption 67 = .ok (.iadd, 1) := by decide +kernel
theorem dX0_firstOption_68 : decode cX0_firstOption 68 = .ok (.istore 6, 2) := by decide +kernel
theorem dX0_firstOption_70 : decode cX0_firstOption 70 = .ok (.aload_n 0, 1) := by decide +kernel
theorem dX0_firstOption_71 : decode cX0_firstOption 71 = .ok (.getfield 30, 3) := by decide +kernel
theorem dX0_firstOption_74 : decode cX0_firstOption 74 = .ok (.iload 5, 2) := by decide +kernel
theorem dX0_firstOption_76 : decode cX0_firstOption 76 = .ok (.dup2, 1) := by decide +kernel
theorem dX0_firstOption_77 : decode cX0_firstOption 77 = .ok (.iaload, 1) := by decide +kernel
theorem dX0_firstOption_78 : decode cX0_firstOption 78 = .ok (.iload 4, 2) := by decide +kernel
theorem dX0_firstOption_80 : decode cX0_firstOption 80 = .ok (.iadd, 1) := by decide +kernel
theorem dX0_firstOption_81 : decode cX0_firstOption 81 = .ok (.iastore, 1) := by decide +kernel
theorem dX0_firstOption_82 : decode cX0_firstOption 82 = .ok (.iload 6, 2) := by decide +kernel
theorem dX0_firstOption_84 : decode cX0_firstOption 84 = .ok (.iload_n 2, 1) := by decide +kernel
theorem dX0_firstOption_85 : decode cX0_firstOption 85 = .ok (.if_icmp .ne 5, 3) := by decide +kernel
theorem dX0_firstOption_88 : decode cX0_firstOption 88 = .ok (.iload_n 3, 1) := by decide +kernel
theorem dX0_firstOption_89 : decode cX0_firstOption 89 = .ok (.ireturn, 1) := by decide +kernel
theorem dX0_firstOption_90 : decode cX0_firstOption 90 = .ok (.iinc 3 1, 3) := by decide +kernel
theorem dX0_firstOption_93 : decode cX0_firstOption 93 = .ok (.goto (-91), 3) := by decide +kernel
theorem dX0_firstOption_96 : decode cX0_firstOption 96 = .ok (.bipush (-9), 2) := by decide +kernel
theorem dX0_firstOption_98 : decode cX0_firstOption 98 = .ok (.ireturn, 1) := by decide +kernel
theorem dX0_hoursFor_0 : decode cX0_hoursFor 0 = .ok (.iload_n 1, 1) := by decide +kernel
theorem dX0_hoursFor_1 : decode cX0_hoursFor 1 = .ok (.iconst 2, 1) := by decide +kernel
theorem dX0_hoursFor_2 : decode cX0_hoursFor 2 = .ok (.irem, 1) := by decide +kernel
theorem dX0_hoursFor_3 : decode cX0_hoursFor 3 = .ok (.ifCond .ne 12, 3) := by decide +kernel
theorem dX0_hoursFor_6 : decode cX0_hoursFor 6 = .ok (.aload_n 0, 1) := by decide +kernel
theorem dX0_hoursFor_7 : decode cX0_hoursFor 7 = .ok (.getfield 18, 3) := by decide +kernel
theorem dX0_hoursFor_10 : decode cX0_hoursFor 10 = .ok (.iload_n 2, 1) := by decide +kernel
theorem dX0_hoursFor_11 : decode cX0_hoursFor 11 = .ok (.iaload, 1) := by decide +kernel
theorem dX0_hoursFor_12 : decode cX0_hoursFor 12 = .ok (.goto 9, 3) := by decide +kernel
theorem dX0_hoursFor_15 : decode cX0_hoursFor 15 = .ok (.aload_n 0, 1) := by decide +kernel
theorem dX0_hoursFor_16 : decode cX0_hoursFor 16 = .ok (.getfield 22, 3) := by decide +kernel
theorem dX0_hoursFor_19 : decode cX0_hoursFor 19 = .ok (.iload_n 2, 1) := by decide +kernel
theorem dX0_hoursFor_20 : decode cX0_hoursFor 20 = .ok (.iaload, 1) := by decide +kernel
theorem dX0_hoursFor_21 : decode cX0_hoursFor 21 = .ok (.ireturn, 1) := by decide +kernel
theorem dX0_mostFrom_0 : decode cX0_mostFrom 0 = .ok (.iconst 1, 1) := by decide +kernel
theorem dX0_mostFrom_1 : decode cX0_mostFrom 1 = .ok (.aload_n 0, 1) := by decide +kernel
theorem dX0_mostFrom_2 : decode cX0_mostFrom 2 = .ok (.getfield 11, 3) := by decide +kernel
theorem dX0_mostFrom_5 : decode cX0_mostFrom 5 = .ok (.iload_n 1, 1) := by decide +kernel
theorem dX0_mostFrom_6 : decode cX0_mostFrom 6 = .ok (.isub, 1) := by decide +kernel
theorem dX0_mostFrom_7 : decode cX0_mostFrom 7 = .ok (.ishl, 1) := by decide +kernel
theorem dX0_mostFrom_8 : decode cX0_mostFrom 8 = .ok (.istore_n 2, 1) := by decide +kernel
theorem dX0_mostFrom_9 : decode cX0_mostFrom 9 = .ok (.aload_n 0, 1) := by decide +kernel
theorem dX0_mostFrom_10 : decode cX0_mostFrom 10 = .ok (.aload_n 0, 1) := by decide +kernel
theorem dX0_mostFrom_11 : decode cX0_mostFrom 11 = .ok (.getfield 18, 3) := by decide +kernel
theorem dX0_mostFrom_14 : decode cX0_mostFrom 14 = .ok (.iload_n 1, 1) := by decide +kernel
theorem dX0_mostFrom_15 : decode cX0_mostFrom 15 = .ok (.aload_n 0, 1) := by decide +kernel
theorem dX0_mostFrom_16 : decode cX0_mostFrom 16 = .ok (.getfield 33, 3) := by decide +kernel
theorem dX0_mostFrom_19 : decode cX0_mostFrom 19 = .ok (.invokevirtual 86, 3) := by decide +kernel
theorem dX0_mostFrom_22 : decode cX0_mostFrom 22 = .ok (.aload_n 0, 1) := by decide +kernel
theorem dX0_mostFrom_23 : decode cX0_mostFrom 23 = .ok (.aload_n 0, 1) := by decide +kernel
theorem dX0_mostFrom_24 : decode cX0_mostFrom 24 = .ok (.getfield 22, 3) := by decide +kernel
theorem dX0_mostFrom_27 : decode cX0_mostFrom 27 = .ok (.iload_n 1, 1) := by decide +kernel
theorem dX0_mostFrom_28 : decode cX0_mostFrom 28 = .ok (.aload_n 0, 1) := by decide +kernel
theorem dX0_mostFrom_29 : decode cX0_mostFrom 29 = .ok (.getfield 36, 3) := by decide +kernel
theorem dX0_mostFrom_32 : decode cX0_mostFrom 32 = .ok (.invokevirtual 86, 3) := by decide +kernel
theorem dX0_mostFrom_35 : decode cX0_mostFrom 35 = .ok (.aload_n 0, 1) := by decide +kernel
theorem dX0_mostFrom_36 : decode cX0_mostFrom 36 = .ok (.getfield 48, 3) := by decide +kernel
theorem dX0_mostFrom_39 : decode cX0_mostFrom 39 = .ok (.iconst 0, 1) := by decide +kernel
theorem dX0_mostFrom_40 : decode cX0_mostFrom 40 = .ok (.invokestatic 67, 3) := by decide +kernel
theorem dX0_mostFrom_43 : decode cX0_mostFrom 43 = .ok (.iconst 0, 1) := by decide +kernel
theorem dX0_mostFrom_44 : decode cX0_mostFrom 44 = .ok (.istore_n 3, 1) := by decide +kernel
theorem dX0_mostFrom_45 : decode cX0_mostFrom 45 = .ok (.iload_n 3, 1) := by decide +kernel
theorem dX0_mostFrom_46 : decode cX0_mostFrom 46 = .ok (.aload_n 0, 1) := by decide +kernel
theorem dX0_mostFrom_47 : decode cX0_mostFrom 47 = .ok (.getfield 15, 3) := by decide +kernel
theorem dX0_mostFrom_50 : decode cX0_mostFrom 50 = .ok (.if_icmp .ge 84, 3) := by decide +kernel
theorem dX0_mostFrom_53 : decode cX0_mostFrom 53 = .ok (.aload_n 0, 1) := by decide +kernel
theorem dX0_mostFrom_54 : decode cX0_mostFrom 54 = .ok (.aload_n 0, 1) := by decide +kernel
theorem dX0_mostFrom_55 : decode cX0_mostFrom 55 = .ok (.getfield 27, 3) := by decide +kernel
theorem dX0_mostFrom_58 : decode cX0_mostFrom 58 = .ok (.iconst 2, 1) := by decide +kernel
theorem dX0_mostFrom_59 : decode cX0_mostFrom 59 = .ok (.iload_n 3, 1) := by decide +kernel
theorem dX0_mostFrom_60 : decode cX0_mostFrom 60 = .ok (.imul, 1) := by decide +kernel
theorem dX0_mostFrom_61 : decode cX0_mostFrom 61 = .ok (.aaload, 1) := by decide +kernel
theorem dX0_mostFrom_62 : decode cX0_mostFrom 62 = .ok (.iload_n 1, 1) := by decide +kernel
theorem dX0_mostFrom_63 : decode cX0_mostFrom 63 = .ok (.aload_n 0, 1) := by decide +kernel
theorem dX0_mostFrom_64 : decode cX0_mostFrom 64 = .ok (.getfield 39, 3) := by decide +kernel
theorem dX0_mostFrom_67 : decode cX0_mostFrom 67 = .ok (.invokevirtual 86, 3) := by decide +kernel
theorem dX0_mostFrom_70 : decode cX0_mostFrom 70 = .ok (.aload_n 0, 1) := by decide +kernel
theorem dX0_mostFrom_71 : decode cX0_mostFrom 71 = .ok (.aload_n 0, 1) := by decide +kernel
theorem dX0_mostFrom_72 : decode cX0_mostFrom 72 = .ok (.getfield 27, 3) := by decide +kernel
theorem dX0_mostFrom_75 : decode cX0_mostFrom 75 = .ok (.iconst 2, 1) := by decide +kernel
theorem dX0_mostFrom_76 : decode cX0_mostFrom 76 = .ok (.iload_n 3, 1) := by decide +kernel
theorem dX0_mostFrom_77 : decode cX0_mostFrom 77 = .ok (.imul, 1) := by decide +kernel
theorem dX0_mostFrom_78 : decode cX0_mostFrom 78 = .ok (.iconst 1, 1) := by decide +kernel
theorem dX0_mostFrom_79 : decode cX0_mostFrom 79 = .ok (.iadd, 1) := by decide +kernel
theorem dX0_mostFrom_80 : decode cX0_mostFrom 80 = .ok (.aaload, 1) := by decide +kernel
theorem dX0_mostFrom_81 : decode cX0_mostFrom 81 = .ok (.iload_n 1, 1) := by decide +kernel
theorem dX0_mostFrom_82 : decode cX0_mostFrom 82 = .ok (.aload_n 0, 1) := by decide +kernel
theorem dX0_mostFrom_83 : decode cX0_mostFrom 83 = .ok (.getfield 42, 3) := by decide +kernel
theorem dX0_mostFrom_86 : decode cX0_mostFrom 86 = .ok (.invokevirtual 86, 3) := by decide +kernel
theorem dX0_mostFrom_89 : decode cX0_mostFrom 89 = .ok (.iconst 1, 1) := by decide +kernel
theorem dX0_mostFrom_90 : decode cX0_mostFrom 90 = .ok (.istore 4, 2) := by decide +kernel
theorem dX0_mostFrom_92 : decode cX0_mostFrom 92 = .ok (.iload 4, 2) := by decide +kernel
theorem dX0_mostFrom_94 : decode cX0_mostFrom 94 = .ok (.iload_n 2, 1) := by decide +kernel
theorem dX0_mostFrom_95 : decode cX0_mostFrom 95 = .ok (.if_icmp .ge 28, 3) := by decide +kernel
theorem dX0_mostFrom_98 : decode cX0_mostFrom 98 = .ok (.aload_n 0, 1) := by decide +kernel
theorem dX0_mostFrom_99 : decode cX0_mostFrom 99 = .ok (.getfield 45, 3) := by decide +kernel
theorem dX0_mostFrom_102 : decode cX0_mostFrom 102 = .ok (.iload 4, 2) := by decide +kernel
theorem dX0_mostFrom_104 : decode cX0_mostFrom 104 = .ok (.aload_n 0, 1) := by decide +kernel
theorem dX0_mostFrom_105 : decode cX0_mostFrom 105 = .ok (.iload 4, 2) := by decide +kernel
theorem dX0_mostFrom_107 : decode cX0_mostFrom 107 = .ok (.aload_n 0, 1) := by decide +kernel
theorem dX0_mostFrom_108 : decode cX0_mostFrom 108 = .ok (.getfield 30, 3) := by decide +kernel
theorem dX0_mostFrom_111 : decode cX0_mostFrom 111 = .ok (.iload_n 3, 1) := by decide +kernel
theorem dX0_mostFrom_112 : decode cX0_mostFrom 112 = .ok (.iaload, 1) := by decide +kernel
theorem dX0_mostFrom_113 : decode cX0_mostFrom 113 = .ok (.invokevirtual 90, 3) := by decide +kernel
theorem dX0_mostFrom_116 : decode cX0_mostFrom 116 = .ok (.iastore, 1) := by decide +kernel
theorem dX0_mostFrom_117 : decode cX0_mostFrom 117 = .ok (.iinc 4 1, 3) := by decide +kernel
theorem dX0_mostFrom_120 : decode cX0_mostFrom 120 = .ok (.goto (-28), 3) := by decide +kernel
theorem dX0_mostFrom_123 : decode cX0_mostFrom 123 = .ok (.aload_n 0, 1) := by decide +kernel
theorem dX0_mostFrom_124 : decode cX0_mostFrom 124 = .ok (.iload_n 2, 1) := by decide +kernel
theorem dX0_mostFrom_125 : decode cX0_mostFrom 125 = .ok (.invokevirtual 93, 3) := by decide +kernel
theorem dX0_mostFrom_128 : decode cX0_mostFrom 128 = .ok (.iinc 3 1, 3) := by decide +kernel
theorem dX0_mostFrom_131 : decode cX0_mostFrom 131 = .ok (.goto (-86), 3) := by decide +kernel
theorem dX0_mostFrom_134 : decode cX0_mostFrom 134 = .ok (.aload_n 0, 1) := by decide +kernel
theorem dX0_mostFrom_135 : decode cX0_mostFrom 135 = .ok (.getfield 48, 3) := by decide +kernel
theorem dX0_mostFrom_138 : decode cX0_mostFrom 138 = .ok (.iload_n 2, 1) := by decide +kernel
theorem dX0_mostFrom_139 : decode cX0_mostFrom 139 = .ok (.iconst 1, 1) := by decide +kernel
theorem dX0_mostFrom_140 : decode cX0_mostFrom 140 = .ok (.isub, 1) := by decide +kernel
theorem dX0_mostFrom_141 : decode cX0_mostFrom 141 = .ok (.iaload, 1) := by decide +kernel
theorem dX0_mostFrom_142 : decode cX0_mostFrom 142 = .ok (.ireturn, 1) := by decide +kernel
theorem dX0_addUp_0 : decode cX0_addUp 0 = .ok (.aload_n 3, 1) := by decide +kernel
theorem dX0_addUp_1 : decode cX0_addUp 1 = .ok (.iconst 0, 1) := by decide +kernel
theorem dX0_addUp_2 : decode cX0_addUp 2 = .ok (.iconst 0, 1) := by decide +kernel
theorem dX0_addUp_3 : decode cX0_addUp 3 = .ok (.iastore, 1) := by decide +kernel
theorem dX0_addUp_4 : decode cX0_addUp 4 = .ok (.iload_n 2, 1) := by decide +kernel
theorem dX0_addUp_5 : decode cX0_addUp 5 = .ok (.istore 4, 2) := by decide +kernel
theorem dX0_addUp_7 : decode cX0_addUp 7 = .ok (.iload 4, 2) := by decide +kernel
theorem dX0_addUp_9 : decode cX0_addUp 9 = .ok (.aload_n 0, 1) := by decide +kernel
theorem dX0_addUp_10 : decode cX0_addUp 10 = .ok (.getfield 11, 3) := by decide +kernel
theorem dX0_addUp_13 : decode cX0_addUp 13 = .ok (.if_icmp .ge 49, 3) := by decide +kernel
theorem dX0_addUp_16 : decode cX0_addUp 16 = .ok (.iconst 1, 1) := by decide +kernel
theorem dX0_addUp_17 : decode cX0_addUp 17 = .ok (.iload 4, 2) := by decide +kernel
theorem dX0_addUp_19 : decode cX0_addUp 19 = .ok (.iload_n 2, 1) := by decide +kernel
theorem dX0_addUp_20 : decode cX0_addUp 20 = .ok (.isub, 1) := by decide +kernel
theorem dX0_addUp_21 : decode cX0_addUp 21 = .ok (.ishl, 1) := by decide +kernel
theorem dX0_addUp_22 : decode cX0_addUp 22 = .ok (.istore 5, 2) := by decide +kernel
theorem dX0_addUp_24 : decode cX0_addUp 24 = .ok (.iconst 0, 1) := by decide +kernel
theorem dX0_addUp_25 : decode cX0_addUp 25 = .ok (.istore 6, 2) := by decide +kernel
theorem dX0_addUp_27 : decode cX0_addUp 27 = .ok (.iload 6, 2) := by decide +kernel
theorem dX0_addUp_29 : decode cX0_addUp 29 = .ok (.iload 5, 2) := by decide +kernel
theorem dX0_addUp_31 : decode cX0_addUp 31 = .ok (.if_icmp .ge 25, 3) := by decide +kernel
theorem dX0_addUp_34 : decode cX0_addUp 34 = .ok (.aload_n 3, 1) := by decide +kernel
theorem dX0_addUp_35 : decode cX0_addUp 35 = .ok (.iload 6, 2) := by decide +kernel
theorem dX0_addUp_37 : decode cX0_addUp 37 = .ok (.iload 5, 2) := by decide +kernel
theorem dX0_addUp_39 : decode cX0_addUp 39 = .ok (.iadd, 1) := by decide +kernel
theorem dX0_addUp_40 : decode cX0_addUp 40 = .ok (.aload_n 3, 1) := by decide +kernel
theorem dX0_addUp_41 : decode cX0_addUp 41 = .ok (.iload 6, 2) := by decide +kernel
theorem dX0_addUp_43 : decode cX0_addUp 43 = .ok (.iaload, 1) := by decide +kernel
theorem dX0_addUp_44 : decode cX0_addUp 44 = .ok (.aload_n 1, 1) := by decide +kernel
theorem dX0_addUp_45 : decode cX0_addUp 45 = .ok (.iload 4, 2) := by decide +kernel
theorem dX0_addUp_47 : decode cX0_addUp 47 = .ok (.iaload, 1) := by decide +kernel
theorem dX0_addUp_48 : decode cX0_addUp 48 = .ok (.iadd, 1) := by decide +kernel
theorem dX0_addUp_49 : decode cX0_addUp 49 = .ok (.iastore, 1) := by decide +kernel
theorem dX0_addUp_50 : decode cX0_addUp 50 = .ok (.iinc 6 1, 3) := by decide +kernel
theorem dX0_addUp_53 : decode cX0_addUp 53 = .ok (.goto (-26), 3) := by decide +kernel
theorem dX0_addUp_56 : decode cX0_addUp 56 = .ok (.iinc 4 1, 3) := by decide +kernel
theorem dX0_addUp_59 : decode cX0_addUp 59 = .ok (.goto (-52), 3) := by decide +kernel
theorem dX0_addUp_62 : decode cX0_addUp 62 = .ok (.return_, 1) := by decide +kernel
theorem dX0_savedTogether_0 : decode cX0_savedTogether 0 = .ok (.aload_n 0, 1) := by decide +kernel
theorem dX0_savedTogether_1 : decode cX0_savedTogether 1 = .ok (.getfield 33, 3) := by decide +kernel
theorem dX0_savedTogether_4 : decode cX0_savedTogether 4 = .ok (.iload_n 1, 1) := by decide +kernel
theorem dX0_savedTogether_5 : decode cX0_savedTogether 5 = .ok (.iaload, 1) := by decide +kernel
theorem dX0_savedTogether_6 : decode cX0_savedTogether 6 = .ok (.iload_n 2, 1) := by decide +kernel
theorem dX0_savedTogether_7 : decode cX0_savedTogether 7 = .ok (.if_icmp .gt 12, 3) := by decide +kernel
theorem dX0_savedTogether_10 : decode cX0_savedTogether 10 = .ok (.aload_n 0, 1) := by decide +kernel
theorem dX0_savedTogether_11 : decode cX0_savedTogether 11 = .ok (.getfield 39, 3) := by decide +kernel
theorem dX0_savedTogether_14 : decode cX0_savedTogether 14 = .ok (.iload_n 1, 1) := by decide +kernel
theorem dX0_savedTogether_15 : decode cX0_savedTogether 15 = .ok (.iaload, 1) := by decide +kernel
theorem dX0_savedTogether_16 : decode cX0_savedTogether 16 = .ok (.goto 4, 3) := by decide +kernel
theorem dX0_savedTogether_19 : decode cX0_savedTogether 19 = .ok (.iconst (-1), 1) := by decide +kernel
theorem dX0_savedTogether_20 : decode cX0_savedTogether 20 = .ok (.istore_n 3, 1) := by decide +kernel
theorem dX0_savedTogether_21 : decode cX0_savedTogether 21 = .ok (.iload_n 1, 1) := by decide +kernel
theorem dX0_savedTogether_22 : decode cX0_savedTogether 22 = .ok (.istore 4, 2) := by decide +kernel
theorem dX0_savedTogether_24 : decode cX0_savedTogether 24 = .ok (.iload 4, 2) := by decide +kernel
theorem dX0_savedTogether_26 : decode cX0_savedTogether 26 = .ok (.ifCond .le 59, 3) := by decide +kernel
theorem dX0_savedTogether_29 : decode cX0_savedTogether 29 = .ok (.iload_n 1, 1) := by decide +kernel
theorem dX0_savedTogether_30 : decode cX0_savedTogether 30 = .ok (.iload 4, 2) := by decide +kernel
theorem dX0_savedTogether_32 : decode cX0_savedTogether 32 = .ok (.ixor, 1) := by decide +kernel
theorem dX0_savedTogether_33 : decode cX0_savedTogether 33 = .ok (.istore 5, 2) := by decide +kernel
theorem dX0_savedTogether_35 : decode cX0_savedTogether 35 = .ok (.aload_n 0, 1) := by decide +kernel
theorem dX0_savedTogether_36 : decode cX0_savedTogether 36 = .ok (.getfield 36, 3) := by decide +kernel
theorem dX0_savedTogether_39 : decode cX0_savedTogether 39 = .ok (.iload 4, 2) := by decide +kernel
theorem dX0_savedTogether_41 : decode cX0_savedTogether 41 = .ok (.iaload, 1) := by decide +kernel
theorem dX0_savedTogether_42 : decode cX0_savedTogether 42 = .ok (.aload_n 0, 1) := by decide +kernel
theorem dX0_savedTogether_43 : decode cX0_savedTogether 43 = .ok (.getfield 33, 3) := by decide +kernel
theorem dX0_savedTogether_46 : decode cX0_savedTogether 46 = .ok (.iload 5, 2) := by decide +kernel
theorem dX0_savedTogether_48 : decode cX0_savedTogether 48 = .ok (.iaload, 1) := by decide +kernel
theorem dX0_savedTogether_49 : decode cX0_savedTogether 49 = .ok (.iadd, 1) := by decide +kernel
theorem dX0_savedTogether_50 : decode cX0_savedTogether 50 = .ok (.iload_n 2, 1) := by decide +kernel
theorem dX0_savedTogether_51 : decode cX0_savedTogether 51 = .ok (.if_icmp .gt 23, 3) := by decide +kernel
theorem dX0_savedTogether_54 : decode cX0_savedTogether 54 = .ok (.iload_n 3, 1) := by decide +kernel
theorem dX0_savedTogether_55 : decode cX0_savedTogether 55 = .ok (.aload_n 0, 1) := by decide +kernel
theorem dX0_savedTogether_56 : decode cX0_savedTogether 56 = .ok (.getfield 42, 3) := by decide +kernel
theorem dX0_savedTogether_59 : decode cX0_savedTogether 59 = .ok (.iload 4, 2) := by decide +kernel
theorem dX0_savedTogether_61 : decode cX0_savedTogether 61 = .ok (.iaload, 1) := by decide +kernel
theorem dX0_savedTogether_62 : decode cX0_savedTogether 62 = .ok (.aload_n 0, 1) := by decide +kernel
theorem dX0_savedTogether_63 : decode cX0_savedTogether 63 = .ok (.getfield 39, 3) := by decide +kernel
theorem dX0_savedTogether_66 : decode cX0_savedTogether 66 = .ok (.iload 5, 2) := by decide +kernel
theorem dX0_savedTogether_68 : decode cX0_savedTogether 68 = .ok (.iaload, 1) := by decide +kernel
theorem dX0_savedTogether_69 : decode cX0_savedTogether 69 = .ok (.iadd, 1) := by decide +kernel
theorem dX0_savedTogether_70 : decode cX0_savedTogether 70 = .ok (.invokestatic 97, 3) := by decide +kernel
theorem dX0_savedTogether_73 : decode cX0_savedTogether 73 = .ok (.istore_n 3, 1) := by decide +kernel
theorem dX0_savedTogether_74 : decode cX0_savedTogether 74 = .ok (.iload 4, 2) := by decide +kernel
theorem dX0_savedTogether_76 : decode cX0_savedTogether 76 = .ok (.iconst 1, 1) := by decide +kernel
theorem dX0_savedTogether_77 : decode cX0_savedTogether 77 = .ok (.isub, 1) := by decide +kernel
theorem dX0_savedTogether_78 : decode cX0_savedTogether 78 = .ok (.iload_n 1, 1) := by decide +kernel
theorem dX0_savedTogether_79 : decode cX0_savedTogether 79 = .ok (.iand, 1) := by decide +kernel
theorem dX0_savedTogether_80 : decode cX0_savedTogether 80 = .ok (.istore 4, 2) := by decide +kernel
theorem dX0_savedTogether_82 : decode cX0_savedTogether 82 = .ok (.goto (-58), 3) := by decide +kernel
theorem dX0_savedTogether_85 : decode cX0_savedTogether 85 = .ok (.iload_n 3, 1) := by decide +kernel
theorem dX0_savedTogether_86 : decode cX0_savedTogether 86 = .ok (.ireturn, 1) := by decide +kernel
theorem dX0_joinYear_0 : decode cX0_joinYear 0 = .ok (.iload_n 1, 1) := by decide +kernel
theorem dX0_joinYear_1 : decode cX0_joinYear 1 = .ok (.iconst 1, 1) := by decide +kernel
theorem dX0_joinYear_2 : decode cX0_joinYear 2 = .ok (.isub, 1) := by decide +kernel
theorem dX0_joinYear_3 : decode cX0_joinYear 3 = .ok (.istore_n 2, 1) := by decide +kernel
theorem dX0_joinYear_4 : decode cX0_joinYear 4 = .ok (.iload_n 2, 1) := by decide +kernel
theorem dX0_joinYear_5 : decode cX0_joinYear 5 = .ok (.ifCond .le 75, 3) := by decide +kernel
theorem dX0_joinYear_8 : decode cX0_joinYear 8 = .ok (.aload_n 0, 1) := by decide +kernel
theorem dX0_joinYear_9 : decode cX0_joinYear 9 = .ok (.getfield 48, 3) := by decide +kernel
theorem dX0_joinYear_12 : decode cX0_joinYear 12 = .ok (.iload_n 2, 1) := by decide +kernel
theorem dX0_joinYear_13 : decode cX0_joinYear 13 = .ok (.iaload, 1) := by decide +kernel
theorem dX0_joinYear_14 : decode cX0_joinYear 14 = .ok (.istore_n 3, 1) := by decide +kernel
theorem dX0_joinYear_15 : decode cX0_joinYear 15 = .ok (.iload_n 2, 1) := by decide +kernel
theorem dX0_joinYear_16 : decode cX0_joinYear 16 = .ok (.istore 4, 2) := by decide +kernel
theorem dX0_joinYear_18 : decode cX0_joinYear 18 = .ok (.iload 4, 2) := by decide +kernel
theorem dX0_joinYear_20 : decode cX0_joinYear 20 = .ok (.ifCond .le 47, 3) := by decide +kernel
theorem dX0_joinYear_23 : decode cX0_joinYear 23 = .ok (.aload_n 0, 1) := by decide +kernel
theorem dX0_joinYear_24 : decode cX0_joinYear 24 = .ok (.getfield 45, 3) := by decide +kernel
theorem dX0_joinYear_27 : decode cX0_joinYear 27 = .ok (.iload 4, 2) := by decide +kernel
theorem dX0_joinYear_29 : decode cX0_joinYear 29 = .ok (.iaload, 1) := by decide +kernel
theorem dX0_joinYear_30 : decode cX0_joinYear 30 = .ok (.iconst (-1), 1) := by decide +kernel
theorem dX0_joinYear_31 : decode cX0_joinYear 31 = .ok (.if_icmp .eq 25, 3) := by decide +kernel
theorem dX0_joinYear_34 : decode cX0_joinYear 34 = .ok (.iload_n 3, 1) := by decide +kernel
theorem dX0_joinYear_35 : decode cX0_joinYear 35 = .ok (.aload_n 0, 1) := by decide +kernel
theorem dX0_joinYear_36 : decode cX0_joinYear 36 = .ok (.getfield 48, 3) := by decide +kernel
theorem dX0_joinYear_39 : decode cX0_joinYear 39 = .ok (.iload_n 2, 1) := by decide +kernel
theorem dX0_joinYear_40 : decode cX0_joinYear 40 = .ok (.iload 4, 2) := by decide +kernel
theorem dX0_joinYear_42 : decode cX0_joinYear 42 = .ok (.ixor, 1) := by decide +kernel
theorem dX0_joinYear_43 : decode cX0_joinYear 43 = .ok (.iaload, 1) := by decide +kernel
theorem dX0_joinYear_44 : decode cX0_joinYear 44 = .ok (.aload_n 0, 1) := by decide +kernel
theorem dX0_joinYear_45 : decode cX0_joinYear 45 = .ok (.getfield 45, 3) := by decide +kernel
theorem dX0_joinYear_48 : decode cX0_joinYear 48 = .ok (.iload 4, 2) := by decide +kernel
theorem dX0_joinYear_50 : decode cX0_joinYear 50 = .ok (.iaload, 1) := by decide +kernel
theorem dX0_joinYear_51 : decode cX0_joinYear 51 = .ok (.iadd, 1) := by decide +kernel
theorem dX0_joinYear_52 : decode cX0_joinYear 52 = .ok (.invokestatic 97, 3) := by decide +kernel
theorem dX0_joinYear_55 : decode cX0_joinYear 55 = .ok (.istore_n 3, 1) := by decide +kernel
theorem dX0_joinYear_56 : decode cX0_joinYear 56 = .ok (.iload 4, 2) := by decide +kernel
theorem dX0_joinYear_58 : decode cX0_joinYear 58 = .ok (.iconst 1, 1) := by decide +kernel
theorem dX0_joinYear_59 : decode cX0_joinYear 59 = .ok (.isub, 1) := by decide +kernel
theorem dX0_joinYear_60 : decode cX0_joinYear 60 = .ok (.iload_n 2, 1) := by decide +kernel
theorem dX0_joinYear_61 : decode cX0_joinYear 61 = .ok (.iand, 1) := by decide +kernel
theorem dX0_joinYear_62 : decode cX0_joinYear 62 = .ok (.istore 4, 2) := by decide +kernel
theorem dX0_joinYear_64 : decode cX0_joinYear 64 = .ok (.goto (-46), 3) := by decide +kernel
theorem dX0_joinYear_67 : decode cX0_joinYear 67 = .ok (.aload_n 0, 1) := by decide +kernel
theorem dX0_joinYear_68 : decode cX0_joinYear 68 = .ok (.getfield 48, 3) := by decide +kernel
theorem dX0_joinYear_71 : decode cX0_joinYear 71 = .ok (.iload_n 2, 1) := by decide +kernel
theorem dX0_joinYear_72 : decode cX0_joinYear 72 = .ok (.iload_n 3, 1) := by decide +kernel
theorem dX0_joinYear_73 : decode cX0_joinYear 73 = .ok (.iastore, 1) := by decide +kernel
theorem dX0_joinYear_74 : decode cX0_joinYear 74 = .ok (.iinc 2 (-1), 3) := by decide +kernel
theorem dX0_joinYear_77 : decode cX0_joinYear 77 = .ok (.goto (-73), 3) := by decide +kernel
theorem dX0_joinYear_80 : decode cX0_joinYear 80 = .ok (.return_, 1) := by decide +kernel
theorem dX1_init_0 : decode cX1_init 0 = .ok (.aload_n 0, 1) := by decide +kernel
theorem dX1_init_1 : decode cX1_init 1 = .ok (.invokespecial 5, 3) := by decide +kernel
theorem dX1_init_4 : decode cX1_init 4 = .ok (.aload_n 0, 1) := by decide +kernel
theorem dX1_init_5 : decode cX1_init 5 = .ok (.iconst 0, 1) := by decide +kernel
theorem dX1_init_6 : decode cX1_init 6 = .ok (.putfield 11, 3) := by decide +kernel
theorem dX1_init_9 : decode cX1_init 9 = .ok (.aload_n 0, 1) := by decide +kernel
theorem dX1_init_10 : decode cX1_init 10 = .ok (.iconst 0, 1) := by decide +kernel
theorem dX1_init_11 : decode cX1_init 11 = .ok (.putfield 15, 3) := by decide +kernel
theorem dX1_init_14 : decode cX1_init 14 = .ok (.aload_n 0, 1) := by decide +kernel
theorem dX1_init_15 : decode cX1_init 15 = .ok (.bipush 7, 2) := by decide +kernel
theorem dX1_init_17 : decode cX1_init 17 = .ok (.newarray .int, 2) := by decide +kernel
theorem dX1_init_19 : decode cX1_init 19 = .ok (.putfield 18, 3) := by decide +kernel
theorem dX1_init_22 : decode cX1_init 22 = .ok (.aload_n 0, 1) := by decide +kernel
theorem dX1_init_23 : decode cX1_init 23 = .ok (.bipush 7, 2) := by decide +kernel
theorem dX1_init_25 : decode cX1_init 25 = .ok (.newarray .int, 2) := by decide +kernel
theorem dX1_init_27 : decode cX1_init 27 = .ok (.putfield 22, 3) := by decide +kernel
theorem dX1_init_30 : decode cX1_init 30 = .ok (.aload_n 0, 1) := by decide +kernel
theorem dX1_init_31 : decode cX1_init 31 = .ok (.sipush 896, 3) := by decide +kernel
theorem dX1_init_34 : decode cX1_init 34 = .ok (.newarray .int, 2) := by decide +kernel
theorem dX1_init_36 : decode cX1_init 36 = .ok (.putfield 25, 3) := by decide +kernel
theorem dX1_init_39 : decode cX1_init 39 = .ok (.aload_n 0, 1) := by decide +kernel
theorem dX1_init_40 : decode cX1_init 40 = .ok (.sipush 896, 3) := by decide +kernel
theorem dX1_init_43 : decode cX1_init 43 = .ok (.newarray .int, 2) := by decide +kernel
theorem dX1_init_45 : decode cX1_init 45 = .ok (.putfield 28, 3) := by decide +kernel
theorem dX1_init_48 : decode cX1_init 48 = .ok (.return_, 1) := by decide +kernel
theorem dX1_isFull_0 : decode cX1_isFull 0 = .ok (.aload_n 0, 1) := by decide +kernel
theorem dX1_isFull_1 : decode cX1_isFull 1 = .ok (.getfield 15, 3) := by decide +kernel
theorem dX1_isFull_4 : decode cX1_isFull 4 = .ok (.bipush 7, 2) := by decide +kernel
theorem dX1_isFull_6 : decode cX1_isFull 6 = .ok (.if_icmp .lt 7, 3) := by decide +kernel
theorem dX1_isFull_9 : decode cX1_isFull 9 = .ok (.iconst 1, 1) := by decide +kernel
theorem dX1_isFull_10 : decode cX1_isFull 10 = .ok (.goto 4, 3) := by decide +kernel
theorem dX1_isFull_13 : decode cX1_isFull 13 = .ok (.iconst 0, 1) := by decide +kernel
theorem dX1_isFull_14 : decode cX1_isFull 14 = .ok (.ireturn, 1) := by decide +kernel
theorem dX1_add_0 : decode cX1_add 0 = .ok (.aload_n 0, 1) := by decide +kernel
theorem dX1_add_1 : decode cX1_add 1 = .ok (.getfield 18, 3) := by decide +kernel
theorem dX1_add_4 : decode cX1_add 4 = .ok (.aload_n 0, 1) := by decide +kernel
theorem dX1_add_5 : decode cX1_add 5 = .ok (.getfield 15, 3) := by decide +kernel
theorem dX1_add_8 : decode cX1_add 8 = .ok (.iload_n 1, 1) := by decide +kernel
theorem dX1_add_9 : decode cX1_add 9 = .ok (.iastore, 1) := by decide +kernel
theorem dX1_add_10 : decode cX1_add 10 = .ok (.aload_n 0, 1) := by decide +kernel
theorem dX1_add_11 : decode cX1_add 11 = .ok (.getfield 22, 3) := by decide +kernel
theorem dX1_add_14 : decode cX1_add 14 = .ok (.aload_n 0, 1) := by decide +kernel
theorem dX1_add_15 : decode cX1_add 15 = .ok (.getfield 15, 3) := by decide +kernel
theorem dX1_add_18 : decode cX1_add 18 = .ok (.iload_n 2, 1) := by decide +kernel
theorem dX1_add_19 : decode cX1_add 19 = .ok (.iastore, 1) := by decide +kernel
theorem dX1_add_20 : decode cX1_add 20 = .ok (.aload_n 0, 1) := by decide +kernel
theorem dX1_add_21 : decode cX1_add 21 = .ok (.dup, 1) := by decide +kernel
theorem dX1_add_22 : decode cX1_add 22 = .ok (.getfield 15, 3) := by decide +kernel
theorem dX1_add_25 : decode cX1_add 25 = .ok (.iconst 1, 1) := by decide +kernel
theorem dX1_add_26 : decode cX1_add 26 = .ok (.iadd, 1) := by decide +kernel
theorem dX1_add_27 : decode cX1_add 27 = .ok (.putfield 15, 3) := by decide +kernel
theorem dX1_add_30 : decode cX1_add 30 = .ok (.aload_n 0, 1) := by decide +kernel
theorem dX1_add_31 : decode cX1_add 31 = .ok (.getfield 15, 3) := by decide +kernel
theorem dX1_add_34 : decode cX1_add 34 = .ok (.iconst 1, 1) := by decide +kernel
theorem dX1_add_35 : decode cX1_add 35 = .ok (.isub, 1) := by decide +kernel
theorem dX1_add_36 : decode cX1_add 36 = .ok (.ireturn, 1) := by decide +kernel
theorem dX1_clear_0 : decode cX1_clear 0 = .ok (.aload_n 0, 1) := by decide +kernel
theorem dX1_clear_1 : decode cX1_clear 1 = .ok (.getfield 15, 3) := by decide +kernel
theorem dX1_clear_4 : decode cX1_clear 4 = .ok (.istore_n 1, 1) := by decide +kernel
theorem dX1_clear_5 : decode cX1_clear 5 = .ok (.aload_n 0, 1) := by decide +kernel
theorem dX1_clear_6 : decode cX1_clear 6 = .ok (.iconst 0, 1) := by decide +kernel
theorem dX1_clear_7 : decode cX1_clear 7 = .ok (.putfield 15, 3) := by decide +kernel
theorem dX1_clear_10 : decode cX1_clear 10 = .ok (.iload_n 1, 1) := by decide +kernel
theorem dX1_clear_11 : decode cX1_clear 11 = .ok (.ireturn, 1) := by decide +kernel
theorem dX1_countRows_0 : decode cX1_countRows 0 = .ok (.aload_n 0, 1) := by decide +kernel
theorem dX1_countRows_1 : decode cX1_countRows 1 = .ok (.invokevirtual 31, 3) := by decide +kernel
theorem dX1_countRows_4 : decode cX1_countRows 4 = .ok (.iconst 0, 1) := by decide +kernel
theorem dX1_countRows_5 : decode cX1_countRows 5 = .ok (.istore_n 1, 1) := by decide +kernel
theorem dX1_countRows_6 : decode cX1_countRows 6 = .ok (.iconst 0, 1) := by decide +kernel
theorem dX1_countRows_7 : decode cX1_countRows 7 = .ok (.istore_n 2, 1) := by decide +kernel
theorem dX1_countRows_8 : decode cX1_countRows 8 = .ok (.iload_n 2, 1) := by decide +kernel
theorem dX1_countRows_9 : decode cX1_countRows 9 = .ok (.aload_n 0, 1) := by decide +kernel
theorem dX1_countRows_10 : decode cX1_countRows 10 = .ok (.getfield 15, 3) := by decide +kernel
theorem dX1_countRows_13 : decode cX1_countRows 13 = .ok (.if_icmp .ge 24, 3) := by decide +kernel
theorem dX1_countRows_16 : decode cX1_countRows 16 = .ok (.iload_n 1, 1) := by decide +kernel
theorem dX1_countRows_17 : decode cX1_countRows 17 = .ok (.aload_n 0, 1) := by decide +kernel
theorem dX1_countRows_18 : decode cX1_countRows 18 = .ok (.getfield 25, 3) := by decide +kernel
theorem dX1_countRows_21 : decode cX1_countRows 21 = .ok (.iconst 1, 1) := by decide +kernel
theorem dX1_countRows_22 : decode cX1_countRows 22 = .ok (.iload_n 2, 1) := by decide +kernel
theorem dX1_countRows_23 : decode cX1_countRows 23 = .ok (.ishl, 1) := by decide +kernel
theorem dX1_countRows_24 : decode cX1_countRows 24 = .ok (.iload_n 2, 1) := by decide +kernel
theorem dX1_countRows_25 : decode cX1_countRows 25 = .ok (.invokestatic 34, 3) := by decide +kernel
theorem dX1_countRows_28 : decode cX1_countRows 28 = .ok (.iaload, 1) := by decide +kernel
theorem dX1_countRows_29 : decode cX1_countRows 29 = .ok (.iadd, 1) := by decide +kernel
theorem dX1_countRows_30 : decode cX1_countRows 30 = .ok (.istore_n 1, 1) := by decide +kernel
theorem dX1_countRows_31 : decode cX1_countRows 31 = .ok (.iinc 2 1, 3) := by decide +kernel
