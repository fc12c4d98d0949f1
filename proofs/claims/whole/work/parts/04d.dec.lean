theorem dX7_best_3 : decode cX7_best 3 = .ok (.iload_n 3, 1) := by decide +kernel
theorem dX7_best_4 : decode cX7_best 4 = .ok (.sipush 3000, 3) := by decide +kernel
theorem dX7_best_7 : decode cX7_best 7 = .ok (.invokevirtual 92, 3) := by decide +kernel
theorem dX7_best_10 : decode cX7_best 10 = .ok (.istore 4, 2) := by decide +kernel
theorem dX7_best_12 : decode cX7_best 12 = .ok (.iload 4, 2) := by decide +kernel
theorem dX7_best_14 : decode cX7_best 14 = .ok (.ifCond .eq 6, 3) := by decide +kernel
theorem dX7_best_17 : decode cX7_best 17 = .ok (.iload 4, 2) := by decide +kernel
theorem dX7_best_19 : decode cX7_best 19 = .ok (.ireturn, 1) := by decide +kernel
theorem dX7_best_20 : decode cX7_best 20 = .ok (.aload_n 0, 1) := by decide +kernel
theorem dX7_best_21 : decode cX7_best 21 = .ok (.iload_n 1, 1) := by decide +kernel
theorem dX7_best_22 : decode cX7_best 22 = .ok (.iload_n 2, 1) := by decide +kernel
theorem dX7_best_23 : decode cX7_best 23 = .ok (.invokevirtual 96, 3) := by decide +kernel
theorem dX7_best_26 : decode cX7_best 26 = .ok (.aload_n 0, 1) := by decide +kernel
theorem dX7_best_27 : decode cX7_best 27 = .ok (.getfield 25, 3) := by decide +kernel
theorem dX7_best_30 : decode cX7_best 30 = .ok (.iload_n 3, 1) := by decide +kernel
theorem dX7_best_31 : decode cX7_best 31 = .ok (.invokevirtual 100, 3) := by decide +kernel
theorem dX7_best_34 : decode cX7_best 34 = .ok (.ireturn, 1) := by decide +kernel
theorem dX7_does_0 : decode cX7_does 0 = .ok (.aload_n 0, 1) := by decide +kernel
theorem dX7_does_1 : decode cX7_does 1 = .ok (.iload_n 1, 1) := by decide +kernel
theorem dX7_does_2 : decode cX7_does 2 = .ok (.iload_n 2, 1) := by decide +kernel
theorem dX7_does_3 : decode cX7_does 3 = .ok (.iload_n 3, 1) := by decide +kernel
theorem dX7_does_4 : decode cX7_does 4 = .ok (.sipush 3000, 3) := by decide +kernel
theorem dX7_does_7 : decode cX7_does 7 = .ok (.invokevirtual 92, 3) := by decide +kernel
theorem dX7_does_10 : decode cX7_does 10 = .ok (.istore 5, 2) := by decide +kernel
theorem dX7_does_12 : decode cX7_does 12 = .ok (.iload 5, 2) := by decide +kernel
theorem dX7_does_14 : decode cX7_does 14 = .ok (.ifCond .eq 6, 3) := by decide +kernel
theorem dX7_does_17 : decode cX7_does 17 = .ok (.iload 5, 2) := by decide +kernel
theorem dX7_does_19 : decode cX7_does 19 = .ok (.ireturn, 1) := by decide +kernel
theorem dX7_does_20 : decode cX7_does 20 = .ok (.aload_n 0, 1) := by decide +kernel
theorem dX7_does_21 : decode cX7_does 21 = .ok (.iload 4, 2) := by decide +kernel
theorem dX7_does_23 : decode cX7_does 23 = .ok (.invokevirtual 57, 3) := by decide +kernel
theorem dX7_does_26 : decode cX7_does 26 = .ok (.ifCond .ne 5, 3) := by decide +kernel
theorem dX7_does_29 : decode cX7_does 29 = .ok (.iconst (-1), 1) := by decide +kernel
theorem dX7_does_30 : decode cX7_does 30 = .ok (.ireturn, 1) := by decide +kernel
theorem dX7_does_31 : decode cX7_does 31 = .ok (.iload_n 1, 1) := by decide +kernel
theorem dX7_does_32 : decode cX7_does 32 = .ok (.iload 4, 2) := by decide +kernel
theorem dX7_does_34 : decode cX7_does 34 = .ok (.invokestatic 104, 3) := by decide +kernel
theorem dX7_does_37 : decode cX7_does 37 = .ok (.ifCond .ne 6, 3) := by decide +kernel
theorem dX7_does_40 : decode cX7_does 40 = .ok (.bipush (-9), 2) := by decide +kernel
theorem dX7_does_42 : decode cX7_does 42 = .ok (.ireturn, 1) := by decide +kernel
theorem dX7_does_43 : decode cX7_does 43 = .ok (.aload_n 0, 1) := by decide +kernel
theorem dX7_does_44 : decode cX7_does 44 = .ok (.iload_n 1, 1) := by decide +kernel
theorem dX7_does_45 : decode cX7_does 45 = .ok (.iload_n 2, 1) := by decide +kernel
theorem dX7_does_46 : decode cX7_does 46 = .ok (.invokevirtual 96, 3) := by decide +kernel
theorem dX7_does_49 : decode cX7_does 49 = .ok (.iload_n 1, 1) := by decide +kernel
theorem dX7_does_50 : decode cX7_does 50 = .ok (.iconst 1, 1) := by decide +kernel
theorem dX7_does_51 : decode cX7_does 51 = .ok (.iload 4, 2) := by decide +kernel
theorem dX7_does_53 : decode cX7_does 53 = .ok (.ishl, 1) := by decide +kernel
theorem dX7_does_54 : decode cX7_does 54 = .ok (.iconst 1, 1) := by decide +kernel
theorem dX7_does_55 : decode cX7_does 55 = .ok (.isub, 1) := by decide +kernel
theorem dX7_does_56 : decode cX7_does 56 = .ok (.iand, 1) := by decide +kernel
theorem dX7_does_57 : decode cX7_does 57 = .ok (.istore 6, 2) := by decide +kernel
theorem dX7_does_59 : decode cX7_does 59 = .ok (.aload_n 0, 1) := by decide +kernel
theorem dX7_does_60 : decode cX7_does 60 = .ok (.getfield 25, 3) := by decide +kernel
theorem dX7_does_63 : decode cX7_does 63 = .ok (.iload 6, 2) := by decide +kernel
theorem dX7_does_65 : decode cX7_does 65 = .ok (.invokestatic 108, 3) := by decide +kernel
theorem dX7_does_68 : decode cX7_does 68 = .ok (.iload_n 3, 1) := by decide +kernel
theorem dX7_does_69 : decode cX7_does 69 = .ok (.invokevirtual 113, 3) := by decide +kernel
theorem dX7_does_72 : decode cX7_does 72 = .ok (.ireturn, 1) := by decide +kernel
theorem dX7_needed_0 : decode cX7_needed 0 = .ok (.aload_n 0, 1) := by decide +kernel
theorem dX7_needed_1 : decode cX7_needed 1 = .ok (.iload_n 1, 1) := by decide +kernel
theorem dX7_needed_2 : decode cX7_needed 2 = .ok (.iload_n 2, 1) := by decide +kernel
theorem dX7_needed_3 : decode cX7_needed 3 = .ok (.iload_n 3, 1) := by decide +kernel
theorem dX7_needed_4 : decode cX7_needed 4 = .ok (.ldc 117, 2) := by decide +kernel
theorem dX7_needed_6 : decode cX7_needed 6 = .ok (.invokevirtual 92, 3) := by decide +kernel
theorem dX7_needed_9 : decode cX7_needed 9 = .ok (.istore 4, 2) := by decide +kernel
theorem dX7_needed_11 : decode cX7_needed 11 = .ok (.iload 4, 2) := by decide +kernel
theorem dX7_needed_13 : decode cX7_needed 13 = .ok (.ifCond .eq 6, 3) := by decide +kernel
theorem dX7_needed_16 : decode cX7_needed 16 = .ok (.iload 4, 2) := by decide +kernel
theorem dX7_needed_18 : decode cX7_needed 18 = .ok (.ireturn, 1) := by decide +kernel
theorem dX7_needed_19 : decode cX7_needed 19 = .ok (.aload_n 0, 1) := by decide +kernel
theorem dX7_needed_20 : decode cX7_needed 20 = .ok (.iload_n 1, 1) := by decide +kernel
theorem dX7_needed_21 : decode cX7_needed 21 = .ok (.iload_n 2, 1) := by decide +kernel
theorem dX7_needed_22 : decode cX7_needed 22 = .ok (.invokevirtual 96, 3) := by decide +kernel
theorem dX7_needed_25 : decode cX7_needed 25 = .ok (.aload_n 0, 1) := by decide +kernel
theorem dX7_needed_26 : decode cX7_needed 26 = .ok (.getfield 25, 3) := by decide +kernel
theorem dX7_needed_29 : decode cX7_needed 29 = .ok (.iload_n 3, 1) := by decide +kernel
theorem dX7_needed_30 : decode cX7_needed 30 = .ok (.invokevirtual 118, 3) := by decide +kernel
theorem dX7_needed_33 : decode cX7_needed 33 = .ok (.ireturn, 1) := by decide +kernel
theorem dX7_planRefusal_0 : decode cX7_planRefusal 0 = .ok (.aload_n 0, 1) := by decide +kernel
theorem dX7_planRefusal_1 : decode cX7_planRefusal 1 = .ok (.iload_n 1, 1) := by decide +kernel
theorem dX7_planRefusal_2 : decode cX7_planRefusal 2 = .ok (.invokevirtual 121, 3) := by decide +kernel
theorem dX7_planRefusal_5 : decode cX7_planRefusal 5 = .ok (.ifCond .ne 5, 3) := by decide +kernel
theorem dX7_planRefusal_8 : decode cX7_planRefusal 8 = .ok (.iconst (-1), 1) := by decide +kernel
theorem dX7_planRefusal_9 : decode cX7_planRefusal 9 = .ok (.ireturn, 1) := by decide +kernel
theorem dX7_planRefusal_10 : decode cX7_planRefusal 10 = .ok (.iload_n 1, 1) := by decide +kernel
theorem dX7_planRefusal_11 : decode cX7_planRefusal 11 = .ok (.invokestatic 108, 3) := by decide +kernel
theorem dX7_planRefusal_14 : decode cX7_planRefusal 14 = .ok (.bipush 6, 2) := by decide +kernel
theorem dX7_planRefusal_16 : decode cX7_planRefusal 16 = .ok (.if_icmp .gt 26, 3) := by decide +kernel
theorem dX7_planRefusal_19 : decode cX7_planRefusal 19 = .ok (.iload_n 2, 1) := by decide +kernel
theorem dX7_planRefusal_20 : decode cX7_planRefusal 20 = .ok (.iconst 1, 1) := by decide +kernel
theorem dX7_planRefusal_21 : decode cX7_planRefusal 21 = .ok (.iconst 3, 1) := by decide +kernel
theorem dX7_planRefusal_22 : decode cX7_planRefusal 22 = .ok (.invokestatic 50, 3) := by decide +kernel
theorem dX7_planRefusal_25 : decode cX7_planRefusal 25 = .ok (.ifCond .eq 17, 3) := by decide +kernel
theorem dX7_planRefusal_28 : decode cX7_planRefusal 28 = .ok (.iload_n 3, 1) := by decide +kernel
theorem dX7_planRefusal_29 : decode cX7_planRefusal 29 = .ok (.iconst 0, 1) := by decide +kernel
theorem dX7_planRefusal_30 : decode cX7_planRefusal 30 = .ok (.iload 4, 2) := by decide +kernel
theorem dX7_planRefusal_32 : decode cX7_planRefusal 32 = .ok (.invokestatic 50, 3) := by decide +kernel
theorem dX7_planRefusal_35 : decode cX7_planRefusal 35 = .ok (.ifCond .eq 7, 3) := by decide +kernel
theorem dX7_planRefusal_38 : decode cX7_planRefusal 38 = .ok (.iconst 1, 1) := by decide +kernel
theorem dX7_planRefusal_39 : decode cX7_planRefusal 39 = .ok (.goto 4, 3) := by decide +kernel
theorem dX7_planRefusal_42 : decode cX7_planRefusal 42 = .ok (.iconst 0, 1) := by decide +kernel
theorem dX7_planRefusal_43 : decode cX7_planRefusal 43 = .ok (.istore 5, 2) := by decide +kernel
theorem dX7_planRefusal_45 : decode cX7_planRefusal 45 = .ok (.iload 5, 2) := by decide +kernel
theorem dX7_planRefusal_47 : decode cX7_planRefusal 47 = .ok (.ifCond .eq 7, 3) := by decide +kernel
theorem dX7_planRefusal_50 : decode cX7_planRefusal 50 = .ok (.iconst 0, 1) := by decide +kernel
theorem dX7_planRefusal_51 : decode cX7_planRefusal 51 = .ok (.goto 5, 3) := by decide +kernel
theorem dX7_planRefusal_54 : decode cX7_planRefusal 54 = .ok (.bipush (-2), 2) := by decide +kernel
theorem dX7_planRefusal_56 : decode cX7_planRefusal 56 = .ok (.ireturn, 1) := by decide +kernel
theorem dX7_takeIntoPlan_0 : decode cX7_takeIntoPlan 0 = .ok (.aload_n 0, 1) := by decide +kernel
theorem dX7_takeIntoPlan_1 : decode cX7_takeIntoPlan 1 = .ok (.getfield 25, 3) := by decide +kernel
theorem dX7_takeIntoPlan_4 : decode cX7_takeIntoPlan 4 = .ok (.iload_n 2, 1) := by decide +kernel
theorem dX7_takeIntoPlan_5 : decode cX7_takeIntoPlan 5 = .ok (.invokevirtual 124, 3) := by decide +kernel
theorem dX7_takeIntoPlan_8 : decode cX7_takeIntoPlan 8 = .ok (.iconst 0, 1) := by decide +kernel
theorem dX7_takeIntoPlan_9 : decode cX7_takeIntoPlan 9 = .ok (.istore_n 3, 1) := by decide +kernel
theorem dX7_takeIntoPlan_10 : decode cX7_takeIntoPlan 10 = .ok (.iload_n 3, 1) := by decide +kernel
theorem dX7_takeIntoPlan_11 : decode cX7_takeIntoPlan 11 = .ok (.aload_n 0, 1) := by decide +kernel
theorem dX7_takeIntoPlan_12 : decode cX7_takeIntoPlan 12 = .ok (.getfield 15, 3) := by decide +kernel
theorem dX7_takeIntoPlan_15 : decode cX7_takeIntoPlan 15 = .ok (.if_icmp .ge 30, 3) := by decide +kernel
theorem dX7_takeIntoPlan_18 : decode cX7_takeIntoPlan 18 = .ok (.iload_n 1, 1) := by decide +kernel
theorem dX7_takeIntoPlan_19 : decode cX7_takeIntoPlan 19 = .ok (.iload_n 3, 1) := by decide +kernel
theorem dX7_takeIntoPlan_20 : decode cX7_takeIntoPlan 20 = .ok (.invokestatic 104, 3) := by decide +kernel
theorem dX7_takeIntoPlan_23 : decode cX7_takeIntoPlan 23 = .ok (.ifCond .eq 16, 3) := by decide +kernel
theorem dX7_takeIntoPlan_26 : decode cX7_takeIntoPlan 26 = .ok (.aload_n 0, 1) := by decide +kernel
theorem dX7_takeIntoPlan_27 : decode cX7_takeIntoPlan 27 = .ok (.getfield 25, 3) := by decide +kernel
theorem dX7_takeIntoPlan_30 : decode cX7_takeIntoPlan 30 = .ok (.aload_n 0, 1) := by decide +kernel
theorem dX7_takeIntoPlan_31 : decode cX7_takeIntoPlan 31 = .ok (.getfield 11, 3) := by decide +kernel
theorem dX7_takeIntoPlan_34 : decode cX7_takeIntoPlan 34 = .ok (.iload_n 3, 1) := by decide +kernel
theorem dX7_takeIntoPlan_35 : decode cX7_takeIntoPlan 35 = .ok (.aaload, 1) := by decide +kernel
theorem dX7_takeIntoPlan_36 : decode cX7_takeIntoPlan 36 = .ok (.invokevirtual 127, 3) := by decide +kernel
theorem dX7_takeIntoPlan_39 : decode cX7_takeIntoPlan 39 = .ok (.iinc 3 1, 3) := by decide +kernel
theorem dX7_takeIntoPlan_42 : decode cX7_takeIntoPlan 42 = .ok (.goto (-32), 3) := by decide +kernel
theorem dX7_takeIntoPlan_45 : decode cX7_takeIntoPlan 45 = .ok (.return_, 1) := by decide +kernel
theorem dX7_sign_0 : decode cX7_sign 0 = .ok (.aload_n 0, 1) := by decide +kernel
theorem dX7_sign_1 : decode cX7_sign 1 = .ok (.iload_n 1, 1) := by decide +kernel
theorem dX7_sign_2 : decode cX7_sign 2 = .ok (.invokevirtual 57, 3) := by decide +kernel
theorem dX7_sign_5 : decode cX7_sign 5 = .ok (.ifCond .ne 5, 3) := by decide +kernel
theorem dX7_sign_8 : decode cX7_sign 8 = .ok (.iconst (-1), 1) := by decide +kernel
theorem dX7_sign_9 : decode cX7_sign 9 = .ok (.ireturn, 1) := by decide +kernel
theorem dX7_sign_10 : decode cX7_sign 10 = .ok (.iload_n 3, 1) := by decide +kernel
theorem dX7_sign_11 : decode cX7_sign 11 = .ok (.iconst 1, 1) := by decide +kernel
theorem dX7_sign_12 : decode cX7_sign 12 = .ok (.sipush 30000, 3) := by decide +kernel
theorem dX7_sign_15 : decode cX7_sign 15 = .ok (.invokestatic 50, 3) := by decide +kernel
theorem dX7_sign_18 : decode cX7_sign 18 = .ok (.ifCond .eq 27, 3) := by decide +kernel
theorem dX7_sign_21 : decode cX7_sign 21 = .ok (.iload_n 2, 1) := by decide +kernel
theorem dX7_sign_22 : decode cX7_sign 22 = .ok (.iconst 1, 1) := by decide +kernel
theorem dX7_sign_23 : decode cX7_sign 23 = .ok (.iload_n 3, 1) := by decide +kernel
theorem dX7_sign_24 : decode cX7_sign 24 = .ok (.invokestatic 50, 3) := by decide +kernel
theorem dX7_sign_27 : decode cX7_sign 27 = .ok (.ifCond .eq 18, 3) := by decide +kernel
theorem dX7_sign_30 : decode cX7_sign 30 = .ok (.iload 4, 2) := by decide +kernel
theorem dX7_sign_32 : decode cX7_sign 32 = .ok (.iconst 1, 1) := by decide +kernel
theorem dX7_sign_33 : decode cX7_sign 33 = .ok (.bipush 9, 2) := by decide +kernel
theorem dX7_sign_35 : decode cX7_sign 35 = .ok (.invokestatic 50, 3) := by decide +kernel
theorem dX7_sign_38 : decode cX7_sign 38 = .ok (.ifCond .eq 7, 3) := by decide +kernel
theorem dX7_sign_41 : decode cX7_sign 41 = .ok (.iconst 1, 1) := by decide +kernel
theorem dX7_sign_42 : decode cX7_sign 42 = .ok (.goto 4, 3) := by decide +kernel
theorem dX7_sign_45 : decode cX7_sign 45 = .ok (.iconst 0, 1) := by decide +kernel
theorem dX7_sign_46 : decode cX7_sign 46 = .ok (.istore 5, 2) := by decide +kernel
theorem dX7_sign_48 : decode cX7_sign 48 = .ok (.iload 5, 2) := by decide +kernel
theorem dX7_sign_50 : decode cX7_sign 50 = .ok (.ifCond .ne 6, 3) := by decide +kernel
theorem dX7_sign_53 : decode cX7_sign 53 = .ok (.bipush (-2), 2) := by decide +kernel
theorem dX7_sign_55 : decode cX7_sign 55 = .ok (.ireturn, 1) := by decide +kernel
theorem dX7_sign_56 : decode cX7_sign 56 = .ok (.aload_n 0, 1) := by decide +kernel
theorem dX7_sign_57 : decode cX7_sign 57 = .ok (.getfield 32, 3) := by decide +kernel
theorem dX7_sign_60 : decode cX7_sign 60 = .ok (.invokevirtual 131, 3) := by decide +kernel
theorem dX7_sign_63 : decode cX7_sign 63 = .ok (.ifCond .eq 6, 3) := by decide +kernel
theorem dX7_sign_66 : decode cX7_sign 66 = .ok (.bipush (-4), 2) := by decide +kernel
theorem dX7_sign_68 : decode cX7_sign 68 = .ok (.ireturn, 1) := by decide +kernel
theorem dX7_sign_69 : decode cX7_sign 69 = .ok (.aload_n 0, 1) := by decide +kernel
theorem dX7_sign_70 : decode cX7_sign 70 = .ok (.getfield 32, 3) := by decide +kernel
theorem dX7_sign_73 : decode cX7_sign 73 = .ok (.new 135, 3) := by decide +kernel
theorem dX7_sign_76 : decode cX7_sign 76 = .ok (.dup, 1) := by decide +kernel
theorem dX7_sign_77 : decode cX7_sign 77 = .ok (.iload_n 1, 1) := by decide +kernel
theorem dX7_sign_78 : decode cX7_sign 78 = .ok (.iload_n 2, 1) := by decide +kernel
theorem dX7_sign_79 : decode cX7_sign 79 = .ok (.iload_n 3, 1) := by decide +kernel
theorem dX7_sign_80 : decode cX7_sign 80 = .ok (.iload 4, 2) := by decide +kernel
theorem dX7_sign_82 : decode cX7_sign 82 = .ok (.invokespecial 137, 3) := by decide +kernel
theorem dX7_sign_85 : decode cX7_sign 85 = .ok (.invokevirtual 138, 3) := by decide +kernel
theorem dX7_sign_88 : decode cX7_sign 88 = .ok (.ireturn, 1) := by decide +kernel
theorem dX7_drop_0 : decode cX7_drop 0 = .ok (.aload_n 0, 1) := by decide +kernel
theorem dX7_drop_1 : decode cX7_drop 1 = .ok (.getfield 32, 3) := by decide +kernel
theorem dX7_drop_4 : decode cX7_drop 4 = .ok (.iload_n 1, 1) := by decide +kernel
theorem dX7_drop_5 : decode cX7_drop 5 = .ok (.invokevirtual 142, 3) := by decide +kernel
theorem dX7_drop_8 : decode cX7_drop 8 = .ok (.ifCond .ne 5, 3) := by decide +kernel
theorem dX7_drop_11 : decode cX7_drop 11 = .ok (.iconst (-1), 1) := by decide +kernel
theorem dX7_drop_12 : decode cX7_drop 12 = .ok (.ireturn, 1) := by decide +kernel
theorem dX7_drop_13 : decode cX7_drop 13 = .ok (.aload_n 0, 1) := by decide +kernel
theorem dX7_drop_14 : decode cX7_drop 14 = .ok (.getfield 32, 3) := by decide +kernel
theorem dX7_drop_17 : decode cX7_drop 17 = .ok (.iload_n 1, 1) := by decide +kernel
theorem dX7_drop_18 : decode cX7_drop 18 = .ok (.invokevirtual 145, 3) := by decide +kernel
theorem dX7_drop_21 : decode cX7_drop 21 = .ok (.ifCond .eq 7, 3) := by decide +kernel
theorem dX7_drop_24 : decode cX7_drop 24 = .ok (.iconst 1, 1) := by decide +kernel
theorem dX7_drop_25 : decode cX7_drop 25 = .ok (.goto 5, 3) := by decide +kernel
theorem dX7_drop_28 : decode cX7_drop 28 = .ok (.bipush (-3), 2) := by decide +kernel
theorem dX7_drop_30 : decode cX7_drop 30 = .ok (.ireturn, 1) := by decide +kernel
theorem dX7_speed_0 : decode cX7_speed 0 = .ok (.aload_n 0, 1) := by decide +kernel
theorem dX7_speed_1 : decode cX7_speed 1 = .ok (.iload_n 1, 1) := by decide +kernel
theorem dX7_speed_2 : decode cX7_speed 2 = .ok (.invokevirtual 57, 3) := by decide +kernel
theorem dX7_speed_5 : decode cX7_speed 5 = .ok (.ifCond .eq 14, 3) := by decide +kernel
theorem dX7_speed_8 : decode cX7_speed 8 = .ok (.aload_n 0, 1) := by decide +kernel
theorem dX7_speed_9 : decode cX7_speed 9 = .ok (.getfield 32, 3) := by decide +kernel
theorem dX7_speed_12 : decode cX7_speed 12 = .ok (.iload_n 1, 1) := by decide +kernel
theorem dX7_speed_13 : decode cX7_speed 13 = .ok (.invokevirtual 148, 3) := by decide +kernel
theorem dX7_speed_16 : decode cX7_speed 16 = .ok (.goto 4, 3) := by decide +kernel
theorem dX7_speed_19 : decode cX7_speed 19 = .ok (.iconst (-1), 1) := by decide +kernel
theorem dX7_speed_20 : decode cX7_speed 20 = .ok (.ireturn, 1) := by decide +kernel
theorem dX7_span_0 : decode cX7_span 0 = .ok (.aload_n 0, 1) := by decide +kernel
theorem dX7_span_1 : decode cX7_span 1 = .ok (.iload_n 1, 1) := by decide +kernel
theorem dX7_span_2 : decode cX7_span 2 = .ok (.invokevirtual 57, 3) := by decide +kernel
theorem dX7_span_5 : decode cX7_span 5 = .ok (.ifCond .eq 14, 3) := by decide +kernel
theorem dX7_span_8 : decode cX7_span 8 = .ok (.aload_n 0, 1) := by decide +kernel
theorem dX7_span_9 : decode cX7_span 9 = .ok (.getfield 32, 3) := by decide +kernel
theorem dX7_span_12 : decode cX7_span 12 = .ok (.iload_n 1, 1) := by decide +kernel
theorem dX7_span_13 : decode cX7_span 13 = .ok (.invokevirtual 151, 3) := by decide +kernel
theorem dX7_span_16 : decode cX7_span 16 = .ok (.goto 4, 3) := by decide +kernel
theorem dX7_span_19 : decode cX7_span 19 = .ok (.iconst (-1), 1) := by decide +kernel
theorem dX7_span_20 : decode cX7_span 20 = .ok (.ireturn, 1) := by decide +kernel
theorem dX7_weighs_0 : decode cX7_weighs 0 = .ok (.aload_n 0, 1) := by decide +kernel
theorem dX7_weighs_1 : decode cX7_weighs 1 = .ok (.iload_n 1, 1) := by decide +kernel
theorem dX7_weighs_2 : decode cX7_weighs 2 = .ok (.invokevirtual 57, 3) := by decide +kernel
theorem dX7_weighs_5 : decode cX7_weighs 5 = .ok (.ifCond .ne 5, 3) := by decide +kernel
theorem dX7_weighs_8 : decode cX7_weighs 8 = .ok (.iconst (-1), 1) := by decide +kernel
theorem dX7_weighs_9 : decode cX7_weighs 9 = .ok (.ireturn, 1) := by decide +kernel
theorem dX7_weighs_10 : decode cX7_weighs 10 = .ok (.iload_n 2, 1) := by decide +kernel
theorem dX7_weighs_11 : decode cX7_weighs 11 = .ok (.iconst 1, 1) := by decide +kernel
theorem dX7_weighs_12 : decode cX7_weighs 12 = .ok (.sipush 30000, 3) := by decide +kernel
theorem dX7_weighs_15 : decode cX7_weighs 15 = .ok (.invokestatic 50, 3) := by decide +kernel
theorem dX7_weighs_18 : decode cX7_weighs 18 = .ok (.ifCond .eq 15, 3) := by decide +kernel
theorem dX7_weighs_21 : decode cX7_weighs 21 = .ok (.aload_n 0, 1) := by decide +kernel
theorem dX7_weighs_22 : decode cX7_weighs 22 = .ok (.getfield 32, 3) := by decide +kernel
theorem dX7_weighs_25 : decode cX7_weighs 25 = .ok (.iload_n 1, 1) := by decide +kernel
theorem dX7_weighs_26 : decode cX7_weighs 26 = .ok (.iload_n 2, 1) := by decide +kernel
theorem dX7_weighs_27 : decode cX7_weighs 27 = .ok (.invokevirtual 154, 3) := by decide +kernel
theorem dX7_weighs_30 : decode cX7_weighs 30 = .ok (.goto 5, 3) := by decide +kernel
theorem dX7_weighs_33 : decode cX7_weighs 33 = .ok (.bipush (-2), 2) := by decide +kernel
theorem dX7_weighs_35 : decode cX7_weighs 35 = .ok (.ireturn, 1) := by decide +kernel
theorem dX7_quarrels_0 : decode cX7_quarrels 0 = .ok (.aload_n 0, 1) := by decide +kernel
theorem dX7_quarrels_1 : decode cX7_quarrels 1 = .ok (.iload_n 1, 1) := by decide +kernel
theorem dX7_quarrels_2 : decode cX7_quarrels 2 = .ok (.invokevirtual 57, 3) := by decide +kernel
theorem dX7_quarrels_5 : decode cX7_quarrels 5 = .ok (.ifCond .eq 14, 3) := by decide +kernel
theorem dX7_quarrels_8 : decode cX7_quarrels 8 = .ok (.aload_n 0, 1) := by decide +kernel
theorem dX7_quarrels_9 : decode cX7_quarrels 9 = .ok (.getfield 32, 3) := by decide +kernel
theorem dX7_quarrels_12 : decode cX7_quarrels 12 = .ok (.iload_n 1, 1) := by decide +kernel
theorem dX7_quarrels_13 : decode cX7_quarrels 13 = .ok (.invokevirtual 157, 3) := by decide +kernel
theorem dX7_quarrels_16 : decode cX7_quarrels 16 = .ok (.goto 4, 3) := by decide +kernel
theorem dX7_quarrels_19 : decode cX7_quarrels 19 = .ok (.iconst (-1), 1) := by decide +kernel
theorem dX7_quarrels_20 : decode cX7_quarrels 20 = .ok (.ireturn, 1) := by decide +kernel
theorem dX7_piece_0 : decode cX7_piece 0 = .ok (.iload_n 1, 1) := by decide +kernel
theorem dX7_piece_1 : decode cX7_piece 1 = .ok (.iconst 0, 1) := by decide +kernel
theorem dX7_piece_2 : decode cX7_piece 2 = .ok (.bipush 99, 2) := by decide +kernel
theorem dX7_piece_4 : decode cX7_piece 4 = .ok (.invokestatic 50, 3) := by decide +kernel
theorem dX7_piece_7 : decode cX7_piece 7 = .ok (.ifCond .eq 13, 3) := by decide +kernel
theorem dX7_piece_10 : decode cX7_piece 10 = .ok (.iload_n 2, 1) := by decide +kernel
theorem dX7_piece_11 : decode cX7_piece 11 = .ok (.iconst 0, 1) := by decide +kernel
theorem dX7_piece_12 : decode cX7_piece 12 = .ok (.bipush 99, 2) := by decide +kernel
theorem dX7_piece_14 : decode cX7_piece 14 = .ok (.invokestatic 50, 3) := by decide +kernel
theorem dX7_piece_17 : decode cX7_piece 17 = .ok (.ifCond .ne 6, 3) := by decide +kernel
theorem dX7_piece_20 : decode cX7_piece 20 = .ok (.bipush (-2), 2) := by decide +kernel
theorem dX7_piece_22 : decode cX7_piece 22 = .ok (.ireturn, 1) := by decide +kernel
theorem dX7_piece_23 : decode cX7_piece 23 = .ok (.aload_n 0, 1) := by decide +kernel
theorem dX7_piece_24 : decode cX7_piece 24 = .ok (.getfield 39, 3) := by decide +kernel
theorem dX7_piece_27 : decode cX7_piece 27 = .ok (.invokevirtual 160, 3) := by decide +kernel
theorem dX7_piece_30 : decode cX7_piece 30 = .ok (.ifCond .eq 8, 3) := by decide +kernel
theorem dX7_piece_33 : decode cX7_piece 33 = .ok (.bipush (-4), 2) := by decide +kernel
theorem dX7_piece_35 : decode cX7_piece 35 = .ok (.goto 12, 3) := by decide +kernel
theorem dX7_piece_38 : decode cX7_piece 38 = .ok (.aload_n 0, 1) := by decide +kernel
theorem dX7_piece_39 : decode cX7_piece 39 = .ok (.getfield 39, 3) := by decide +kernel
theorem dX7_piece_42 : decode cX7_piece 42 = .ok (.iload_n 1, 1) := by decide +kernel
theorem dX7_piece_43 : decode cX7_piece 43 = .ok (.iload_n 2, 1) := by decide +kernel
theorem dX7_piece_44 : decode cX7_piece 44 = .ok (.invokevirtual 161, 3) := by decide +kernel
theorem dX7_piece_47 : decode cX7_piece 47 = .ok (.ireturn, 1) := by decide +kernel
theorem dX7_sweep_0 : decode cX7_sweep 0 = .ok (.aload_n 0, 1) := by decide +kernel
theorem dX7_sweep_1 : decode cX7_sweep 1 = .ok (.getfield 39, 3) := by decide +kernel
theorem dX7_sweep_4 : decode cX7_sweep 4 = .ok (.invokevirtual 163, 3) := by decide +kernel
theorem dX7_sweep_7 : decode cX7_sweep 7 = .ok (.ireturn, 1) := by decide +kernel
theorem dX7_tolerance_0 : decode cX7_tolerance 0 = .ok (.iload_n 1, 1) := by decide +kernel
theorem dX7_tolerance_1 : decode cX7_tolerance 1 = .ok (.iconst 0, 1) := by decide +kernel
theorem dX7_tolerance_2 : decode cX7_tolerance 2 = .ok (.bipush 99, 2) := by decide +kernel
theorem dX7_tolerance_4 : decode cX7_tolerance 4 = .ok (.invokestatic 50, 3) := by decide +kernel
theorem dX7_tolerance_7 : decode cX7_tolerance 7 = .ok (.ifCond .ne 6, 3) := by decide +kernel
theorem dX7_tolerance_10 : decode cX7_tolerance 10 = .ok (.bipush (-2), 2) := by decide +kernel
theorem dX7_tolerance_12 : decode cX7_tolerance 12 = .ok (.ireturn, 1) := by decide +kernel
theorem dX7_tolerance_13 : decode cX7_tolerance 13 = .ok (.aload_n 0, 1) := by decide +kernel
theorem dX7_tolerance_14 : decode cX7_tolerance 14 = .ok (.getfield 39, 3) := by decide +kernel
theorem dX7_tolerance_17 : decode cX7_tolerance 17 = .ok (.getfield 167, 3) := by decide +kernel
theorem dX7_tolerance_20 : decode cX7_tolerance 20 = .ok (.istore_n 2, 1) := by decide +kernel
theorem dX7_tolerance_21 : decode cX7_tolerance 21 = .ok (.aload_n 0, 1) := by decide +kernel
theorem dX7_tolerance_22 : decode cX7_tolerance 22 = .ok (.getfield 39, 3) := by decide +kernel
theorem dX7_tolerance_25 : decode cX7_tolerance 25 = .ok (.iload_n 1, 1) := by decide +kernel
theorem dX7_tolerance_26 : decode cX7_tolerance 26 = .ok (.putfield 167, 3) := by decide +kernel
theorem dX7_tolerance_29 : decode cX7_tolerance 29 = .ok (.iload_n 2, 1) := by decide +kernel
theorem dX7_tolerance_30 : decode cX7_tolerance 30 = .ok (.ireturn, 1) := by decide +kernel
theorem dX7_rows_0 : decode cX7_rows 0 = .ok (.aload_n 0, 1) := by decide +kernel
theorem dX7_rows_1 : decode cX7_rows 1 = .ok (.getfield 39, 3) := by decide +kernel
theorem dX7_rows_4 : decode cX7_rows 4 = .ok (.invokevirtual 170, 3) := by decide +kernel
theorem dX7_rows_7 : decode cX7_rows 7 = .ok (.ireturn, 1) := by decide +kernel
theorem dX7_misfit_0 : decode cX7_misfit 0 = .ok (.aload_n 0, 1) := by decide +kernel
theorem dX7_misfit_1 : decode cX7_misfit 1 = .ok (.getfield 39, 3) := by decide +kernel
theorem dX7_misfit_4 : decode cX7_misfit 4 = .ok (.invokevirtual 173, 3) := by decide +kernel
theorem dX7_misfit_7 : decode cX7_misfit 7 = .ok (.ireturn, 1) := by decide +kernel
theorem dX7_inRow_0 : decode cX7_inRow 0 = .ok (.aload_n 0, 1) := by decide +kernel
theorem dX7_inRow_1 : decode cX7_inRow 1 = .ok (.getfield 39, 3) := by decide +kernel
theorem dX7_inRow_4 : decode cX7_inRow 4 = .ok (.iload_n 1, 1) := by decide +kernel
theorem dX7_inRow_5 : decode cX7_inRow 5 = .ok (.invokevirtual 176, 3) := by decide +kernel
theorem dX7_inRow_8 : decode cX7_inRow 8 = .ok (.ireturn, 1) := by decide +kernel
theorem dX7_sung_0 : decode cX7_sung 0 = .ok (.aload_n 0, 1) := by decide +kernel
theorem dX7_sung_1 : decode cX7_sung 1 = .ok (.iload_n 1, 1) := by decide +kernel
theorem dX7_sung_2 : decode cX7_sung 2 = .ok (.invokevirtual 57, 3) := by decide +kernel
theorem dX7_sung_5 : decode cX7_sung 5 = .ok (.ifCond .eq 10, 3) := by decide +kernel
theorem dX7_sung_8 : decode cX7_sung 8 = .ok (.iload_n 3, 1) := by decide +kernel
theorem dX7_sung_9 : decode cX7_sung 9 = .ok (.invokestatic 179, 3) := by decide +kernel
theorem dX7_sung_12 : decode cX7_sung 12 = .ok (.ifCond .ne 5, 3) := by decide +kernel
theorem dX7_sung_15 : decode cX7_sung 15 = .ok (.iconst (-1), 1) := by decide +kernel
theorem dX7_sung_16 : decode cX7_sung 16 = .ok (.ireturn, 1) := by decide +kernel
theorem dX7_sung_17 : decode cX7_sung 17 = .ok (.iload_n 2, 1) := by decide +kernel
theorem dX7_sung_18 : decode cX7_sung 18 = .ok (.iconst 0, 1) := by decide +kernel
theorem dX7_sung_19 : decode cX7_sung 19 = .ok (.sipush 255, 3) := by decide +kernel
theorem dX7_sung_22 : decode cX7_sung 22 = .ok (.invokestatic 50, 3) := by decide +kernel
theorem dX7_sung_25 : decode cX7_sung 25 = .ok (.ifCond .ne 6, 3) := by decide +kernel
theorem dX7_sung_28 : decode cX7_sung 28 = .ok (.bipush (-2), 2) := by decide +kernel
theorem dX7_sung_30 : decode cX7_sung 30 = .ok (.ireturn, 1) := by decide +kernel
theorem dX7_sung_31 : decode cX7_sung 31 = .ok (.aload_n 0, 1) := by decide +kernel
theorem dX7_sung_32 : decode cX7_sung 32 = .ok (.getfield 11, 3) := by decide +kernel
theorem dX7_sung_35 : decode cX7_sung 35 = .ok (.iload_n 1, 1) := by decide +kernel
theorem dX7_sung_36 : decode cX7_sung 36 = .ok (.aaload, 1) := by decide +kernel
theorem dX7_sung_37 : decode cX7_sung 37 = .ok (.getfield 182, 3) := by decide +kernel
theorem dX7_sung_40 : decode cX7_sung 40 = .ok (.istore 4, 2) := by decide +kernel
theorem dX7_sung_42 : decode cX7_sung 42 = .ok (.aload_n 0, 1) := by decide +kernel
theorem dX7_sung_43 : decode cX7_sung 43 = .ok (.getfield 11, 3) := by decide +kernel
theorem dX7_sung_46 : decode cX7_sung 46 = .ok (.iload_n 1, 1) := by decide +kernel
theorem dX7_sung_47 : decode cX7_sung 47 = .ok (.aaload, 1) := by decide +kernel
theorem dX7_sung_48 : decode cX7_sung 48 = .ok (.iload_n 2, 1) := by decide +kernel
theorem dX7_sung_49 : decode cX7_sung 49 = .ok (.putfield 182, 3) := by decide +kernel
theorem dX7_sung_52 : decode cX7_sung 52 = .ok (.aload_n 0, 1) := by decide +kernel
theorem dX7_sung_53 : decode cX7_sung 53 = .ok (.getfield 11, 3) := by decide +kernel
theorem dX7_sung_56 : decode cX7_sung 56 = .ok (.iload_n 1, 1) := by decide +kernel
theorem dX7_sung_57 : decode cX7_sung 57 = .ok (.aaload, 1) := by decide +kernel
theorem dX7_sung_58 : decode cX7_sung 58 = .ok (.iload_n 3, 1) := by decide +kernel
theorem dX7_sung_59 : decode cX7_sung 59 = .ok (.putfield 185, 3) := by decide +kernel
theorem dX7_sung_62 : decode cX7_sung 62 = .ok (.iload 4, 2) := by decide +kernel
theorem dX7_sung_64 : decode cX7_sung 64 = .ok (.ireturn, 1) := by decide +kernel
theorem dX7_text_0 : decode cX7_text 0 = .ok (.iload_n 2, 1) := by decide +kernel
theorem dX7_text_1 : decode cX7_text 1 = .ok (.bipush (-9), 2) := by decide +kernel
theorem dX7_text_3 : decode cX7_text 3 = .ok (.if_icmp .eq 10, 3) := by decide +kernel
theorem dX7_text_6 : decode cX7_text 6 = .ok (.iload_n 2, 1) := by decide +kernel
theorem dX7_text_7 : decode cX7_text 7 = .ok (.invokestatic 179, 3) := by decide +kernel
theorem dX7_text_10 : decode cX7_text 10 = .ok (.ifCond .eq 7, 3) := by decide +kernel
theorem dX7_text_13 : decode cX7_text 13 = .ok (.iconst 1, 1) := by decide +kernel
theorem dX7_text_14 : decode cX7_text 14 = .ok (.goto 4, 3) := by decide +kernel
theorem dX7_text_17 : decode cX7_text 17 = .ok (.iconst 0, 1) := by decide +kernel
theorem dX7_text_18 : decode cX7_text 18 = .ok (.istore 6, 2) := by decide +kernel
theorem dX7_text_20 : decode cX7_text 20 = .ok (.iload_n 3, 1) := by decide +kernel
theorem dX7_text_21 : decode cX7_text 21 = .ok (.bipush (-9), 2) := by decide +kernel
theorem dX7_text_23 : decode cX7_text 23 = .ok (.if_icmp .eq 10, 3) := by decide +kernel
theorem dX7_text_26 : decode cX7_text 26 = .ok (.iload_n 3, 1) := by decide +kernel
theorem dX7_text_27 : decode cX7_text 27 = .ok (.invokestatic 188, 3) := by decide +kernel
theorem dX7_text_30 : decode cX7_text 30 = .ok (.ifCond .eq 7, 3) := by decide +kernel
theorem dX7_text_33 : decode cX7_text 33 = .ok (.iconst 1, 1) := by decide +kernel
theorem dX7_text_34 : decode cX7_text 34 = .ok (.goto 4, 3) := by decide +kernel
theorem dX7_text_37 : decode cX7_text 37 = .ok (.iconst 0, 1) := by decide +kernel
theorem dX7_text_38 : decode cX7_text 38 = .ok (.istore 7, 2) := by decide +kernel
theorem dX7_text_40 : decode cX7_text 40 = .ok (.iload_n 1, 1) := by decide +kernel
theorem dX7_text_41 : decode cX7_text 41 = .ok (.invokestatic 191, 3) := by decide +kernel
theorem dX7_text_44 : decode cX7_text 44 = .ok (.ifCond .eq 13, 3) := by decide +kernel
theorem dX7_text_47 : decode cX7_text 47 = .ok (.iload 6, 2) := by decide +kernel
theorem dX7_text_49 : decode cX7_text 49 = .ok (.ifCond .eq 8, 3) := by decide +kernel
theorem dX7_text_52 : decode cX7_text 52 = .ok (.iload 7, 2) := by decide +kernel
theorem dX7_text_54 : decode cX7_text 54 = .ok (.ifCond .ne 5, 3) := by decide +kernel
theorem dX7_text_57 : decode cX7_text 57 = .ok (.iconst (-1), 1) := by decide +kernel
theorem dX7_text_58 : decode cX7_text 58 = .ok (.ireturn, 1) := by decide +kernel
theorem dX7_text_59 : decode cX7_text 59 = .ok (.iload 4, 2) := by decide +kernel
theorem dX7_text_61 : decode cX7_text 61 = .ok (.invokestatic 194, 3) := by decide +kernel
theorem dX7_text_64 : decode cX7_text 64 = .ok (.ifCond .ne 6, 3) := by decide +kernel
theorem dX7_text_67 : decode cX7_text 67 = .ok (.bipush (-2), 2) := by decide +kernel
theorem dX7_text_69 : decode cX7_text 69 = .ok (.ireturn, 1) := by decide +kernel
theorem dX7_text_70 : decode cX7_text 70 = .ok (.aload_n 0, 1) := by decide +kernel
theorem dX7_text_71 : decode cX7_text 71 = .ok (.getfield 46, 3) := by decide +kernel
theorem dX7_text_74 : decode cX7_text 74 = .ok (.invokevirtual 197, 3) := by decide +kernel
theorem dX7_text_77 : decode cX7_text 77 = .ok (.ifCond .eq 8, 3) := by decide +kernel
theorem dX7_text_80 : decode cX7_text 80 = .ok (.bipush (-4), 2) := by decide +kernel
theorem dX7_text_82 : decode cX7_text 82 = .ok (.goto 20, 3) := by decide +kernel
theorem dX7_text_85 : decode cX7_text 85 = .ok (.aload_n 0, 1) := by decide +kernel
theorem dX7_text_86 : decode cX7_text 86 = .ok (.getfield 46, 3) := by decide +kernel
theorem dX7_text_89 : decode cX7_text 89 = .ok (.iload_n 1, 1) := by decide +kernel
theorem dX7_text_90 : decode cX7_text 90 = .ok (.iload_n 2, 1) := by decide +kernel
theorem dX7_text_91 : decode cX7_text 91 = .ok (.invokestatic 198, 3) := by decide +kernel
theorem dX7_text_94 : decode cX7_text 94 = .ok (.iload_n 3, 1) := by decide +kernel
theorem dX7_text_95 : decode cX7_text 95 = .ok (.iload 4, 2) := by decide +kernel
theorem dX7_text_97 : decode cX7_text 97 = .ok (.iload 5, 2) := by decide +kernel
theorem dX7_text_99 : decode cX7_text 99 = .ok (.invokevirtual 201, 3) := by decide +kernel
theorem dX7_text_102 : decode cX7_text 102 = .ok (.ireturn, 1) := by decide +kernel
theorem dX7_counts_0 : decode cX7_counts 0 = .ok (.iload_n 1, 1) := by decide +kernel
theorem dX7_counts_1 : decode cX7_counts 1 = .ok (.invokestatic 191, 3) := by decide +kernel
theorem dX7_counts_4 : decode cX7_counts 4 = .ok (.ifCond .eq 17, 3) := by decide +kernel
theorem dX7_counts_7 : decode cX7_counts 7 = .ok (.iload_n 2, 1) := by decide +kernel
theorem dX7_counts_8 : decode cX7_counts 8 = .ok (.invokestatic 179, 3) := by decide +kernel
theorem dX7_counts_11 : decode cX7_counts 11 = .ok (.ifCond .eq 10, 3) := by decide +kernel
theorem dX7_counts_14 : decode cX7_counts 14 = .ok (.iload_n 3, 1) := by decide +kernel
theorem dX7_counts_15 : decode cX7_counts 15 = .ok (.invokestatic 188, 3) := by decide +kernel
theorem dX7_counts_18 : decode cX7_counts 18 = .ok (.ifCond .ne 5, 3) := by decide +kernel
theorem dX7_counts_21 : decode cX7_counts 21 = .ok (.iconst (-1), 1) := by decide +kernel
theorem dX7_counts_22 : decode cX7_counts 22 = .ok (.ireturn, 1) := by decide +kernel
theorem dX7_counts_23 : decode cX7_counts 23 = .ok (.iload 4, 2) := by decide +kernel
theorem dX7_counts_25 : decode cX7_counts 25 = .ok (.invokestatic 194, 3) := by decide +kernel
theorem dX7_counts_28 : decode cX7_counts 28 = .ok (.ifCond .eq 21, 3) := by decide +kernel
theorem dX7_counts_31 : decode cX7_counts 31 = .ok (.aload_n 0, 1) := by decide +kernel
theorem dX7_counts_32 : decode cX7_counts 32 = .ok (.getfield 46, 3) := by decide +kernel
theorem dX7_counts_35 : decode cX7_counts 35 = .ok (.iload_n 1, 1) := by decide +kernel
theorem dX7_counts_36 : decode cX7_counts 36 = .ok (.iload_n 2, 1) := by decide +kernel
theorem dX7_counts_37 : decode cX7_counts 37 = .ok (.invokestatic 198, 3) := by decide +kernel
theorem dX7_counts_40 : decode cX7_counts 40 = .ok (.iload_n 3, 1) := by decide +kernel
theorem dX7_counts_41 : decode cX7_counts 41 = .ok (.iload 4, 2) := by decide +kernel
theorem dX7_counts_43 : decode cX7_counts 43 = .ok (.invokevirtual 204, 3) := by decide +kernel
theorem dX7_counts_46 : decode cX7_counts 46 = .ok (.goto 5, 3) := by decide +kernel
theorem dX7_counts_49 : decode cX7_counts 49 = .ok (.bipush (-2), 2) := by decide +kernel
theorem dX7_counts_51 : decode cX7_counts 51 = .ok (.ireturn, 1) := by decide +kernel
theorem dX7_may_0 : decode cX7_may 0 = .ok (.aload_n 0, 1) := by decide +kernel
theorem dX7_may_1 : decode cX7_may 1 = .ok (.iload_n 1, 1) := by decide +kernel
theorem dX7_may_2 : decode cX7_may 2 = .ok (.invokevirtual 57, 3) := by decide +kernel
theorem dX7_may_5 : decode cX7_may 5 = .ok (.ifCond .eq 10, 3) := by decide +kernel
theorem dX7_may_8 : decode cX7_may 8 = .ok (.iload_n 2, 1) := by decide +kernel
theorem dX7_may_9 : decode cX7_may 9 = .ok (.invokestatic 188, 3) := by decide +kernel
theorem dX7_may_12 : decode cX7_may 12 = .ok (.ifCond .ne 5, 3) := by decide +kernel
theorem dX7_may_15 : decode cX7_may 15 = .ok (.iconst (-1), 1) := by decide +kernel
theorem dX7_may_16 : decode cX7_may 16 = .ok (.ireturn, 1) := by decide +kernel
theorem dX7_may_17 : decode cX7_may 17 = .ok (.iload_n 3, 1) := by decide +kernel
theorem dX7_may_18 : decode cX7_may 18 = .ok (.invokestatic 194, 3) := by decide +kernel
theorem dX7_may_21 : decode cX7_may 21 = .ok (.ifCond .ne 6, 3) := by decide +kernel
theorem dX7_may_24 : decode cX7_may 24 = .ok (.bipush (-2), 2) := by decide +kernel
theorem dX7_may_26 : decode cX7_may 26 = .ok (.ireturn, 1) := by decide +kernel
theorem dX7_may_27 : decode cX7_may 27 = .ok (.aload_n 0, 1) := by decide +kernel
theorem dX7_may_28 : decode cX7_may 28 = .ok (.getfield 11, 3) := by decide +kernel
theorem dX7_may_31 : decode cX7_may 31 = .ok (.iload_n 1, 1) := by decide +kernel
theorem dX7_may_32 : decode cX7_may 32 = .ok (.aaload, 1) := by decide +kernel
theorem dX7_may_33 : decode cX7_may 33 = .ok (.aload_n 0, 1) := by decide +kernel
theorem dX7_may_34 : decode cX7_may 34 = .ok (.getfield 46, 3) := by decide +kernel
theorem dX7_may_37 : decode cX7_may 37 = .ok (.iload_n 2, 1) := by decide +kernel
theorem dX7_may_38 : decode cX7_may 38 = .ok (.iload_n 3, 1) := by decide +kernel
theorem dX7_may_39 : decode cX7_may 39 = .ok (.invokevirtual 208, 3) := by decide +kernel
theorem dX7_may_42 : decode cX7_may 42 = .ok (.invokevirtual 211, 3) := by decide +kernel
theorem dX7_may_45 : decode cX7_may 45 = .ok (.ifCond .eq 7, 3) := by decide +kernel
theorem dX7_may_48 : decode cX7_may 48 = .ok (.iconst 1, 1) := by decide +kernel
theorem dX7_may_49 : decode cX7_may 49 = .ok (.goto 4, 3) := by decide +kernel
theorem dX7_may_52 : decode cX7_may 52 = .ok (.iconst 0, 1) := by decide +kernel
theorem dX7_may_53 : decode cX7_may 53 = .ok (.ireturn, 1) := by decide +kernel
theorem dX7_heard_0 : decode cX7_heard 0 = .ok (.iload_n 1, 1) := by decide +kernel
theorem dX7_heard_1 : decode cX7_heard 1 = .ok (.invokestatic 188, 3) := by decide +kernel
theorem dX7_heard_4 : decode cX7_heard 4 = .ok (.ifCond .ne 5, 3) := by decide +kernel
theorem dX7_heard_7 : decode cX7_heard 7 = .ok (.iconst (-1), 1) := by decide +kernel
theorem dX7_heard_8 : decode cX7_heard 8 = .ok (.ireturn, 1) := by decide +kernel
theorem dX7_heard_9 : decode cX7_heard 9 = .ok (.iload_n 2, 1) := by decide +kernel
theorem dX7_heard_10 : decode cX7_heard 10 = .ok (.invokestatic 194, 3) := by decide +kernel
theorem dX7_heard_13 : decode cX7_heard 13 = .ok (.ifCond .ne 6, 3) := by decide +kernel
theorem dX7_heard_16 : decode cX7_heard 16 = .ok (.bipush (-2), 2) := by decide +kernel
theorem dX7_heard_18 : decode cX7_heard 18 = .ok (.ireturn, 1) := by decide +kernel
theorem dX7_heard_19 : decode cX7_heard 19 = .ok (.aload_n 0, 1) := by decide +kernel
theorem dX7_heard_20 : decode cX7_heard 20 = .ok (.getfield 46, 3) := by decide +kernel
theorem dX7_heard_23 : decode cX7_heard 23 = .ok (.iload_n 1, 1) := by decide +kernel
theorem dX7_heard_24 : decode cX7_heard 24 = .ok (.iload_n 2, 1) := by decide +kernel
theorem dX7_heard_25 : decode cX7_heard 25 = .ok (.invokevirtual 208, 3) := by decide +kernel
theorem dX7_heard_28 : decode cX7_heard 28 = .ok (.istore_n 3, 1) := by decide +kernel
theorem dX7_heard_29 : decode cX7_heard 29 = .ok (.iconst 0, 1) := by decide +kernel
theorem dX7_heard_30 : decode cX7_heard 30 = .ok (.istore 4, 2) := by decide +kernel
theorem dX7_heard_32 : decode cX7_heard 32 = .ok (.iconst 0, 1) := by decide +kernel
theorem dX7_heard_33 : decode cX7_heard 33 = .ok (.istore 5, 2) := by decide +kernel
theorem dX7_heard_35 : decode cX7_heard 35 = .ok (.iload 5, 2) := by decide +kernel
theorem dX7_heard_37 : decode cX7_heard 37 = .ok (.aload_n 0, 1) := by decide +kernel
theorem dX7_heard_38 : decode cX7_heard 38 = .ok (.getfield 15, 3) := by decide +kernel
theorem dX7_heard_41 : decode cX7_heard 41 = .ok (.if_icmp .ge 32, 3) := by decide +kernel
theorem dX7_heard_44 : decode cX7_heard 44 = .ok (.aload_n 0, 1) := by decide +kernel
theorem dX7_heard_45 : decode cX7_heard 45 = .ok (.getfield 11, 3) := by decide +kernel
theorem dX7_heard_48 : decode cX7_heard 48 = .ok (.iload 5, 2) := by decide +kernel
theorem dX7_heard_50 : decode cX7_heard 50 = .ok (.aaload, 1) := by decide +kernel
theorem dX7_heard_51 : decode cX7_heard 51 = .ok (.iload_n 3, 1) := by decide +kernel
theorem dX7_heard_52 : decode cX7_heard 52 = .ok (.invokevirtual 211, 3) := by decide +kernel
theorem dX7_heard_55 : decode cX7_heard 55 = .ok (.ifCond .eq 12, 3) := by decide +kernel
theorem dX7_heard_58 : decode cX7_heard 58 = .ok (.iload 4, 2) := by decide +kernel
theorem dX7_heard_60 : decode cX7_heard 60 = .ok (.iconst 1, 1) := by decide +kernel
theorem dX7_heard_61 : decode cX7_heard 61 = .ok (.iload 5, 2) := by decide +kernel
theorem dX7_heard_63 : decode cX7_heard 63 = .ok (.ishl, 1) := by decide +kernel
theorem dX7_heard_64 : decode cX7_heard 64 = .ok (.ior, 1) := by decide +kernel
theorem dX7_heard_65 : decode cX7_heard 65 = .ok (.istore 4, 2) := by decide +kernel
theorem dX7_heard_67 : decode cX7_heard 67 = .ok (.iinc 5 1, 3) := by decide +kernel
theorem dX7_heard_70 : decode cX7_heard 70 = .ok (.goto (-35), 3) := by decide +kernel
theorem dX7_heard_73 : decode cX7_heard 73 = .ok (.iload 4, 2) := by decide +kernel
theorem dX7_heard_75 : decode cX7_heard 75 = .ok (.ireturn, 1) := by decide +kernel
theorem dX7_days_0 : decode cX7_days 0 = .ok (.aload_n 0, 1) := by decide +kernel
theorem dX7_days_1 : decode cX7_days 1 = .ok (.iload_n 1, 1) := by decide +kernel
theorem dX7_days_2 : decode cX7_days 2 = .ok (.invokevirtual 121, 3) := by decide +kernel
theorem dX7_days_5 : decode cX7_days 5 = .ok (.ifCond .eq 10, 3) := by decide +kernel
theorem dX7_days_8 : decode cX7_days 8 = .ok (.iload_n 2, 1) := by decide +kernel
theorem dX7_days_9 : decode cX7_days 9 = .ok (.invokestatic 188, 3) := by decide +kernel
theorem dX7_days_12 : decode cX7_days 12 = .ok (.ifCond .ne 5, 3) := by decide +kernel
theorem dX7_days_15 : decode cX7_days 15 = .ok (.iconst (-1), 1) := by decide +kernel
theorem dX7_days_16 : decode cX7_days 16 = .ok (.ireturn, 1) := by decide +kernel
theorem dX7_days_17 : decode cX7_days 17 = .ok (.iload_n 3, 1) := by decide +kernel
theorem dX7_days_18 : decode cX7_days 18 = .ok (.invokestatic 194, 3) := by decide +kernel
theorem dX7_days_21 : decode cX7_days 21 = .ok (.ifCond .eq 17, 3) := by decide +kernel
theorem dX7_days_24 : decode cX7_days 24 = .ok (.iload 4, 2) := by decide +kernel
theorem dX7_days_26 : decode cX7_days 26 = .ok (.invokestatic 194, 3) := by decide +kernel
theorem dX7_days_29 : decode cX7_days 29 = .ok (.ifCond .eq 9, 3) := by decide +kernel
theorem dX7_days_32 : decode cX7_days 32 = .ok (.iload 4, 2) := by decide +kernel
theorem dX7_days_34 : decode cX7_days 34 = .ok (.iload_n 3, 1) := by decide +kernel
theorem dX7_days_35 : decode cX7_days 35 = .ok (.if_icmp .ge 6, 3) := by decide +kernel
theorem dX7_days_38 : decode cX7_days 38 = .ok (.bipush (-2), 2) := by decide +kernel
theorem dX7_days_40 : decode cX7_days 40 = .ok (.ireturn, 1) := by decide +kernel
theorem dX7_days_41 : decode cX7_days 41 = .ok (.iconst 0, 1) := by decide +kernel
theorem dX7_days_42 : decode cX7_days 42 = .ok (.istore 5, 2) := by decide +kernel
theorem dX7_days_44 : decode cX7_days 44 = .ok (.iconst 0, 1) := by decide +kernel
theorem dX7_days_45 : decode cX7_days 45 = .ok (.istore 6, 2) := by decide +kernel
theorem dX7_days_47 : decode cX7_days 47 = .ok (.iload 6, 2) := by decide +kernel
theorem dX7_days_49 : decode cX7_days 49 = .ok (.aload_n 0, 1) := by decide +kernel
theorem dX7_days_50 : decode cX7_days 50 = .ok (.getfield 15, 3) := by decide +kernel
theorem dX7_days_53 : decode cX7_days 53 = .ok (.if_icmp .ge 33, 3) := by decide +kernel
theorem dX7_days_56 : decode cX7_days 56 = .ok (.iload_n 1, 1) := by decide +kernel
theorem dX7_days_57 : decode cX7_days 57 = .ok (.iload 6, 2) := by decide +kernel
theorem dX7_days_59 : decode cX7_days 59 = .ok (.invokestatic 104, 3) := by decide +kernel
theorem dX7_days_62 : decode cX7_days 62 = .ok (.ifCond .eq 18, 3) := by decide +kernel
theorem dX7_days_65 : decode cX7_days 65 = .ok (.iload 5, 2) := by decide +kernel
theorem dX7_days_67 : decode cX7_days 67 = .ok (.aload_n 0, 1) := by decide +kernel
theorem dX7_days_68 : decode cX7_days 68 = .ok (.getfield 11, 3) := by decide +kernel
theorem dX7_days_71 : decode cX7_days 71 = .ok (.iload 6, 2) := by decide +kernel
theorem dX7_days_73 : decode cX7_days 73 = .ok (.aaload, 1) := by decide +kernel
theorem dX7_days_74 : decode cX7_days 74 = .ok (.invokevirtual 214, 3) := by decide +kernel
theorem dX7_days_77 : decode cX7_days 77 = .ok (.ior, 1) := by decide +kernel
theorem dX7_days_78 : decode cX7_days 78 = .ok (.istore 5, 2) := by decide +kernel
theorem dX7_days_80 : decode cX7_days 80 = .ok (.iinc 6 1, 3) := by decide +kernel
theorem dX7_days_83 : decode cX7_days 83 = .ok (.goto (-36), 3) := by decide +kernel
theorem dX7_days_86 : decode cX7_days 86 = .ok (.aload_n 0, 1) := by decide +kernel
theorem dX7_days_87 : decode cX7_days 87 = .ok (.getfield 46, 3) := by decide +kernel
theorem dX7_days_90 : decode cX7_days 90 = .ok (.iload 5, 2) := by decide +kernel
theorem dX7_days_92 : decode cX7_days 92 = .ok (.iload_n 2, 1) := by decide +kernel
theorem dX7_days_93 : decode cX7_days 93 = .ok (.iload_n 3, 1) := by decide +kernel
theorem dX7_days_94 : decode cX7_days 94 = .ok (.iload 4, 2) := by decide +kernel
theorem dX7_days_96 : decode cX7_days 96 = .ok (.invokevirtual 217, 3) := by decide +kernel
theorem dX7_days_99 : decode cX7_days 99 = .ok (.ireturn, 1) := by decide +kernel
theorem dX7_askedBy_0 : decode cX7_askedBy 0 = .ok (.iload_n 1, 1) := by decide +kernel
theorem dX7_askedBy_1 : decode cX7_askedBy 1 = .ok (.bipush (-9), 2) := by decide +kernel
theorem dX7_askedBy_3 : decode cX7_askedBy 3 = .ok (.if_icmp .eq 12, 3) := by decide +kernel
theorem dX7_askedBy_6 : decode cX7_askedBy 6 = .ok (.iconst 1, 1) := by decide +kernel
theorem dX7_askedBy_7 : decode cX7_askedBy 7 = .ok (.iload_n 1, 1) := by decide +kernel
theorem dX7_askedBy_8 : decode cX7_askedBy 8 = .ok (.bipush 8, 2) := by decide +kernel
theorem dX7_askedBy_10 : decode cX7_askedBy 10 = .ok (.imul, 1) := by decide +kernel
theorem dX7_askedBy_11 : decode cX7_askedBy 11 = .ok (.iload_n 0, 1) := by decide +kernel
theorem dX7_askedBy_12 : decode cX7_askedBy 12 = .ok (.iadd, 1) := by decide +kernel
theorem dX7_askedBy_13 : decode cX7_askedBy 13 = .ok (.ishl, 1) := by decide +kernel
theorem dX7_askedBy_14 : decode cX7_askedBy 14 = .ok (.ireturn, 1) := by decide +kernel
theorem dX7_askedBy_15 : decode cX7_askedBy 15 = .ok (.iconst 0, 1) := by decide +kernel
theorem dX7_askedBy_16 : decode cX7_askedBy 16 = .ok (.istore_n 2, 1) := by decide +kernel
theorem dX7_askedBy_17 : decode cX7_askedBy 17 = .ok (.iconst 0, 1) := by decide +kernel
theorem dX7_askedBy_18 : decode cX7_askedBy 18 = .ok (.istore_n 3, 1) := by decide +kernel
theorem dX7_askedBy_19 : decode cX7_askedBy 19 = .ok (.iload_n 3, 1) := by decide +kernel
theorem dX7_askedBy_20 : decode cX7_askedBy 20 = .ok (.iconst 4, 1) := by decide +kernel
theorem dX7_askedBy_21 : decode cX7_askedBy 21 = .ok (.if_icmp .ge 20, 3) := by decide +kernel
theorem dX7_askedBy_24 : decode cX7_askedBy 24 = .ok (.iload_n 2, 1) := by decide +kernel
theorem dX7_askedBy_25 : decode cX7_askedBy 25 = .ok (.iconst 1, 1) := by decide +kernel
theorem dX7_askedBy_26 : decode cX7_askedBy 26 = .ok (.iload_n 3, 1) := by decide +kernel
theorem dX7_askedBy_27 : decode cX7_askedBy 27 = .ok (.bipush 8, 2) := by decide +kernel
theorem dX7_askedBy_29 : decode cX7_askedBy 29 = .ok (.imul, 1) := by decide +kernel
theorem dX7_askedBy_30 : decode cX7_askedBy 30 = .ok (.iload_n 0, 1) := by decide +kernel
theorem dX7_askedBy_31 : decode cX7_askedBy 31 = .ok (.iadd, 1) := by decide +kernel
theorem dX7_askedBy_32 : decode cX7_askedBy 32 = .ok (.ishl, 1) := by decide +kernel
theorem dX7_askedBy_33 : decode cX7_askedBy 33 = .ok (.ior, 1) := by decide +kernel
theorem dX7_askedBy_34 : decode cX7_askedBy 34 = .ok (.istore_n 2, 1) := by decide +kernel
theorem dX7_askedBy_35 : decode cX7_askedBy 35 = .ok (.iinc 3 1, 3) := by decide +kernel
theorem dX7_askedBy_38 : decode cX7_askedBy 38 = .ok (.goto (-19), 3) := by decide +kernel
theorem dX7_askedBy_41 : decode cX7_askedBy 41 = .ok (.iload_n 2, 1) := by decide +kernel
theorem dX7_askedBy_42 : decode cX7_askedBy 42 = .ok (.ireturn, 1) := by decide +kernel
theorem dX7_copy_0 : decode cX7_copy 0 = .ok (.aload_n 0, 1) := by decide +kernel
theorem dX7_copy_1 : decode cX7_copy 1 = .ok (.iload_n 1, 1) := by decide +kernel
theorem dX7_copy_2 : decode cX7_copy 2 = .ok (.invokevirtual 57, 3) := by decide +kernel
theorem dX7_copy_5 : decode cX7_copy 5 = .ok (.ifCond .eq 17, 3) := by decide +kernel
theorem dX7_copy_8 : decode cX7_copy 8 = .ok (.iload_n 2, 1) := by decide +kernel
theorem dX7_copy_9 : decode cX7_copy 9 = .ok (.bipush (-9), 2) := by decide +kernel
theorem dX7_copy_11 : decode cX7_copy 11 = .ok (.if_icmp .eq 13, 3) := by decide +kernel
theorem dX7_copy_14 : decode cX7_copy 14 = .ok (.aload_n 0, 1) := by decide +kernel
theorem dX7_copy_15 : decode cX7_copy 15 = .ok (.iload_n 2, 1) := by decide +kernel
theorem dX7_copy_16 : decode cX7_copy 16 = .ok (.invokevirtual 57, 3) := by decide +kernel
theorem dX7_copy_19 : decode cX7_copy 19 = .ok (.ifCond .ne 5, 3) := by decide +kernel
theorem dX7_copy_22 : decode cX7_copy 22 = .ok (.iconst (-1), 1) := by decide +kernel
theorem dX7_copy_23 : decode cX7_copy 23 = .ok (.ireturn, 1) := by decide +kernel
theorem dX7_copy_24 : decode cX7_copy 24 = .ok (.aload_n 0, 1) := by decide +kernel
theorem dX7_copy_25 : decode cX7_copy 25 = .ok (.iload_n 2, 1) := by decide +kernel
theorem dX7_copy_26 : decode cX7_copy 26 = .ok (.iload_n 1, 1) := by decide +kernel
theorem dX7_copy_27 : decode cX7_copy 27 = .ok (.invokevirtual 220, 3) := by decide +kernel
theorem dX7_copy_30 : decode cX7_copy 30 = .ok (.bipush (-9), 2) := by decide +kernel
theorem dX7_copy_32 : decode cX7_copy 32 = .ok (.if_icmp .eq 6, 3) := by decide +kernel
theorem dX7_copy_35 : decode cX7_copy 35 = .ok (.bipush (-3), 2) := by decide +kernel
theorem dX7_copy_37 : decode cX7_copy 37 = .ok (.ireturn, 1) := by decide +kernel
theorem dX7_copy_38 : decode cX7_copy 38 = .ok (.aload_n 0, 1) := by decide +kernel
theorem dX7_copy_39 : decode cX7_copy 39 = .ok (.getfield 11, 3) := by decide +kernel
theorem dX7_copy_42 : decode cX7_copy 42 = .ok (.iload_n 1, 1) := by decide +kernel
theorem dX7_copy_43 : decode cX7_copy 43 = .ok (.aaload, 1) := by decide +kernel
theorem dX7_copy_44 : decode cX7_copy 44 = .ok (.getfield 85, 3) := by decide +kernel
theorem dX7_copy_47 : decode cX7_copy 47 = .ok (.istore_n 3, 1) := by decide +kernel
theorem dX7_copy_48 : decode cX7_copy 48 = .ok (.aload_n 0, 1) := by decide +kernel
theorem dX7_copy_49 : decode cX7_copy 49 = .ok (.getfield 11, 3) := by decide +kernel
theorem dX7_copy_52 : decode cX7_copy 52 = .ok (.iload_n 1, 1) := by decide +kernel
theorem dX7_copy_53 : decode cX7_copy 53 = .ok (.aaload, 1) := by decide +kernel
theorem dX7_copy_54 : decode cX7_copy 54 = .ok (.iload_n 2, 1) := by decide +kernel
