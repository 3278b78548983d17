theorem dX0_init_0 : decode cX0_init 0 = .ok (.aload_n 0, 1) := by decide +kernel
theorem dX0_init_1 : decode cX0_init 1 = .ok (.invokespecial 3, 3) := by decide +kernel
theorem dX0_init_4 : decode cX0_init 4 = .ok (.aload_n 0, 1) := by decide +kernel
theorem dX0_init_5 : decode cX0_init 5 = .ok (.iconst (-1), 1) := by decide +kernel
theorem dX0_init_6 : decode cX0_init 6 = .ok (.putfield 9, 3) := by decide +kernel
theorem dX0_init_9 : decode cX0_init 9 = .ok (.aload_n 0, 1) := by decide +kernel
theorem dX0_init_10 : decode cX0_init 10 = .ok (.aload_n 1, 1) := by decide +kernel
theorem dX0_init_11 : decode cX0_init 11 = .ok (.putfield 15, 3) := by decide +kernel
theorem dX0_init_14 : decode cX0_init 14 = .ok (.aload_n 0, 1) := by decide +kernel
theorem dX0_init_15 : decode cX0_init 15 = .ok (.aload_n 2, 1) := by decide +kernel
theorem dX0_init_16 : decode cX0_init 16 = .ok (.putfield 19, 3) := by decide +kernel
theorem dX0_init_19 : decode cX0_init 19 = .ok (.aload_n 0, 1) := by decide +kernel
theorem dX0_init_20 : decode cX0_init 20 = .ok (.aload_n 3, 1) := by decide +kernel
theorem dX0_init_21 : decode cX0_init 21 = .ok (.putfield 23, 3) := by decide +kernel
theorem dX0_init_24 : decode cX0_init 24 = .ok (.return_, 1) := by decide +kernel
theorem dX0_goFrom_0 : decode cX0_goFrom 0 = .ok (.aload_n 0, 1) := by decide +kernel
theorem dX0_goFrom_1 : decode cX0_goFrom 1 = .ok (.iconst (-1), 1) := by decide +kernel
theorem dX0_goFrom_2 : decode cX0_goFrom 2 = .ok (.putfield 9, 3) := by decide +kernel
theorem dX0_goFrom_5 : decode cX0_goFrom 5 = .ok (.aload_n 0, 1) := by decide +kernel
theorem dX0_goFrom_6 : decode cX0_goFrom 6 = .ok (.iconst 0, 1) := by decide +kernel
theorem dX0_goFrom_7 : decode cX0_goFrom 7 = .ok (.putfield 27, 3) := by decide +kernel
theorem dX0_goFrom_10 : decode cX0_goFrom 10 = .ok (.iload_n 1, 1) := by decide +kernel
theorem dX0_goFrom_11 : decode cX0_goFrom 11 = .ok (.istore_n 2, 1) := by decide +kernel
theorem dX0_goFrom_12 : decode cX0_goFrom 12 = .ok (.aload_n 0, 1) := by decide +kernel
theorem dX0_goFrom_13 : decode cX0_goFrom 13 = .ok (.getfield 23, 3) := by decide +kernel
theorem dX0_goFrom_16 : decode cX0_goFrom 16 = .ok (.iconst 1, 1) := by decide +kernel
theorem dX0_goFrom_17 : decode cX0_goFrom 17 = .ok (.invokevirtual 32, 3) := by decide +kernel
theorem dX0_goFrom_20 : decode cX0_goFrom 20 = .ok (.istore_n 3, 1) := by decide +kernel
theorem dX0_goFrom_21 : decode cX0_goFrom 21 = .ok (.iconst 1, 1) := by decide +kernel
theorem dX0_goFrom_22 : decode cX0_goFrom 22 = .ok (.istore 4, 2) := by decide +kernel
theorem dX0_goFrom_24 : decode cX0_goFrom 24 = .ok (.iload 4, 2) := by decide +kernel
theorem dX0_goFrom_26 : decode cX0_goFrom 26 = .ok (.iload_n 3, 1) := by decide +kernel
theorem dX0_goFrom_27 : decode cX0_goFrom 27 = .ok (.if_icmp .gt 75, 3) := by decide +kernel
theorem dX0_goFrom_30 : decode cX0_goFrom 30 = .ok (.aload_n 0, 1) := by decide +kernel
theorem dX0_goFrom_31 : decode cX0_goFrom 31 = .ok (.getfield 19, 3) := by decide +kernel
theorem dX0_goFrom_34 : decode cX0_goFrom 34 = .ok (.iload_n 2, 1) := by decide +kernel
theorem dX0_goFrom_35 : decode cX0_goFrom 35 = .ok (.aload_n 0, 1) := by decide +kernel
theorem dX0_goFrom_36 : decode cX0_goFrom 36 = .ok (.getfield 23, 3) := by decide +kernel
theorem dX0_goFrom_39 : decode cX0_goFrom 39 = .ok (.bipush 10, 2) := by decide +kernel
theorem dX0_goFrom_41 : decode cX0_goFrom 41 = .ok (.invokevirtual 32, 3) := by decide +kernel
theorem dX0_goFrom_44 : decode cX0_goFrom 44 = .ok (.iadd, 1) := by decide +kernel
theorem dX0_goFrom_45 : decode cX0_goFrom 45 = .ok (.invokevirtual 36, 3) := by decide +kernel
theorem dX0_goFrom_48 : decode cX0_goFrom 48 = .ok (.istore_n 2, 1) := by decide +kernel
theorem dX0_goFrom_49 : decode cX0_goFrom 49 = .ok (.iload_n 2, 1) := by decide +kernel
theorem dX0_goFrom_50 : decode cX0_goFrom 50 = .ok (.sipush 399, 3) := by decide +kernel
theorem dX0_goFrom_53 : decode cX0_goFrom 53 = .ok (.if_icmp .gt 20, 3) := by decide +kernel
theorem dX0_goFrom_56 : decode cX0_goFrom 56 = .ok (.aload_n 0, 1) := by decide +kernel
theorem dX0_goFrom_57 : decode cX0_goFrom 57 = .ok (.getfield 15, 3) := by decide +kernel
theorem dX0_goFrom_60 : decode cX0_goFrom 60 = .ok (.iload_n 2, 1) := by decide +kernel
theorem dX0_goFrom_61 : decode cX0_goFrom 61 = .ok (.invokevirtual 41, 3) := by decide +kernel
theorem dX0_goFrom_64 : decode cX0_goFrom 64 = .ok (.aload_n 0, 1) := by decide +kernel
theorem dX0_goFrom_65 : decode cX0_goFrom 65 = .ok (.iload 4, 2) := by decide +kernel
theorem dX0_goFrom_67 : decode cX0_goFrom 67 = .ok (.invokevirtual 46, 3) := by decide +kernel
theorem dX0_goFrom_70 : decode cX0_goFrom 70 = .ok (.if_icmp .le 4, 3) := by decide +kernel
theorem dX0_goFrom_73 : decode cX0_goFrom 73 = .ok (.return_, 1) := by decide +kernel
theorem dX0_goFrom_74 : decode cX0_goFrom 74 = .ok (.aload_n 0, 1) := by decide +kernel
theorem dX0_goFrom_75 : decode cX0_goFrom 75 = .ok (.getfield 19, 3) := by decide +kernel
theorem dX0_goFrom_78 : decode cX0_goFrom 78 = .ok (.iload_n 2, 1) := by decide +kernel
theorem dX0_goFrom_79 : decode cX0_goFrom 79 = .ok (.invokevirtual 49, 3) := by decide +kernel
theorem dX0_goFrom_82 : decode cX0_goFrom 82 = .ok (.iconst 2, 1) := by decide +kernel
theorem dX0_goFrom_83 : decode cX0_goFrom 83 = .ok (.if_icmp .ne 13, 3) := by decide +kernel
theorem dX0_goFrom_86 : decode cX0_goFrom 86 = .ok (.aload_n 0, 1) := by decide +kernel
theorem dX0_goFrom_87 : decode cX0_goFrom 87 = .ok (.dup, 1) := by decide +kernel
theorem dX0_goFrom_88 : decode cX0_goFrom 88 = .ok (.getfield 27, 3) := by decide +kernel
theorem dX0_goFrom_91 : decode cX0_goFrom 91 = .ok (.iconst 1, 1) := by decide +kernel
theorem dX0_goFrom_92 : decode cX0_goFrom 92 = .ok (.iadd, 1) := by decide +kernel
theorem dX0_goFrom_93 : decode cX0_goFrom 93 = .ok (.putfield 27, 3) := by decide +kernel
theorem dX0_goFrom_96 : decode cX0_goFrom 96 = .ok (.iinc 4 1, 3) := by decide +kernel
theorem dX0_goFrom_99 : decode cX0_goFrom 99 = .ok (.goto (-75), 3) := by decide +kernel
theorem dX0_goFrom_102 : decode cX0_goFrom 102 = .ok (.aload_n 0, 1) := by decide +kernel
theorem dX0_goFrom_103 : decode cX0_goFrom 103 = .ok (.iload_n 2, 1) := by decide +kernel
theorem dX0_goFrom_104 : decode cX0_goFrom 104 = .ok (.putfield 9, 3) := by decide +kernel
theorem dX0_goFrom_107 : decode cX0_goFrom 107 = .ok (.return_, 1) := by decide +kernel
theorem dX0_rungHeight_0 : decode cX0_rungHeight 0 = .ok (.aload_n 0, 1) := by decide +kernel
theorem dX0_rungHeight_1 : decode cX0_rungHeight 1 = .ok (.getfield 23, 3) := by decide +kernel
theorem dX0_rungHeight_4 : decode cX0_rungHeight 4 = .ok (.iconst 0, 1) := by decide +kernel
theorem dX0_rungHeight_5 : decode cX0_rungHeight 5 = .ok (.invokevirtual 32, 3) := by decide +kernel
theorem dX0_rungHeight_8 : decode cX0_rungHeight 8 = .ok (.iload_n 1, 1) := by decide +kernel
theorem dX0_rungHeight_9 : decode cX0_rungHeight 9 = .ok (.aload_n 0, 1) := by decide +kernel
theorem dX0_rungHeight_10 : decode cX0_rungHeight 10 = .ok (.getfield 23, 3) := by decide +kernel
theorem dX0_rungHeight_13 : decode cX0_rungHeight 13 = .ok (.iconst 2, 1) := by decide +kernel
theorem dX0_rungHeight_14 : decode cX0_rungHeight 14 = .ok (.invokevirtual 32, 3) := by decide +kernel
theorem dX0_rungHeight_17 : decode cX0_rungHeight 17 = .ok (.imul, 1) := by decide +kernel
theorem dX0_rungHeight_18 : decode cX0_rungHeight 18 = .ok (.iadd, 1) := by decide +kernel
theorem dX0_rungHeight_19 : decode cX0_rungHeight 19 = .ok (.ireturn, 1) := by decide +kernel
theorem dX1_init_0 : decode cX1_init 0 = .ok (.aload_n 0, 1) := by decide +kernel
theorem dX1_init_1 : decode cX1_init 1 = .ok (.invokespecial 1, 3) := by decide +kernel
theorem dX1_init_4 : decode cX1_init 4 = .ok (.return_, 1) := by decide +kernel
theorem dX1_draw_0 : decode cX1_draw 0 = .ok (.aload_n 0, 1) := by decide +kernel
theorem dX1_draw_1 : decode cX1_draw 1 = .ok (.ldc 7, 2) := by decide +kernel
theorem dX1_draw_3 : decode cX1_draw 3 = .ok (.aload_n 0, 1) := by decide +kernel
theorem dX1_draw_4 : decode cX1_draw 4 = .ok (.getfield 8, 3) := by decide +kernel
theorem dX1_draw_7 : decode cX1_draw 7 = .ok (.imul, 1) := by decide +kernel
theorem dX1_draw_8 : decode cX1_draw 8 = .ok (.sipush 12345, 3) := by decide +kernel
theorem dX1_draw_11 : decode cX1_draw 11 = .ok (.iadd, 1) := by decide +kernel
theorem dX1_draw_12 : decode cX1_draw 12 = .ok (.putfield 8, 3) := by decide +kernel
theorem dX1_draw_15 : decode cX1_draw 15 = .ok (.iload_n 1, 1) := by decide +kernel
theorem dX1_draw_16 : decode cX1_draw 16 = .ok (.iconst 1, 1) := by decide +kernel
theorem dX1_draw_17 : decode cX1_draw 17 = .ok (.if_icmp .ge 7, 3) := by decide +kernel
theorem dX1_draw_20 : decode cX1_draw 20 = .ok (.iconst 0, 1) := by decide +kernel
theorem dX1_draw_21 : decode cX1_draw 21 = .ok (.goto 12, 3) := by decide +kernel
theorem dX1_draw_24 : decode cX1_draw 24 = .ok (.aload_n 0, 1) := by decide +kernel
theorem dX1_draw_25 : decode cX1_draw 25 = .ok (.getfield 8, 3) := by decide +kernel
theorem dX1_draw_28 : decode cX1_draw 28 = .ok (.bipush 16, 2) := by decide +kernel
theorem dX1_draw_30 : decode cX1_draw 30 = .ok (.iushr, 1) := by decide +kernel
theorem dX1_draw_31 : decode cX1_draw 31 = .ok (.iload_n 1, 1) := by decide +kernel
theorem dX1_draw_32 : decode cX1_draw 32 = .ok (.irem, 1) := by decide +kernel
theorem dX1_draw_33 : decode cX1_draw 33 = .ok (.ireturn, 1) := by decide +kernel
theorem dX2_init_0 : decode cX2_init 0 = .ok (.aload_n 0, 1) := by decide +kernel
theorem dX2_init_1 : decode cX2_init 1 = .ok (.invokespecial 3, 3) := by decide +kernel
theorem dX2_init_4 : decode cX2_init 4 = .ok (.aload_n 0, 1) := by decide +kernel
theorem dX2_init_5 : decode cX2_init 5 = .ok (.bipush 6, 2) := by decide +kernel
theorem dX2_init_7 : decode cX2_init 7 = .ok (.newarray .int, 2) := by decide +kernel
theorem dX2_init_9 : decode cX2_init 9 = .ok (.putfield 9, 3) := by decide +kernel
theorem dX2_init_12 : decode cX2_init 12 = .ok (.aload_n 0, 1) := by decide +kernel
theorem dX2_init_13 : decode cX2_init 13 = .ok (.sipush 400, 3) := by decide +kernel
theorem dX2_init_16 : decode cX2_init 16 = .ok (.newarray .int, 2) := by decide +kernel
theorem dX2_init_18 : decode cX2_init 18 = .ok (.putfield 15, 3) := by decide +kernel
theorem dX2_init_21 : decode cX2_init 21 = .ok (.aload_n 0, 1) := by decide +kernel
theorem dX2_init_22 : decode cX2_init 22 = .ok (.sipush 400, 3) := by decide +kernel
theorem dX2_init_25 : decode cX2_init 25 = .ok (.newarray .int, 2) := by decide +kernel
theorem dX2_init_27 : decode cX2_init 27 = .ok (.putfield 18, 3) := by decide +kernel
theorem dX2_init_30 : decode cX2_init 30 = .ok (.aload_n 0, 1) := by decide +kernel
theorem dX2_init_31 : decode cX2_init 31 = .ok (.aload_n 1, 1) := by decide +kernel
theorem dX2_init_32 : decode cX2_init 32 = .ok (.putfield 21, 3) := by decide +kernel
theorem dX2_init_35 : decode cX2_init 35 = .ok (.return_, 1) := by decide +kernel
theorem dX2_beginOf_0 : decode cX2_beginOf 0 = .ok (.iload_n 1, 1) := by decide +kernel
theorem dX2_beginOf_1 : decode cX2_beginOf 1 = .ok (.ifCond .lt 21, 3) := by decide +kernel
theorem dX2_beginOf_4 : decode cX2_beginOf 4 = .ok (.iload_n 1, 1) := by decide +kernel
theorem dX2_beginOf_5 : decode cX2_beginOf 5 = .ok (.aload_n 0, 1) := by decide +kernel
theorem dX2_beginOf_6 : decode cX2_beginOf 6 = .ok (.getfield 9, 3) := by decide +kernel
theorem dX2_beginOf_9 : decode cX2_beginOf 9 = .ok (.arraylength, 1) := by decide +kernel
theorem dX2_beginOf_10 : decode cX2_beginOf 10 = .ok (.if_icmp .ge 12, 3) := by decide +kernel
theorem dX2_beginOf_13 : decode cX2_beginOf 13 = .ok (.aload_n 0, 1) := by decide +kernel
theorem dX2_beginOf_14 : decode cX2_beginOf 14 = .ok (.getfield 9, 3) := by decide +kernel
theorem dX2_beginOf_17 : decode cX2_beginOf 17 = .ok (.iload_n 1, 1) := by decide +kernel
theorem dX2_beginOf_18 : decode cX2_beginOf 18 = .ok (.iaload, 1) := by decide +kernel
theorem dX2_beginOf_19 : decode cX2_beginOf 19 = .ok (.goto 4, 3) := by decide +kernel
theorem dX2_beginOf_22 : decode cX2_beginOf 22 = .ok (.iconst 0, 1) := by decide +kernel
theorem dX2_beginOf_23 : decode cX2_beginOf 23 = .ok (.ireturn, 1) := by decide +kernel
theorem dX2_beginAt_0 : decode cX2_beginAt 0 = .ok (.iload_n 1, 1) := by decide +kernel
theorem dX2_beginAt_1 : decode cX2_beginAt 1 = .ok (.ifCond .lt 23, 3) := by decide +kernel
theorem dX2_beginAt_4 : decode cX2_beginAt 4 = .ok (.iload_n 1, 1) := by decide +kernel
theorem dX2_beginAt_5 : decode cX2_beginAt 5 = .ok (.aload_n 0, 1) := by decide +kernel
theorem dX2_beginAt_6 : decode cX2_beginAt 6 = .ok (.getfield 9, 3) := by decide +kernel
theorem dX2_beginAt_9 : decode cX2_beginAt 9 = .ok (.arraylength, 1) := by decide +kernel
theorem dX2_beginAt_10 : decode cX2_beginAt 10 = .ok (.if_icmp .ge 14, 3) := by decide +kernel
theorem dX2_beginAt_13 : decode cX2_beginAt 13 = .ok (.aload_n 0, 1) := by decide +kernel
theorem dX2_beginAt_14 : decode cX2_beginAt 14 = .ok (.getfield 9, 3) := by decide +kernel
theorem dX2_beginAt_17 : decode cX2_beginAt 17 = .ok (.iload_n 1, 1) := by decide +kernel
theorem dX2_beginAt_18 : decode cX2_beginAt 18 = .ok (.iload_n 2, 1) := by decide +kernel
theorem dX2_beginAt_19 : decode cX2_beginAt 19 = .ok (.iastore, 1) := by decide +kernel
theorem dX2_beginAt_20 : decode cX2_beginAt 20 = .ok (.aload_n 0, 1) := by decide +kernel
theorem dX2_beginAt_21 : decode cX2_beginAt 21 = .ok (.invokevirtual 25, 3) := by decide +kernel
theorem dX2_beginAt_24 : decode cX2_beginAt 24 = .ok (.return_, 1) := by decide +kernel
theorem dX2_putLee_0 : decode cX2_putLee 0 = .ok (.aload_n 0, 1) := by decide +kernel
theorem dX2_putLee_1 : decode cX2_putLee 1 = .ok (.iload_n 1, 1) := by decide +kernel
theorem dX2_putLee_2 : decode cX2_putLee 2 = .ok (.putfield 28, 3) := by decide +kernel
theorem dX2_putLee_5 : decode cX2_putLee 5 = .ok (.aload_n 0, 1) := by decide +kernel
theorem dX2_putLee_6 : decode cX2_putLee 6 = .ok (.iload_n 2, 1) := by decide +kernel
theorem dX2_putLee_7 : decode cX2_putLee 7 = .ok (.putfield 32, 3) := by decide +kernel
theorem dX2_putLee_10 : decode cX2_putLee 10 = .ok (.aload_n 0, 1) := by decide +kernel
theorem dX2_putLee_11 : decode cX2_putLee 11 = .ok (.invokevirtual 25, 3) := by decide +kernel
theorem dX2_putLee_14 : decode cX2_putLee 14 = .ok (.return_, 1) := by decide +kernel
theorem dX2_renew_0 : decode cX2_renew 0 = .ok (.iconst 0, 1) := by decide +kernel
theorem dX2_renew_1 : decode cX2_renew 1 = .ok (.istore_n 1, 1) := by decide +kernel
theorem dX2_renew_2 : decode cX2_renew 2 = .ok (.iload_n 1, 1) := by decide +kernel
theorem dX2_renew_3 : decode cX2_renew 3 = .ok (.aload_n 0, 1) := by decide +kernel
theorem dX2_renew_4 : decode cX2_renew 4 = .ok (.getfield 15, 3) := by decide +kernel
theorem dX2_renew_7 : decode cX2_renew 7 = .ok (.arraylength, 1) := by decide +kernel
theorem dX2_renew_8 : decode cX2_renew 8 = .ok (.if_icmp .ge 16, 3) := by decide +kernel
theorem dX2_renew_11 : decode cX2_renew 11 = .ok (.aload_n 0, 1) := by decide +kernel
theorem dX2_renew_12 : decode cX2_renew 12 = .ok (.getfield 15, 3) := by decide +kernel
theorem dX2_renew_15 : decode cX2_renew 15 = .ok (.iload_n 1, 1) := by decide +kernel
theorem dX2_renew_16 : decode cX2_renew 16 = .ok (.iconst 0, 1) := by decide +kernel
theorem dX2_renew_17 : decode cX2_renew 17 = .ok (.iastore, 1) := by decide +kernel
theorem dX2_renew_18 : decode cX2_renew 18 = .ok (.iinc 1 1, 3) := by decide +kernel
theorem dX2_renew_21 : decode cX2_renew 21 = .ok (.goto (-19), 3) := by decide +kernel
theorem dX2_renew_24 : decode cX2_renew 24 = .ok (.iconst 0, 1) := by decide +kernel
theorem dX2_renew_25 : decode cX2_renew 25 = .ok (.istore_n 1, 1) := by decide +kernel
theorem dX2_renew_26 : decode cX2_renew 26 = .ok (.iload_n 1, 1) := by decide +kernel
theorem dX2_renew_27 : decode cX2_renew 27 = .ok (.aload_n 0, 1) := by decide +kernel
theorem dX2_renew_28 : decode cX2_renew 28 = .ok (.getfield 21, 3) := by decide +kernel
theorem dX2_renew_31 : decode cX2_renew 31 = .ok (.getfield 35, 3) := by decide +kernel
theorem dX2_renew_34 : decode cX2_renew 34 = .ok (.if_icmp .ge 51, 3) := by decide +kernel
theorem dX2_renew_37 : decode cX2_renew 37 = .ok (.aload_n 0, 1) := by decide +kernel
theorem dX2_renew_38 : decode cX2_renew 38 = .ok (.getfield 21, 3) := by decide +kernel
theorem dX2_renew_41 : decode cX2_renew 41 = .ok (.iload_n 1, 1) := by decide +kernel
theorem dX2_renew_42 : decode cX2_renew 42 = .ok (.invokevirtual 40, 3) := by decide +kernel
theorem dX2_renew_45 : decode cX2_renew 45 = .ok (.istore_n 2, 1) := by decide +kernel
theorem dX2_renew_46 : decode cX2_renew 46 = .ok (.iconst 0, 1) := by decide +kernel
theorem dX2_renew_47 : decode cX2_renew 47 = .ok (.istore_n 3, 1) := by decide +kernel
theorem dX2_renew_48 : decode cX2_renew 48 = .ok (.iload_n 3, 1) := by decide +kernel
theorem dX2_renew_49 : decode cX2_renew 49 = .ok (.aload_n 0, 1) := by decide +kernel
theorem dX2_renew_50 : decode cX2_renew 50 = .ok (.getfield 15, 3) := by decide +kernel
theorem dX2_renew_53 : decode cX2_renew 53 = .ok (.arraylength, 1) := by decide +kernel
theorem dX2_renew_54 : decode cX2_renew 54 = .ok (.if_icmp .ge 25, 3) := by decide +kernel
theorem dX2_renew_57 : decode cX2_renew 57 = .ok (.aload_n 0, 1) := by decide +kernel
theorem dX2_renew_58 : decode cX2_renew 58 = .ok (.getfield 15, 3) := by decide +kernel
theorem dX2_renew_61 : decode cX2_renew 61 = .ok (.iload_n 3, 1) := by decide +kernel
theorem dX2_renew_62 : decode cX2_renew 62 = .ok (.dup2, 1) := by decide +kernel
theorem dX2_renew_63 : decode cX2_renew 63 = .ok (.iaload, 1) := by decide +kernel
theorem dX2_renew_64 : decode cX2_renew 64 = .ok (.aload_n 0, 1) := by decide +kernel
theorem dX2_renew_65 : decode cX2_renew 65 = .ok (.iload_n 1, 1) := by decide +kernel
theorem dX2_renew_66 : decode cX2_renew 66 = .ok (.iload_n 2, 1) := by decide +kernel
theorem dX2_renew_67 : decode cX2_renew 67 = .ok (.iload_n 3, 1) := by decide +kernel
theorem dX2_renew_68 : decode cX2_renew 68 = .ok (.invokevirtual 44, 3) := by decide +kernel
theorem dX2_renew_71 : decode cX2_renew 71 = .ok (.iadd, 1) := by decide +kernel
theorem dX2_renew_72 : decode cX2_renew 72 = .ok (.iastore, 1) := by decide +kernel
theorem dX2_renew_73 : decode cX2_renew 73 = .ok (.iinc 3 1, 3) := by decide +kernel
theorem dX2_renew_76 : decode cX2_renew 76 = .ok (.goto (-28), 3) := by decide +kernel
theorem dX2_renew_79 : decode cX2_renew 79 = .ok (.iinc 1 1, 3) := by decide +kernel
theorem dX2_renew_82 : decode cX2_renew 82 = .ok (.goto (-56), 3) := by decide +kernel
theorem dX2_renew_85 : decode cX2_renew 85 = .ok (.iconst 0, 1) := by decide +kernel
theorem dX2_renew_86 : decode cX2_renew 86 = .ok (.istore_n 1, 1) := by decide +kernel
theorem dX2_renew_87 : decode cX2_renew 87 = .ok (.iload_n 1, 1) := by decide +kernel
theorem dX2_renew_88 : decode cX2_renew 88 = .ok (.aload_n 0, 1) := by decide +kernel
theorem dX2_renew_89 : decode cX2_renew 89 = .ok (.getfield 18, 3) := by decide +kernel
theorem dX2_renew_92 : decode cX2_renew 92 = .ok (.arraylength, 1) := by decide +kernel
theorem dX2_renew_93 : decode cX2_renew 93 = .ok (.if_icmp .ge 35, 3) := by decide +kernel
theorem dX2_renew_96 : decode cX2_renew 96 = .ok (.iload_n 1, 1) := by decide +kernel
theorem dX2_renew_97 : decode cX2_renew 97 = .ok (.aload_n 0, 1) := by decide +kernel
theorem dX2_renew_98 : decode cX2_renew 98 = .ok (.getfield 15, 3) := by decide +kernel
theorem dX2_renew_101 : decode cX2_renew 101 = .ok (.arraylength, 1) := by decide +kernel
theorem dX2_renew_102 : decode cX2_renew 102 = .ok (.if_icmp .ge 26, 3) := by decide +kernel
theorem dX2_renew_105 : decode cX2_renew 105 = .ok (.aload_n 0, 1) := by decide +kernel
theorem dX2_renew_106 : decode cX2_renew 106 = .ok (.getfield 18, 3) := by decide +kernel
theorem dX2_renew_109 : decode cX2_renew 109 = .ok (.iload_n 1, 1) := by decide +kernel
theorem dX2_renew_110 : decode cX2_renew 110 = .ok (.aload_n 0, 1) := by decide +kernel
theorem dX2_renew_111 : decode cX2_renew 111 = .ok (.iload_n 1, 1) := by decide +kernel
theorem dX2_renew_112 : decode cX2_renew 112 = .ok (.aload_n 0, 1) := by decide +kernel
theorem dX2_renew_113 : decode cX2_renew 113 = .ok (.getfield 15, 3) := by decide +kernel
theorem dX2_renew_116 : decode cX2_renew 116 = .ok (.iload_n 1, 1) := by decide +kernel
theorem dX2_renew_117 : decode cX2_renew 117 = .ok (.iaload, 1) := by decide +kernel
theorem dX2_renew_118 : decode cX2_renew 118 = .ok (.invokevirtual 48, 3) := by decide +kernel
theorem dX2_renew_121 : decode cX2_renew 121 = .ok (.iastore, 1) := by decide +kernel
theorem dX2_renew_122 : decode cX2_renew 122 = .ok (.iinc 1 1, 3) := by decide +kernel
theorem dX2_renew_125 : decode cX2_renew 125 = .ok (.goto (-38), 3) := by decide +kernel
theorem dX2_renew_128 : decode cX2_renew 128 = .ok (.return_, 1) := by decide +kernel
theorem dX2_alone_0 : decode cX2_alone 0 = .ok (.iload_n 2, 1) := by decide +kernel
theorem dX2_alone_1 : decode cX2_alone 1 = .ok (.iconst 2, 1) := by decide +kernel
theorem dX2_alone_2 : decode cX2_alone 2 = .ok (.if_icmp .ge 5, 3) := by decide +kernel
theorem dX2_alone_5 : decode cX2_alone 5 = .ok (.iconst 0, 1) := by decide +kernel
theorem dX2_alone_6 : decode cX2_alone 6 = .ok (.ireturn, 1) := by decide +kernel
theorem dX2_alone_7 : decode cX2_alone 7 = .ok (.iload_n 3, 1) := by decide +kernel
theorem dX2_alone_8 : decode cX2_alone 8 = .ok (.aload_n 0, 1) := by decide +kernel
theorem dX2_alone_9 : decode cX2_alone 9 = .ok (.iload_n 1, 1) := by decide +kernel
theorem dX2_alone_10 : decode cX2_alone 10 = .ok (.invokevirtual 52, 3) := by decide +kernel
theorem dX2_alone_13 : decode cX2_alone 13 = .ok (.iadd, 1) := by decide +kernel
theorem dX2_alone_14 : decode cX2_alone 14 = .ok (.iload_n 2, 1) := by decide +kernel
theorem dX2_alone_15 : decode cX2_alone 15 = .ok (.irem, 1) := by decide +kernel
theorem dX2_alone_16 : decode cX2_alone 16 = .ok (.istore 4, 2) := by decide +kernel
theorem dX2_alone_18 : decode cX2_alone 18 = .ok (.aload_n 0, 1) := by decide +kernel
theorem dX2_alone_19 : decode cX2_alone 19 = .ok (.getfield 21, 3) := by decide +kernel
theorem dX2_alone_22 : decode cX2_alone 22 = .ok (.iload_n 1, 1) := by decide +kernel
theorem dX2_alone_23 : decode cX2_alone 23 = .ok (.invokevirtual 55, 3) := by decide +kernel
theorem dX2_alone_26 : decode cX2_alone 26 = .ok (.iload 4, 2) := by decide +kernel
theorem dX2_alone_28 : decode cX2_alone 28 = .ok (.iload_n 2, 1) := by decide +kernel
theorem dX2_alone_29 : decode cX2_alone 29 = .ok (.iload 4, 2) := by decide +kernel
theorem dX2_alone_31 : decode cX2_alone 31 = .ok (.isub, 1) := by decide +kernel
theorem dX2_alone_32 : decode cX2_alone 32 = .ok (.invokestatic 58, 3) := by decide +kernel
theorem dX2_alone_35 : decode cX2_alone 35 = .ok (.imul, 1) := by decide +kernel
theorem dX2_alone_36 : decode cX2_alone 36 = .ok (.ireturn, 1) := by decide +kernel
theorem dX2_cutByLee_0 : decode cX2_cutByLee 0 = .ok (.iload_n 1, 1) := by decide +kernel
theorem dX2_cutByLee_1 : decode cX2_cutByLee 1 = .ok (.aload_n 0, 1) := by decide +kernel
theorem dX2_cutByLee_2 : decode cX2_cutByLee 2 = .ok (.getfield 28, 3) := by decide +kernel
theorem dX2_cutByLee_5 : decode cX2_cutByLee 5 = .ok (.if_icmp .lt 20, 3) := by decide +kernel
theorem dX2_cutByLee_8 : decode cX2_cutByLee 8 = .ok (.iload_n 1, 1) := by decide +kernel
theorem dX2_cutByLee_9 : decode cX2_cutByLee 9 = .ok (.aload_n 0, 1) := by decide +kernel
theorem dX2_cutByLee_10 : decode cX2_cutByLee 10 = .ok (.getfield 28, 3) := by decide +kernel
theorem dX2_cutByLee_13 : decode cX2_cutByLee 13 = .ok (.isub, 1) := by decide +kernel
theorem dX2_cutByLee_14 : decode cX2_cutByLee 14 = .ok (.aload_n 0, 1) := by decide +kernel
theorem dX2_cutByLee_15 : decode cX2_cutByLee 15 = .ok (.getfield 32, 3) := by decide +kernel
theorem dX2_cutByLee_18 : decode cX2_cutByLee 18 = .ok (.if_icmp .ge 7, 3) := by decide +kernel
theorem dX2_cutByLee_21 : decode cX2_cutByLee 21 = .ok (.iconst 1, 1) := by decide +kernel
theorem dX2_cutByLee_22 : decode cX2_cutByLee 22 = .ok (.goto 4, 3) := by decide +kernel
theorem dX2_cutByLee_25 : decode cX2_cutByLee 25 = .ok (.iconst 0, 1) := by decide +kernel
theorem dX2_cutByLee_26 : decode cX2_cutByLee 26 = .ok (.istore_n 3, 1) := by decide +kernel
theorem dX2_cutByLee_27 : decode cX2_cutByLee 27 = .ok (.iload_n 3, 1) := by decide +kernel
theorem dX2_cutByLee_28 : decode cX2_cutByLee 28 = .ok (.ifCond .eq 9, 3) := by decide +kernel
theorem dX2_cutByLee_31 : decode cX2_cutByLee 31 = .ok (.iload_n 2, 1) := by decide +kernel
theorem dX2_cutByLee_32 : decode cX2_cutByLee 32 = .ok (.iconst 2, 1) := by decide +kernel
theorem dX2_cutByLee_33 : decode cX2_cutByLee 33 = .ok (.idiv, 1) := by decide +kernel
theorem dX2_cutByLee_34 : decode cX2_cutByLee 34 = .ok (.goto 4, 3) := by decide +kernel
theorem dX2_cutByLee_37 : decode cX2_cutByLee 37 = .ok (.iload_n 2, 1) := by decide +kernel
theorem dX2_cutByLee_38 : decode cX2_cutByLee 38 = .ok (.ireturn, 1) := by decide +kernel
theorem dX2_heightAt_0 : decode cX2_heightAt 0 = .ok (.iload_n 1, 1) := by decide +kernel
theorem dX2_heightAt_1 : decode cX2_heightAt 1 = .ok (.ifCond .lt 21, 3) := by decide +kernel
theorem dX2_heightAt_4 : decode cX2_heightAt 4 = .ok (.iload_n 1, 1) := by decide +kernel
theorem dX2_heightAt_5 : decode cX2_heightAt 5 = .ok (.aload_n 0, 1) := by decide +kernel
theorem dX2_heightAt_6 : decode cX2_heightAt 6 = .ok (.getfield 18, 3) := by decide +kernel
theorem dX2_heightAt_9 : decode cX2_heightAt 9 = .ok (.arraylength, 1) := by decide +kernel
theorem dX2_heightAt_10 : decode cX2_heightAt 10 = .ok (.if_icmp .ge 12, 3) := by decide +kernel
theorem dX2_heightAt_13 : decode cX2_heightAt 13 = .ok (.aload_n 0, 1) := by decide +kernel
theorem dX2_heightAt_14 : decode cX2_heightAt 14 = .ok (.getfield 18, 3) := by decide +kernel
theorem dX2_heightAt_17 : decode cX2_heightAt 17 = .ok (.iload_n 1, 1) := by decide +kernel
theorem dX2_heightAt_18 : decode cX2_heightAt 18 = .ok (.iaload, 1) := by decide +kernel
theorem dX2_heightAt_19 : decode cX2_heightAt 19 = .ok (.goto 4, 3) := by decide +kernel
theorem dX2_heightAt_22 : decode cX2_heightAt 22 = .ok (.iconst 0, 1) := by decide +kernel
theorem dX2_heightAt_23 : decode cX2_heightAt 23 = .ok (.ireturn, 1) := by decide +kernel
theorem dX2_heightWithoutLee_0 : decode cX2_heightWithoutLee 0 = .ok (.iload_n 1, 1) := by decide +kernel
theorem dX2_heightWithoutLee_1 : decode cX2_heightWithoutLee 1 = .ok (.ifCond .lt 21, 3) := by decide +kernel
theorem dX2_heightWithoutLee_4 : decode cX2_heightWithoutLee 4 = .ok (.iload_n 1, 1) := by decide +kernel
theorem dX2_heightWithoutLee_5 : decode cX2_heightWithoutLee 5 = .ok (.aload_n 0, 1) := by decide +kernel
theorem dX2_heightWithoutLee_6 : decode cX2_heightWithoutLee 6 = .ok (.getfield 15, 3) := by decide +kernel
theorem dX2_heightWithoutLee_9 : decode cX2_heightWithoutLee 9 = .ok (.arraylength, 1) := by decide +kernel
theorem dX2_heightWithoutLee_10 : decode cX2_heightWithoutLee 10 = .ok (.if_icmp .ge 12, 3) := by decide +kernel
theorem dX2_heightWithoutLee_13 : decode cX2_heightWithoutLee 13 = .ok (.aload_n 0, 1) := by decide +kernel
theorem dX2_heightWithoutLee_14 : decode cX2_heightWithoutLee 14 = .ok (.getfield 15, 3) := by decide +kernel
theorem dX2_heightWithoutLee_17 : decode cX2_heightWithoutLee 17 = .ok (.iload_n 1, 1) := by decide +kernel
theorem dX2_heightWithoutLee_18 : decode cX2_heightWithoutLee 18 = .ok (.iaload, 1) := by decide +kernel
theorem dX2_heightWithoutLee_19 : decode cX2_heightWithoutLee 19 = .ok (.goto 4, 3) := by decide +kernel
theorem dX2_heightWithoutLee_22 : decode cX2_heightWithoutLee 22 = .ok (.iconst 0, 1) := by decide +kernel
theorem dX2_heightWithoutLee_23 : decode cX2_heightWithoutLee 23 = .ok (.ireturn, 1) := by decide +kernel
theorem dX2_heightWith_0 : decode cX2_heightWith 0 = .ok (.aload_n 0, 1) := by decide +kernel
theorem dX2_heightWith_1 : decode cX2_heightWith 1 = .ok (.iload_n 3, 1) := by decide +kernel
theorem dX2_heightWith_2 : decode cX2_heightWith 2 = .ok (.invokevirtual 63, 3) := by decide +kernel
theorem dX2_heightWith_5 : decode cX2_heightWith 5 = .ok (.aload_n 0, 1) := by decide +kernel
theorem dX2_heightWith_6 : decode cX2_heightWith 6 = .ok (.iload_n 1, 1) := by decide +kernel
theorem dX2_heightWith_7 : decode cX2_heightWith 7 = .ok (.aload_n 0, 1) := by decide +kernel
theorem dX2_heightWith_8 : decode cX2_heightWith 8 = .ok (.getfield 21, 3) := by decide +kernel
theorem dX2_heightWith_11 : decode cX2_heightWith 11 = .ok (.iload_n 1, 1) := by decide +kernel
theorem dX2_heightWith_12 : decode cX2_heightWith 12 = .ok (.invokevirtual 40, 3) := by decide +kernel
theorem dX2_heightWith_15 : decode cX2_heightWith 15 = .ok (.iload_n 3, 1) := by decide +kernel
theorem dX2_heightWith_16 : decode cX2_heightWith 16 = .ok (.invokevirtual 44, 3) := by decide +kernel
theorem dX2_heightWith_19 : decode cX2_heightWith 19 = .ok (.isub, 1) := by decide +kernel
theorem dX2_heightWith_20 : decode cX2_heightWith 20 = .ok (.istore 4, 2) := by decide +kernel
theorem dX2_heightWith_22 : decode cX2_heightWith 22 = .ok (.aload_n 0, 1) := by decide +kernel
theorem dX2_heightWith_23 : decode cX2_heightWith 23 = .ok (.iload_n 3, 1) := by decide +kernel
theorem dX2_heightWith_24 : decode cX2_heightWith 24 = .ok (.iload 4, 2) := by decide +kernel
theorem dX2_heightWith_26 : decode cX2_heightWith 26 = .ok (.aload_n 0, 1) := by decide +kernel
theorem dX2_heightWith_27 : decode cX2_heightWith 27 = .ok (.iload_n 1, 1) := by decide +kernel
theorem dX2_heightWith_28 : decode cX2_heightWith 28 = .ok (.iload_n 2, 1) := by decide +kernel
theorem dX2_heightWith_29 : decode cX2_heightWith 29 = .ok (.iload_n 3, 1) := by decide +kernel
theorem dX2_heightWith_30 : decode cX2_heightWith 30 = .ok (.invokevirtual 44, 3) := by decide +kernel
theorem dX2_heightWith_33 : decode cX2_heightWith 33 = .ok (.iadd, 1) := by decide +kernel
theorem dX2_heightWith_34 : decode cX2_heightWith 34 = .ok (.invokevirtual 48, 3) := by decide +kernel
theorem dX2_heightWith_37 : decode cX2_heightWith 37 = .ok (.ireturn, 1) := by decide +kernel
theorem dX2_moveAt_0 : decode cX2_moveAt 0 = .ok (.iload_n 1, 1) := by decide +kernel
theorem dX2_moveAt_1 : decode cX2_moveAt 1 = .ok (.ifCond .le 14, 3) := by decide +kernel
theorem dX2_moveAt_4 : decode cX2_moveAt 4 = .ok (.iload_n 1, 1) := by decide +kernel
theorem dX2_moveAt_5 : decode cX2_moveAt 5 = .ok (.aload_n 0, 1) := by decide +kernel
theorem dX2_moveAt_6 : decode cX2_moveAt 6 = .ok (.getfield 18, 3) := by decide +kernel
theorem dX2_moveAt_9 : decode cX2_moveAt 9 = .ok (.arraylength, 1) := by decide +kernel
theorem dX2_moveAt_10 : decode cX2_moveAt 10 = .ok (.iconst 1, 1) := by decide +kernel
theorem dX2_moveAt_11 : decode cX2_moveAt 11 = .ok (.isub, 1) := by decide +kernel
theorem dX2_moveAt_12 : decode cX2_moveAt 12 = .ok (.if_icmp .lt 5, 3) := by decide +kernel
theorem dX2_moveAt_15 : decode cX2_moveAt 15 = .ok (.iconst 0, 1) := by decide +kernel
theorem dX2_moveAt_16 : decode cX2_moveAt 16 = .ok (.ireturn, 1) := by decide +kernel
theorem dX2_moveAt_17 : decode cX2_moveAt 17 = .ok (.aload_n 0, 1) := by decide +kernel
theorem dX2_moveAt_18 : decode cX2_moveAt 18 = .ok (.getfield 18, 3) := by decide +kernel
theorem dX2_moveAt_21 : decode cX2_moveAt 21 = .ok (.iload_n 1, 1) := by decide +kernel
theorem dX2_moveAt_22 : decode cX2_moveAt 22 = .ok (.iaload, 1) := by decide +kernel
theorem dX2_moveAt_23 : decode cX2_moveAt 23 = .ok (.istore_n 2, 1) := by decide +kernel
theorem dX2_moveAt_24 : decode cX2_moveAt 24 = .ok (.aload_n 0, 1) := by decide +kernel
theorem dX2_moveAt_25 : decode cX2_moveAt 25 = .ok (.getfield 18, 3) := by decide +kernel
theorem dX2_moveAt_28 : decode cX2_moveAt 28 = .ok (.iload_n 1, 1) := by decide +kernel
theorem dX2_moveAt_29 : decode cX2_moveAt 29 = .ok (.iconst 1, 1) := by decide +kernel
theorem dX2_moveAt_30 : decode cX2_moveAt 30 = .ok (.iadd, 1) := by decide +kernel
theorem dX2_moveAt_31 : decode cX2_moveAt 31 = .ok (.iaload, 1) := by decide +kernel
theorem dX2_moveAt_32 : decode cX2_moveAt 32 = .ok (.istore_n 3, 1) := by decide +kernel
theorem dX2_moveAt_33 : decode cX2_moveAt 33 = .ok (.iload_n 3, 1) := by decide +kernel
theorem dX2_moveAt_34 : decode cX2_moveAt 34 = .ok (.iload_n 2, 1) := by decide +kernel
theorem dX2_moveAt_35 : decode cX2_moveAt 35 = .ok (.if_icmp .ge 21, 3) := by decide +kernel
theorem dX2_moveAt_38 : decode cX2_moveAt 38 = .ok (.aload_n 0, 1) := by decide +kernel
theorem dX2_moveAt_39 : decode cX2_moveAt 39 = .ok (.getfield 18, 3) := by decide +kernel
theorem dX2_moveAt_42 : decode cX2_moveAt 42 = .ok (.iload_n 1, 1) := by decide +kernel
theorem dX2_moveAt_43 : decode cX2_moveAt 43 = .ok (.iconst 1, 1) := by decide +kernel
theorem dX2_moveAt_44 : decode cX2_moveAt 44 = .ok (.isub, 1) := by decide +kernel
theorem dX2_moveAt_45 : decode cX2_moveAt 45 = .ok (.iaload, 1) := by decide +kernel
theorem dX2_moveAt_46 : decode cX2_moveAt 46 = .ok (.iload_n 2, 1) := by decide +kernel
theorem dX2_moveAt_47 : decode cX2_moveAt 47 = .ok (.if_icmp .gt 7, 3) := by decide +kernel
theorem dX2_moveAt_50 : decode cX2_moveAt 50 = .ok (.iconst 1, 1) := by decide +kernel
theorem dX2_moveAt_51 : decode cX2_moveAt 51 = .ok (.goto 4, 3) := by decide +kernel
theorem dX2_moveAt_54 : decode cX2_moveAt 54 = .ok (.iconst 3, 1) := by decide +kernel
theorem dX2_moveAt_55 : decode cX2_moveAt 55 = .ok (.ireturn, 1) := by decide +kernel
theorem dX2_moveAt_56 : decode cX2_moveAt 56 = .ok (.iload_n 3, 1) := by decide +kernel
theorem dX2_moveAt_57 : decode cX2_moveAt 57 = .ok (.iload_n 2, 1) := by decide +kernel
theorem dX2_moveAt_58 : decode cX2_moveAt 58 = .ok (.if_icmp .le 7, 3) := by decide +kernel
theorem dX2_moveAt_61 : decode cX2_moveAt 61 = .ok (.iconst 2, 1) := by decide +kernel
theorem dX2_moveAt_62 : decode cX2_moveAt 62 = .ok (.goto 4, 3) := by decide +kernel
theorem dX2_moveAt_65 : decode cX2_moveAt 65 = .ok (.iconst 0, 1) := by decide +kernel
theorem dX2_moveAt_66 : decode cX2_moveAt 66 = .ok (.ireturn, 1) := by decide +kernel
theorem dX2_crestFrom_0 : decode cX2_crestFrom 0 = .ok (.iconst 0, 1) := by decide +kernel
theorem dX2_crestFrom_1 : decode cX2_crestFrom 1 = .ok (.istore_n 3, 1) := by decide +kernel
theorem dX2_crestFrom_2 : decode cX2_crestFrom 2 = .ok (.iload_n 1, 1) := by decide +kernel
theorem dX2_crestFrom_3 : decode cX2_crestFrom 3 = .ok (.istore 4, 2) := by decide +kernel
theorem dX2_crestFrom_5 : decode cX2_crestFrom 5 = .ok (.iload 4, 2) := by decide +kernel
theorem dX2_crestFrom_7 : decode cX2_crestFrom 7 = .ok (.aload_n 0, 1) := by decide +kernel
theorem dX2_crestFrom_8 : decode cX2_crestFrom 8 = .ok (.getfield 18, 3) := by decide +kernel
theorem dX2_crestFrom_11 : decode cX2_crestFrom 11 = .ok (.arraylength, 1) := by decide +kernel
theorem dX2_crestFrom_12 : decode cX2_crestFrom 12 = .ok (.if_icmp .ge 30, 3) := by decide +kernel
theorem dX2_crestFrom_15 : decode cX2_crestFrom 15 = .ok (.aload_n 0, 1) := by decide +kernel
theorem dX2_crestFrom_16 : decode cX2_crestFrom 16 = .ok (.iload 4, 2) := by decide +kernel
theorem dX2_crestFrom_18 : decode cX2_crestFrom 18 = .ok (.invokevirtual 66, 3) := by decide +kernel
theorem dX2_crestFrom_21 : decode cX2_crestFrom 21 = .ok (.iconst 1, 1) := by decide +kernel
theorem dX2_crestFrom_22 : decode cX2_crestFrom 22 = .ok (.if_icmp .ne 14, 3) := by decide +kernel
theorem dX2_crestFrom_25 : decode cX2_crestFrom 25 = .ok (.iinc 3 1, 3) := by decide +kernel
theorem dX2_crestFrom_28 : decode cX2_crestFrom 28 = .ok (.iload_n 3, 1) := by decide +kernel
theorem dX2_crestFrom_29 : decode cX2_crestFrom 29 = .ok (.iload_n 2, 1) := by decide +kernel
theorem dX2_crestFrom_30 : decode cX2_crestFrom 30 = .ok (.if_icmp .ne 6, 3) := by decide +kernel
theorem dX2_crestFrom_33 : decode cX2_crestFrom 33 = .ok (.iload 4, 2) := by decide +kernel
theorem dX2_crestFrom_35 : decode cX2_crestFrom 35 = .ok (.ireturn, 1) := by decide +kernel
theorem dX2_crestFrom_36 : decode cX2_crestFrom 36 = .ok (.iinc 4 1, 3) := by decide +kernel
theorem dX2_crestFrom_39 : decode cX2_crestFrom 39 = .ok (.goto (-34), 3) := by decide +kernel
theorem dX2_crestFrom_42 : decode cX2_crestFrom 42 = .ok (.iconst (-1), 1) := by decide +kernel
theorem dX2_crestFrom_43 : decode cX2_crestFrom 43 = .ok (.ireturn, 1) := by decide +kernel
theorem dX2_highestCrestFrom_0 : decode cX2_highestCrestFrom 0 = .ok (.iconst (-1), 1) := by decide +kernel
theorem dX2_highestCrestFrom_1 : decode cX2_highestCrestFrom 1 = .ok (.istore_n 2, 1) := by decide +kernel
theorem dX2_highestCrestFrom_2 : decode cX2_highestCrestFrom 2 = .ok (.iconst (-1), 1) := by decide +kernel
theorem dX2_highestCrestFrom_3 : decode cX2_highestCrestFrom 3 = .ok (.istore_n 3, 1) := by decide +kernel
theorem dX2_highestCrestFrom_4 : decode cX2_highestCrestFrom 4 = .ok (.aload_n 0, 1) := by decide +kernel
theorem dX2_highestCrestFrom_5 : decode cX2_highestCrestFrom 5 = .ok (.iload_n 1, 1) := by decide +kernel
theorem dX2_highestCrestFrom_6 : decode cX2_highestCrestFrom 6 = .ok (.iconst 1, 1) := by decide +kernel
theorem dX2_highestCrestFrom_7 : decode cX2_highestCrestFrom 7 = .ok (.invokevirtual 69, 3) := by decide +kernel
theorem dX2_highestCrestFrom_10 : decode cX2_highestCrestFrom 10 = .ok (.istore 4, 2) := by decide +kernel
theorem dX2_highestCrestFrom_12 : decode cX2_highestCrestFrom 12 = .ok (.iconst 1, 1) := by decide +kernel
theorem dX2_highestCrestFrom_13 : decode cX2_highestCrestFrom 13 = .ok (.istore 5, 2) := by decide +kernel
theorem dX2_highestCrestFrom_15 : decode cX2_highestCrestFrom 15 = .ok (.iload 5, 2) := by decide +kernel
theorem dX2_highestCrestFrom_17 : decode cX2_highestCrestFrom 17 = .ok (.bipush 7, 2) := by decide +kernel
theorem dX2_highestCrestFrom_19 : decode cX2_highestCrestFrom 19 = .ok (.if_icmp .gt 46, 3) := by decide +kernel
theorem dX2_highestCrestFrom_22 : decode cX2_highestCrestFrom 22 = .ok (.iload 4, 2) := by decide +kernel
theorem dX2_highestCrestFrom_24 : decode cX2_highestCrestFrom 24 = .ok (.iconst (-1), 1) := by decide +kernel
theorem dX2_highestCrestFrom_25 : decode cX2_highestCrestFrom 25 = .ok (.if_icmp .eq 40, 3) := by decide +kernel
theorem dX2_highestCrestFrom_28 : decode cX2_highestCrestFrom 28 = .ok (.aload_n 0, 1) := by decide +kernel
theorem dX2_highestCrestFrom_29 : decode cX2_highestCrestFrom 29 = .ok (.iload 4, 2) := by decide +kernel
theorem dX2_highestCrestFrom_31 : decode cX2_highestCrestFrom 31 = .ok (.invokevirtual 72, 3) := by decide +kernel
theorem dX2_highestCrestFrom_34 : decode cX2_highestCrestFrom 34 = .ok (.iload_n 3, 1) := by decide +kernel
theorem dX2_highestCrestFrom_35 : decode cX2_highestCrestFrom 35 = .ok (.if_icmp .le 13, 3) := by decide +kernel
theorem dX2_highestCrestFrom_38 : decode cX2_highestCrestFrom 38 = .ok (.iload 5, 2) := by decide +kernel
theorem dX2_highestCrestFrom_40 : decode cX2_highestCrestFrom 40 = .ok (.istore_n 2, 1) := by decide +kernel
theorem dX2_highestCrestFrom_41 : decode cX2_highestCrestFrom 41 = .ok (.aload_n 0, 1) := by decide +kernel
theorem dX2_highestCrestFrom_42 : decode cX2_highestCrestFrom 42 = .ok (.iload 4, 2) := by decide +kernel
theorem dX2_highestCrestFrom_44 : decode cX2_highestCrestFrom 44 = .ok (.invokevirtual 72, 3) := by decide +kernel
theorem dX2_highestCrestFrom_47 : decode cX2_highestCrestFrom 47 = .ok (.istore_n 3, 1) := by decide +kernel
theorem dX2_highestCrestFrom_48 : decode cX2_highestCrestFrom 48 = .ok (.aload_n 0, 1) := by decide +kernel
theorem dX2_highestCrestFrom_49 : decode cX2_highestCrestFrom 49 = .ok (.iload 4, 2) := by decide +kernel
theorem dX2_highestCrestFrom_51 : decode cX2_highestCrestFrom 51 = .ok (.iconst 1, 1) := by decide +kernel
theorem dX2_highestCrestFrom_52 : decode cX2_highestCrestFrom 52 = .ok (.iadd, 1) := by decide +kernel
theorem dX2_highestCrestFrom_53 : decode cX2_highestCrestFrom 53 = .ok (.iconst 1, 1) := by decide +kernel
theorem dX2_highestCrestFrom_54 : decode cX2_highestCrestFrom 54 = .ok (.invokevirtual 69, 3) := by decide +kernel
theorem dX2_highestCrestFrom_57 : decode cX2_highestCrestFrom 57 = .ok (.istore 4, 2) := by decide +kernel
theorem dX2_highestCrestFrom_59 : decode cX2_highestCrestFrom 59 = .ok (.iinc 5 1, 3) := by decide +kernel
theorem dX2_highestCrestFrom_62 : decode cX2_highestCrestFrom 62 = .ok (.goto (-47), 3) := by decide +kernel
theorem dX2_highestCrestFrom_65 : decode cX2_highestCrestFrom 65 = .ok (.iload_n 2, 1) := by decide +kernel
theorem dX2_highestCrestFrom_66 : decode cX2_highestCrestFrom 66 = .ok (.ireturn, 1) := by decide +kernel
theorem dX2_crestsInAll_0 : decode cX2_crestsInAll 0 = .ok (.iconst 0, 1) := by decide +kernel
theorem dX2_crestsInAll_1 : decode cX2_crestsInAll 1 = .ok (.istore_n 1, 1) := by decide +kernel
theorem dX2_crestsInAll_2 : decode cX2_crestsInAll 2 = .ok (.iconst 0, 1) := by decide +kernel
theorem dX2_crestsInAll_3 : decode cX2_crestsInAll 3 = .ok (.istore_n 2, 1) := by decide +kernel
theorem dX2_crestsInAll_4 : decode cX2_crestsInAll 4 = .ok (.iload_n 2, 1) := by decide +kernel
theorem dX2_crestsInAll_5 : decode cX2_crestsInAll 5 = .ok (.aload_n 0, 1) := by decide +kernel
theorem dX2_crestsInAll_6 : decode cX2_crestsInAll 6 = .ok (.getfield 18, 3) := by decide +kernel
theorem dX2_crestsInAll_9 : decode cX2_crestsInAll 9 = .ok (.arraylength, 1) := by decide +kernel
theorem dX2_crestsInAll_10 : decode cX2_crestsInAll 10 = .ok (.if_icmp .ge 21, 3) := by decide +kernel
theorem dX2_crestsInAll_13 : decode cX2_crestsInAll 13 = .ok (.aload_n 0, 1) := by decide +kernel
theorem dX2_crestsInAll_14 : decode cX2_crestsInAll 14 = .ok (.iload_n 2, 1) := by decide +kernel
theorem dX2_crestsInAll_15 : decode cX2_crestsInAll 15 = .ok (.invokevirtual 66, 3) := by decide +kernel
theorem dX2_crestsInAll_18 : decode cX2_crestsInAll 18 = .ok (.iconst 1, 1) := by decide +kernel
theorem dX2_crestsInAll_19 : decode cX2_crestsInAll 19 = .ok (.if_icmp .ne 6, 3) := by decide +kernel
theorem dX2_crestsInAll_22 : decode cX2_crestsInAll 22 = .ok (.iinc 1 1, 3) := by decide +kernel
theorem dX2_crestsInAll_25 : decode cX2_crestsInAll 25 = .ok (.iinc 2 1, 3) := by decide +kernel
theorem dX2_crestsInAll_28 : decode cX2_crestsInAll 28 = .ok (.goto (-24), 3) := by decide +kernel
theorem dX2_crestsInAll_31 : decode cX2_crestsInAll 31 = .ok (.iload_n 1, 1) := by decide +kernel
theorem dX2_crestsInAll_32 : decode cX2_crestsInAll 32 = .ok (.ireturn, 1) := by decide +kernel
theorem dX2_lullFrom_0 : decode cX2_lullFrom 0 = .ok (.iconst (-1), 1) := by decide +kernel
theorem dX2_lullFrom_1 : decode cX2_lullFrom 1 = .ok (.istore_n 3, 1) := by decide +kernel
theorem dX2_lullFrom_2 : decode cX2_lullFrom 2 = .ok (.ldc 75, 2) := by decide +kernel
theorem dX2_lullFrom_4 : decode cX2_lullFrom 4 = .ok (.istore 4, 2) := by decide +kernel
theorem dX2_lullFrom_6 : decode cX2_lullFrom 6 = .ok (.iload_n 1, 1) := by decide +kernel
theorem dX2_lullFrom_7 : decode cX2_lullFrom 7 = .ok (.istore 5, 2) := by decide +kernel
theorem dX2_lullFrom_9 : decode cX2_lullFrom 9 = .ok (.iload 5, 2) := by decide +kernel
theorem dX2_lullFrom_11 : decode cX2_lullFrom 11 = .ok (.iload_n 2, 1) := by decide +kernel
theorem dX2_lullFrom_12 : decode cX2_lullFrom 12 = .ok (.iadd, 1) := by decide +kernel
theorem dX2_lullFrom_13 : decode cX2_lullFrom 13 = .ok (.sipush 400, 3) := by decide +kernel
theorem dX2_lullFrom_16 : decode cX2_lullFrom 16 = .ok (.if_icmp .gt 34, 3) := by decide +kernel
theorem dX2_lullFrom_19 : decode cX2_lullFrom 19 = .ok (.aload_n 0, 1) := by decide +kernel
theorem dX2_lullFrom_20 : decode cX2_lullFrom 20 = .ok (.iload 5, 2) := by decide +kernel
theorem dX2_lullFrom_22 : decode cX2_lullFrom 22 = .ok (.iload_n 2, 1) := by decide +kernel
theorem dX2_lullFrom_23 : decode cX2_lullFrom 23 = .ok (.iload 4, 2) := by decide +kernel
theorem dX2_lullFrom_25 : decode cX2_lullFrom 25 = .ok (.invokevirtual 76, 3) := by decide +kernel
theorem dX2_lullFrom_28 : decode cX2_lullFrom 28 = .ok (.istore 6, 2) := by decide +kernel
theorem dX2_lullFrom_30 : decode cX2_lullFrom 30 = .ok (.iload 6, 2) := by decide +kernel
theorem dX2_lullFrom_32 : decode cX2_lullFrom 32 = .ok (.iload 4, 2) := by decide +kernel
theorem dX2_lullFrom_34 : decode cX2_lullFrom 34 = .ok (.if_icmp .ge 10, 3) := by decide +kernel
theorem dX2_lullFrom_37 : decode cX2_lullFrom 37 = .ok (.iload 5, 2) := by decide +kernel
theorem dX2_lullFrom_39 : decode cX2_lullFrom 39 = .ok (.istore_n 3, 1) := by decide +kernel
theorem dX2_lullFrom_40 : decode cX2_lullFrom 40 = .ok (.iload 6, 2) := by decide +kernel
theorem dX2_lullFrom_42 : decode cX2_lullFrom 42 = .ok (.istore 4, 2) := by decide +kernel
theorem dX2_lullFrom_44 : decode cX2_lullFrom 44 = .ok (.iinc 5 1, 3) := by decide +kernel
theorem dX2_lullFrom_47 : decode cX2_lullFrom 47 = .ok (.goto (-38), 3) := by decide +kernel
theorem dX2_lullFrom_50 : decode cX2_lullFrom 50 = .ok (.iload_n 3, 1) := by decide +kernel
theorem dX2_lullFrom_51 : decode cX2_lullFrom 51 = .ok (.ireturn, 1) := by decide +kernel
theorem dX2_spread_0 : decode cX2_spread 0 = .ok (.aload_n 0, 1) := by decide +kernel
theorem dX2_spread_1 : decode cX2_spread 1 = .ok (.iload_n 1, 1) := by decide +kernel
theorem dX2_spread_2 : decode cX2_spread 2 = .ok (.invokevirtual 72, 3) := by decide +kernel
theorem dX2_spread_5 : decode cX2_spread 5 = .ok (.istore 4, 2) := by decide +kernel
theorem dX2_spread_7 : decode cX2_spread 7 = .ok (.iload 4, 2) := by decide +kernel
theorem dX2_spread_9 : decode cX2_spread 9 = .ok (.istore 5, 2) := by decide +kernel
theorem dX2_spread_11 : decode cX2_spread 11 = .ok (.iconst 1, 1) := by decide +kernel
theorem dX2_spread_12 : decode cX2_spread 12 = .ok (.istore 6, 2) := by decide +kernel
theorem dX2_spread_14 : decode cX2_spread 14 = .ok (.iload 6, 2) := by decide +kernel
theorem dX2_spread_16 : decode cX2_spread 16 = .ok (.iload_n 2, 1) := by decide +kernel
theorem dX2_spread_17 : decode cX2_spread 17 = .ok (.if_icmp .ge 46, 3) := by decide +kernel
theorem dX2_spread_20 : decode cX2_spread 20 = .ok (.iload 5, 2) := by decide +kernel
theorem dX2_spread_22 : decode cX2_spread 22 = .ok (.iload 4, 2) := by decide +kernel
theorem dX2_spread_24 : decode cX2_spread 24 = .ok (.isub, 1) := by decide +kernel
theorem dX2_spread_25 : decode cX2_spread 25 = .ok (.iload_n 3, 1) := by decide +kernel
theorem dX2_spread_26 : decode cX2_spread 26 = .ok (.if_icmp .ge 37, 3) := by decide +kernel
theorem dX2_spread_29 : decode cX2_spread 29 = .ok (.aload_n 0, 1) := by decide +kernel
theorem dX2_spread_30 : decode cX2_spread 30 = .ok (.iload_n 1, 1) := by decide +kernel
theorem dX2_spread_31 : decode cX2_spread 31 = .ok (.iload 6, 2) := by decide +kernel
theorem dX2_spread_33 : decode cX2_spread 33 = .ok (.iadd, 1) := by decide +kernel
theorem dX2_spread_34 : decode cX2_spread 34 = .ok (.invokevirtual 72, 3) := by decide +kernel
theorem dX2_spread_37 : decode cX2_spread 37 = .ok (.istore 7, 2) := by decide +kernel
theorem dX2_spread_39 : decode cX2_spread 39 = .ok (.iload 4, 2) := by decide +kernel
theorem dX2_spread_41 : decode cX2_spread 41 = .ok (.iload 7, 2) := by decide +kernel
theorem dX2_spread_43 : decode cX2_spread 43 = .ok (.invokestatic 58, 3) := by decide +kernel
theorem dX2_spread_46 : decode cX2_spread 46 = .ok (.istore 4, 2) := by decide +kernel
theorem dX2_spread_48 : decode cX2_spread 48 = .ok (.iload 5, 2) := by decide +kernel
theorem dX2_spread_50 : decode cX2_spread 50 = .ok (.iload 7, 2) := by decide +kernel
theorem dX2_spread_52 : decode cX2_spread 52 = .ok (.invokestatic 79, 3) := by decide +kernel
theorem dX2_spread_55 : decode cX2_spread 55 = .ok (.istore 5, 2) := by decide +kernel
theorem dX2_spread_57 : decode cX2_spread 57 = .ok (.iinc 6 1, 3) := by decide +kernel
theorem dX2_spread_60 : decode cX2_spread 60 = .ok (.goto (-46), 3) := by decide +kernel
theorem dX2_spread_63 : decode cX2_spread 63 = .ok (.iload 5, 2) := by decide +kernel
theorem dX2_spread_65 : decode cX2_spread 65 = .ok (.iload 4, 2) := by decide +kernel
theorem dX2_spread_67 : decode cX2_spread 67 = .ok (.isub, 1) := by decide +kernel
theorem dX2_spread_68 : decode cX2_spread 68 = .ok (.ireturn, 1) := by decide +kernel
theorem dX2_greatestHeight_0 : decode cX2_greatestHeight 0 = .ok (.aload_n 0, 1) := by decide +kernel
theorem dX2_greatestHeight_1 : decode cX2_greatestHeight 1 = .ok (.ldc 75, 2) := by decide +kernel
theorem dX2_greatestHeight_3 : decode cX2_greatestHeight 3 = .ok (.iconst 0, 1) := by decide +kernel
theorem dX2_greatestHeight_4 : decode cX2_greatestHeight 4 = .ok (.sipush 400, 3) := by decide +kernel
theorem dX2_greatestHeight_7 : decode cX2_greatestHeight 7 = .ok (.invokevirtual 82, 3) := by decide +kernel
theorem dX2_greatestHeight_10 : decode cX2_greatestHeight 10 = .ok (.ireturn, 1) := by decide +kernel
theorem dX2_greatestHeightUpTo_0 : decode cX2_greatestHeightUpTo 0 = .ok (.iconst 0, 1) := by decide +kernel
theorem dX2_greatestHeightUpTo_1 : decode cX2_greatestHeightUpTo 1 = .ok (.istore 4, 2) := by decide +kernel
theorem dX2_greatestHeightUpTo_3 : decode cX2_greatestHeightUpTo 3 = .ok (.iload_n 2, 1) := by decide +kernel
theorem dX2_greatestHeightUpTo_4 : decode cX2_greatestHeightUpTo 4 = .ok (.istore 5, 2) := by decide +kernel
theorem dX2_greatestHeightUpTo_6 : decode cX2_greatestHeightUpTo 6 = .ok (.iload 5, 2) := by decide +kernel
theorem dX2_greatestHeightUpTo_8 : decode cX2_greatestHeightUpTo 8 = .ok (.iload_n 3, 1) := by decide +kernel
theorem dX2_greatestHeightUpTo_9 : decode cX2_greatestHeightUpTo 9 = .ok (.if_icmp .ge 34, 3) := by decide +kernel
theorem dX2_greatestHeightUpTo_12 : decode cX2_greatestHeightUpTo 12 = .ok (.aload_n 0, 1) := by decide +kernel
theorem dX2_greatestHeightUpTo_13 : decode cX2_greatestHeightUpTo 13 = .ok (.iload 5, 2) := by decide +kernel
theorem dX2_greatestHeightUpTo_15 : decode cX2_greatestHeightUpTo 15 = .ok (.invokevirtual 72, 3) := by decide +kernel
theorem dX2_greatestHeightUpTo_18 : decode cX2_greatestHeightUpTo 18 = .ok (.istore 6, 2) := by decide +kernel
theorem dX2_greatestHeightUpTo_20 : decode cX2_greatestHeightUpTo 20 = .ok (.iload 6, 2) := by decide +kernel
theorem dX2_greatestHeightUpTo_22 : decode cX2_greatestHeightUpTo 22 = .ok (.iload_n 1, 1) := by decide +kernel
theorem dX2_greatestHeightUpTo_23 : decode cX2_greatestHeightUpTo 23 = .ok (.if_icmp .gt 14, 3) := by decide +kernel
theorem dX2_greatestHeightUpTo_26 : decode cX2_greatestHeightUpTo 26 = .ok (.iload 6, 2) := by decide +kernel
theorem dX2_greatestHeightUpTo_28 : decode cX2_greatestHeightUpTo 28 = .ok (.iload 4, 2) := by decide +kernel
theorem dX2_greatestHeightUpTo_30 : decode cX2_greatestHeightUpTo 30 = .ok (.if_icmp .le 7, 3) := by decide +kernel
theorem dX2_greatestHeightUpTo_33 : decode cX2_greatestHeightUpTo 33 = .ok (.iload 6, 2) := by decide +kernel
theorem dX2_greatestHeightUpTo_35 : decode cX2_greatestHeightUpTo 35 = .ok (.istore 4, 2) := by decide +kernel
theorem dX2_greatestHeightUpTo_37 : decode cX2_greatestHeightUpTo 37 = .ok (.iinc 5 1, 3) := by decide +kernel
theorem dX2_greatestHeightUpTo_40 : decode cX2_greatestHeightUpTo 40 = .ok (.goto (-34), 3) := by decide +kernel
theorem dX2_greatestHeightUpTo_43 : decode cX2_greatestHeightUpTo 43 = .ok (.iload 4, 2) := by decide +kernel
theorem dX2_greatestHeightUpTo_45 : decode cX2_greatestHeightUpTo 45 = .ok (.ireturn, 1) := by decide +kernel
theorem dX2_leastHeight_0 : decode cX2_leastHeight 0 = .ok (.aload_n 0, 1) := by decide +kernel
theorem dX2_leastHeight_1 : decode cX2_leastHeight 1 = .ok (.iload_n 1, 1) := by decide +kernel
theorem dX2_leastHeight_2 : decode cX2_leastHeight 2 = .ok (.invokevirtual 72, 3) := by decide +kernel
theorem dX2_leastHeight_5 : decode cX2_leastHeight 5 = .ok (.istore_n 3, 1) := by decide +kernel
theorem dX2_leastHeight_6 : decode cX2_leastHeight 6 = .ok (.iload_n 1, 1) := by decide +kernel
theorem dX2_leastHeight_7 : decode cX2_leastHeight 7 = .ok (.iconst 1, 1) := by decide +kernel
theorem dX2_leastHeight_8 : decode cX2_leastHeight 8 = .ok (.iadd, 1) := by decide +kernel
theorem dX2_leastHeight_9 : decode cX2_leastHeight 9 = .ok (.istore 4, 2) := by decide +kernel
theorem dX2_leastHeight_11 : decode cX2_leastHeight 11 = .ok (.iload 4, 2) := by decide +kernel
theorem dX2_leastHeight_13 : decode cX2_leastHeight 13 = .ok (.iload_n 2, 1) := by decide +kernel
theorem dX2_leastHeight_14 : decode cX2_leastHeight 14 = .ok (.if_icmp .ge 20, 3) := by decide +kernel
theorem dX2_leastHeight_17 : decode cX2_leastHeight 17 = .ok (.iload_n 3, 1) := by decide +kernel
theorem dX2_leastHeight_18 : decode cX2_leastHeight 18 = .ok (.aload_n 0, 1) := by decide +kernel
theorem dX2_leastHeight_19 : decode cX2_leastHeight 19 = .ok (.iload 4, 2) := by decide +kernel
theorem dX2_leastHeight_21 : decode cX2_leastHeight 21 = .ok (.invokevirtual 72, 3) := by decide +kernel
theorem dX2_leastHeight_24 : decode cX2_leastHeight 24 = .ok (.invokestatic 58, 3) := by decide +kernel
theorem dX2_leastHeight_27 : decode cX2_leastHeight 27 = .ok (.istore_n 3, 1) := by decide +kernel
theorem dX2_leastHeight_28 : decode cX2_leastHeight 28 = .ok (.iinc 4 1, 3) := by decide +kernel
theorem dX2_leastHeight_31 : decode cX2_leastHeight 31 = .ok (.goto (-20), 3) := by decide +kernel
theorem dX2_leastHeight_34 : decode cX2_leastHeight 34 = .ok (.iload_n 3, 1) := by decide +kernel
theorem dX2_leastHeight_35 : decode cX2_leastHeight 35 = .ok (.ireturn, 1) := by decide +kernel
theorem dX2_savedByLee_0 : decode cX2_savedByLee 0 = .ok (.aload_n 0, 1) := by decide +kernel
theorem dX2_savedByLee_1 : decode cX2_savedByLee 1 = .ok (.getfield 32, 3) := by decide +kernel
theorem dX2_savedByLee_4 : decode cX2_savedByLee 4 = .ok (.ifCond .ne 5, 3) := by decide +kernel
theorem dX2_savedByLee_7 : decode cX2_savedByLee 7 = .ok (.iconst (-1), 1) := by decide +kernel
theorem dX2_savedByLee_8 : decode cX2_savedByLee 8 = .ok (.ireturn, 1) := by decide +kernel
theorem dX2_savedByLee_9 : decode cX2_savedByLee 9 = .ok (.sipush 400, 3) := by decide +kernel
theorem dX2_savedByLee_12 : decode cX2_savedByLee 12 = .ok (.aload_n 0, 1) := by decide +kernel
theorem dX2_savedByLee_13 : decode cX2_savedByLee 13 = .ok (.getfield 28, 3) := by decide +kernel
theorem dX2_savedByLee_16 : decode cX2_savedByLee 16 = .ok (.aload_n 0, 1) := by decide +kernel
theorem dX2_savedByLee_17 : decode cX2_savedByLee 17 = .ok (.getfield 32, 3) := by decide +kernel
theorem dX2_savedByLee_20 : decode cX2_savedByLee 20 = .ok (.iadd, 1) := by decide +kernel
theorem dX2_savedByLee_21 : decode cX2_savedByLee 21 = .ok (.invokestatic 58, 3) := by decide +kernel
theorem dX2_savedByLee_24 : decode cX2_savedByLee 24 = .ok (.istore_n 1, 1) := by decide +kernel
theorem dX2_savedByLee_25 : decode cX2_savedByLee 25 = .ok (.iconst 0, 1) := by decide +kernel
theorem dX2_savedByLee_26 : decode cX2_savedByLee 26 = .ok (.istore_n 2, 1) := by decide +kernel
theorem dX2_savedByLee_27 : decode cX2_savedByLee 27 = .ok (.aload_n 0, 1) := by decide +kernel
theorem dX2_savedByLee_28 : decode cX2_savedByLee 28 = .ok (.getfield 28, 3) := by decide +kernel
theorem dX2_savedByLee_31 : decode cX2_savedByLee 31 = .ok (.istore_n 3, 1) := by decide +kernel
theorem dX2_savedByLee_32 : decode cX2_savedByLee 32 = .ok (.iload_n 3, 1) := by decide +kernel
theorem dX2_savedByLee_33 : decode cX2_savedByLee 33 = .ok (.iload_n 1, 1) := by decide +kernel
theorem dX2_savedByLee_34 : decode cX2_savedByLee 34 = .ok (.if_icmp .ge 19, 3) := by decide +kernel
theorem dX2_savedByLee_37 : decode cX2_savedByLee 37 = .ok (.iload_n 2, 1) := by decide +kernel
theorem dX2_savedByLee_38 : decode cX2_savedByLee 38 = .ok (.aload_n 0, 1) := by decide +kernel
theorem dX2_savedByLee_39 : decode cX2_savedByLee 39 = .ok (.iload_n 3, 1) := by decide +kernel
theorem dX2_savedByLee_40 : decode cX2_savedByLee 40 = .ok (.invokevirtual 63, 3) := by decide +kernel
theorem dX2_savedByLee_43 : decode cX2_savedByLee 43 = .ok (.invokestatic 79, 3) := by decide +kernel
theorem dX2_savedByLee_46 : decode cX2_savedByLee 46 = .ok (.istore_n 2, 1) := by decide +kernel
theorem dX2_savedByLee_47 : decode cX2_savedByLee 47 = .ok (.iinc 3 1, 3) := by decide +kernel
theorem dX2_savedByLee_50 : decode cX2_savedByLee 50 = .ok (.goto (-18), 3) := by decide +kernel
theorem dX2_savedByLee_53 : decode cX2_savedByLee 53 = .ok (.iload_n 2, 1) := by decide +kernel
theorem dX2_savedByLee_54 : decode cX2_savedByLee 54 = .ok (.aload_n 0, 1) := by decide +kernel
theorem dX2_savedByLee_55 : decode cX2_savedByLee 55 = .ok (.ldc 75, 2) := by decide +kernel
theorem dX2_savedByLee_57 : decode cX2_savedByLee 57 = .ok (.aload_n 0, 1) := by decide +kernel
theorem dX2_savedByLee_58 : decode cX2_savedByLee 58 = .ok (.getfield 28, 3) := by decide +kernel
theorem dX2_savedByLee_61 : decode cX2_savedByLee 61 = .ok (.iload_n 1, 1) := by decide +kernel
theorem dX2_savedByLee_62 : decode cX2_savedByLee 62 = .ok (.invokevirtual 82, 3) := by decide +kernel
theorem dX2_savedByLee_65 : decode cX2_savedByLee 65 = .ok (.isub, 1) := by decide +kernel
theorem dX2_savedByLee_66 : decode cX2_savedByLee 66 = .ok (.ireturn, 1) := by decide +kernel
theorem dX3_init_0 : decode cX3_init 0 = .ok (.aload_n 0, 1) := by decide +kernel
theorem dX3_init_1 : decode cX3_init 1 = .ok (.invokespecial 1, 3) := by decide +kernel
theorem dX3_init_4 : decode cX3_init 4 = .ok (.aload_n 0, 1) := by decide +kernel
theorem dX3_init_5 : decode cX3_init 5 = .ok (.getstatic 7, 3) := by decide +kernel
theorem dX3_init_8 : decode cX3_init 8 = .ok (.arraylength, 1) := by decide +kernel
theorem dX3_init_9 : decode cX3_init 9 = .ok (.newarray .int, 2) := by decide +kernel
theorem dX3_init_11 : decode cX3_init 11 = .ok (.putfield 13, 3) := by decide +kernel
theorem dX3_init_14 : decode cX3_init 14 = .ok (.iconst 0, 1) := by decide +kernel
theorem dX3_init_15 : decode cX3_init 15 = .ok (.istore_n 1, 1) := by decide +kernel
theorem dX3_init_16 : decode cX3_init 16 = .ok (.iload_n 1, 1) := by decide +kernel
theorem dX3_init_17 : decode cX3_init 17 = .ok (.aload_n 0, 1) := by decide +kernel
theorem dX3_init_18 : decode cX3_init 18 = .ok (.getfield 13, 3) := by decide +kernel
theorem dX3_init_21 : decode cX3_init 21 = .ok (.arraylength, 1) := by decide +kernel
theorem dX3_init_22 : decode cX3_init 22 = .ok (.if_icmp .ge 28, 3) := by decide +kernel
theorem dX3_init_25 : decode cX3_init 25 = .ok (.iload_n 1, 1) := by decide +kernel
theorem dX3_init_26 : decode cX3_init 26 = .ok (.getstatic 7, 3) := by decide +kernel
theorem dX3_init_29 : decode cX3_init 29 = .ok (.arraylength, 1) := by decide +kernel
theorem dX3_init_30 : decode cX3_init 30 = .ok (.if_icmp .ge 20, 3) := by decide +kernel
theorem dX3_init_33 : decode cX3_init 33 = .ok (.aload_n 0, 1) := by decide +kernel
theorem dX3_init_34 : decode cX3_init 34 = .ok (.getfield 13, 3) := by decide +kernel
theorem dX3_init_37 : decode cX3_init 37 = .ok (.iload_n 1, 1) := by decide +kernel
theorem dX3_init_38 : decode cX3_init 38 = .ok (.getstatic 7, 3) := by decide +kernel
theorem dX3_init_41 : decode cX3_init 41 = .ok (.iload_n 1, 1) := by decide +kernel
theorem dX3_init_42 : decode cX3_init 42 = .ok (.iaload, 1) := by decide +kernel
theorem dX3_init_43 : decode cX3_init 43 = .ok (.iastore, 1) := by decide +kernel
theorem dX3_init_44 : decode cX3_init 44 = .ok (.iinc 1 1, 3) := by decide +kernel
theorem dX3_init_47 : decode cX3_init 47 = .ok (.goto (-31), 3) := by decide +kernel
theorem dX3_init_50 : decode cX3_init 50 = .ok (.return_, 1) := by decide +kernel
theorem dX3_allows_0 : decode cX3_allows 0 = .ok (.iload_n 1, 1) := by decide +kernel
theorem dX3_allows_1 : decode cX3_allows 1 = .ok (.ifCond .lt 41, 3) := by decide +kernel
theorem dX3_allows_4 : decode cX3_allows 4 = .ok (.iload_n 1, 1) := by decide +kernel
theorem dX3_allows_5 : decode cX3_allows 5 = .ok (.getstatic 16, 3) := by decide +kernel
theorem dX3_allows_8 : decode cX3_allows 8 = .ok (.arraylength, 1) := by decide +kernel
theorem dX3_allows_9 : decode cX3_allows 9 = .ok (.if_icmp .ge 33, 3) := by decide +kernel
theorem dX3_allows_12 : decode cX3_allows 12 = .ok (.iload_n 1, 1) := by decide +kernel
theorem dX3_allows_13 : decode cX3_allows 13 = .ok (.getstatic 19, 3) := by decide +kernel
theorem dX3_allows_16 : decode cX3_allows 16 = .ok (.arraylength, 1) := by decide +kernel
theorem dX3_allows_17 : decode cX3_allows 17 = .ok (.if_icmp .ge 25, 3) := by decide +kernel
theorem dX3_allows_20 : decode cX3_allows 20 = .ok (.iload_n 2, 1) := by decide +kernel
theorem dX3_allows_21 : decode cX3_allows 21 = .ok (.getstatic 16, 3) := by decide +kernel
theorem dX3_allows_24 : decode cX3_allows 24 = .ok (.iload_n 1, 1) := by decide +kernel
theorem dX3_allows_25 : decode cX3_allows 25 = .ok (.iaload, 1) := by decide +kernel
theorem dX3_allows_26 : decode cX3_allows 26 = .ok (.if_icmp .lt 16, 3) := by decide +kernel
theorem dX3_allows_29 : decode cX3_allows 29 = .ok (.iload_n 2, 1) := by decide +kernel
theorem dX3_allows_30 : decode cX3_allows 30 = .ok (.getstatic 19, 3) := by decide +kernel
theorem dX3_allows_33 : decode cX3_allows 33 = .ok (.iload_n 1, 1) := by decide +kernel
theorem dX3_allows_34 : decode cX3_allows 34 = .ok (.iaload, 1) := by decide +kernel
theorem dX3_allows_35 : decode cX3_allows 35 = .ok (.if_icmp .gt 7, 3) := by decide +kernel
theorem dX3_allows_38 : decode cX3_allows 38 = .ok (.iconst 1, 1) := by decide +kernel
theorem dX3_allows_39 : decode cX3_allows 39 = .ok (.goto 4, 3) := by decide +kernel
theorem dX3_allows_42 : decode cX3_allows 42 = .ok (.iconst 0, 1) := by decide +kernel
theorem dX3_allows_43 : decode cX3_allows 43 = .ok (.ireturn, 1) := by decide +kernel
theorem dX3_of_0 : decode cX3_of 0 = .ok (.iload_n 1, 1) := by decide +kernel
theorem dX3_of_1 : decode cX3_of 1 = .ok (.ifCond .lt 21, 3) := by decide +kernel
theorem dX3_of_4 : decode cX3_of 4 = .ok (.iload_n 1, 1) := by decide +kernel
theorem dX3_of_5 : decode cX3_of 5 = .ok (.aload_n 0, 1) := by decide +kernel
theorem dX3_of_6 : decode cX3_of 6 = .ok (.getfield 13, 3) := by decide +kernel
theorem dX3_of_9 : decode cX3_of 9 = .ok (.arraylength, 1) := by decide +kernel
theorem dX3_of_10 : decode cX3_of 10 = .ok (.if_icmp .ge 12, 3) := by decide +kernel
theorem dX3_of_13 : decode cX3_of 13 = .ok (.aload_n 0, 1) := by decide +kernel
theorem dX3_of_14 : decode cX3_of 14 = .ok (.getfield 13, 3) := by decide +kernel
theorem dX3_of_17 : decode cX3_of 17 = .ok (.iload_n 1, 1) := by decide +kernel
theorem dX3_of_18 : decode cX3_of 18 = .ok (.iaload, 1) := by decide +kernel
theorem dX3_of_19 : decode cX3_of 19 = .ok (.goto 4, 3) := by decide +kernel
theorem dX3_of_22 : decode cX3_of 22 = .ok (.iconst 0, 1) := by decide +kernel
theorem dX3_of_23 : decode cX3_of 23 = .ok (.ireturn, 1) := by decide +kernel
theorem dX3_change_0 : decode cX3_change 0 = .ok (.iload_n 1, 1) := by decide +kernel
theorem dX3_change_1 : decode cX3_change 1 = .ok (.ifCond .lt 19, 3) := by decide +kernel
theorem dX3_change_4 : decode cX3_change 4 = .ok (.iload_n 1, 1) := by decide +kernel
theorem dX3_change_5 : decode cX3_change 5 = .ok (.aload_n 0, 1) := by decide +kernel
theorem dX3_change_6 : decode cX3_change 6 = .ok (.getfield 13, 3) := by decide +kernel
theorem dX3_change_9 : decode cX3_change 9 = .ok (.arraylength, 1) := by decide +kernel
theorem dX3_change_10 : decode cX3_change 10 = .ok (.if_icmp .ge 10, 3) := by decide +kernel
theorem dX3_change_13 : decode cX3_change 13 = .ok (.aload_n 0, 1) := by decide +kernel
theorem dX3_change_14 : decode cX3_change 14 = .ok (.getfield 13, 3) := by decide +kernel
theorem dX3_change_17 : decode cX3_change 17 = .ok (.iload_n 1, 1) := by decide +kernel
theorem dX3_change_18 : decode cX3_change 18 = .ok (.iload_n 2, 1) := by decide +kernel
theorem dX3_change_19 : decode cX3_change 19 = .ok (.iastore, 1) := by decide +kernel
theorem dX3_change_20 : decode cX3_change 20 = .ok (.return_, 1) := by decide +kernel
theorem dX4_init_0 : decode cX4_init 0 = .ok (.aload_n 0, 1) := by decide +kernel
theorem dX4_init_1 : decode cX4_init 1 = .ok (.invokespecial 3, 3) := by decide +kernel
theorem dX4_init_4 : decode cX4_init 4 = .ok (.aload_n 0, 1) := by decide +kernel
theorem dX4_init_5 : decode cX4_init 5 = .ok (.bipush 48, 2) := by decide +kernel
theorem dX4_init_7 : decode cX4_init 7 = .ok (.newarray .int, 2) := by decide +kernel
theorem dX4_init_9 : decode cX4_init 9 = .ok (.putfield 9, 3) := by decide +kernel
theorem dX4_init_12 : decode cX4_init 12 = .ok (.aload_n 0, 1) := by decide +kernel
theorem dX4_init_13 : decode cX4_init 13 = .ok (.iconst 1, 1) := by decide +kernel
theorem dX4_init_14 : decode cX4_init 14 = .ok (.putfield 15, 3) := by decide +kernel
theorem dX4_init_17 : decode cX4_init 17 = .ok (.return_, 1) := by decide +kernel
theorem dX4_become_0 : decode cX4_become 0 = .ok (.aload_n 0, 1) := by decide +kernel
theorem dX4_become_1 : decode cX4_become 1 = .ok (.iconst 0, 1) := by decide +kernel
theorem dX4_become_2 : decode cX4_become 2 = .ok (.putfield 15, 3) := by decide +kernel
theorem dX4_become_5 : decode cX4_become 5 = .ok (.aload_n 0, 1) := by decide +kernel
theorem dX4_become_6 : decode cX4_become 6 = .ok (.iload_n 1, 1) := by decide +kernel
theorem dX4_become_7 : decode cX4_become 7 = .ok (.putfield 19, 3) := by decide +kernel
theorem dX4_become_10 : decode cX4_become 10 = .ok (.aload_n 0, 1) := by decide +kernel
theorem dX4_become_11 : decode cX4_become 11 = .ok (.iload_n 2, 1) := by decide +kernel
theorem dX4_become_12 : decode cX4_become 12 = .ok (.putfield 23, 3) := by decide +kernel
theorem dX4_become_15 : decode cX4_become 15 = .ok (.iconst 0, 1) := by decide +kernel
theorem dX4_become_16 : decode cX4_become 16 = .ok (.istore_n 3, 1) := by decide +kernel
theorem dX4_become_17 : decode cX4_become 17 = .ok (.iload_n 3, 1) := by decide +kernel
theorem dX4_become_18 : decode cX4_become 18 = .ok (.aload_n 0, 1) := by decide +kernel
theorem dX4_become_19 : decode cX4_become 19 = .ok (.getfield 9, 3) := by decide +kernel
theorem dX4_become_22 : decode cX4_become 22 = .ok (.arraylength, 1) := by decide +kernel
theorem dX4_become_23 : decode cX4_become 23 = .ok (.if_icmp .ge 16, 3) := by decide +kernel
theorem dX4_become_26 : decode cX4_become 26 = .ok (.aload_n 0, 1) := by decide +kernel
theorem dX4_become_27 : decode cX4_become 27 = .ok (.getfield 9, 3) := by decide +kernel
theorem dX4_become_30 : decode cX4_become 30 = .ok (.iload_n 3, 1) := by decide +kernel
theorem dX4_become_31 : decode cX4_become 31 = .ok (.iconst 0, 1) := by decide +kernel
theorem dX4_become_32 : decode cX4_become 32 = .ok (.iastore, 1) := by decide +kernel
theorem dX4_become_33 : decode cX4_become 33 = .ok (.iinc 3 1, 3) := by decide +kernel
theorem dX4_become_36 : decode cX4_become 36 = .ok (.goto (-19), 3) := by decide +kernel
theorem dX4_become_39 : decode cX4_become 39 = .ok (.return_, 1) := by decide +kernel
theorem dX4_troubleAt_0 : decode cX4_troubleAt 0 = .ok (.aload_n 0, 1) := by decide +kernel
theorem dX4_troubleAt_1 : decode cX4_troubleAt 1 = .ok (.getfield 15, 3) := by decide +kernel
theorem dX4_troubleAt_4 : decode cX4_troubleAt 4 = .ok (.ifCond .eq 5, 3) := by decide +kernel
theorem dX4_troubleAt_7 : decode cX4_troubleAt 7 = .ok (.iconst 1, 1) := by decide +kernel
theorem dX4_troubleAt_8 : decode cX4_troubleAt 8 = .ok (.ireturn, 1) := by decide +kernel
theorem dX4_troubleAt_9 : decode cX4_troubleAt 9 = .ok (.aload_n 0, 1) := by decide +kernel
theorem dX4_troubleAt_10 : decode cX4_troubleAt 10 = .ok (.getfield 19, 3) := by decide +kernel
theorem dX4_troubleAt_13 : decode cX4_troubleAt 13 = .ok (.iload_n 1, 1) := by decide +kernel
theorem dX4_troubleAt_14 : decode cX4_troubleAt 14 = .ok (.if_icmp .eq 5, 3) := by decide +kernel
theorem dX4_troubleAt_17 : decode cX4_troubleAt 17 = .ok (.iconst 3, 1) := by decide +kernel
theorem dX4_troubleAt_18 : decode cX4_troubleAt 18 = .ok (.ireturn, 1) := by decide +kernel
theorem dX4_troubleAt_19 : decode cX4_troubleAt 19 = .ok (.iload_n 2, 1) := by decide +kernel
theorem dX4_troubleAt_20 : decode cX4_troubleAt 20 = .ok (.ifCond .lt 11, 3) := by decide +kernel
theorem dX4_troubleAt_23 : decode cX4_troubleAt 23 = .ok (.iload_n 2, 1) := by decide +kernel
theorem dX4_troubleAt_24 : decode cX4_troubleAt 24 = .ok (.aload_n 0, 1) := by decide +kernel
theorem dX4_troubleAt_25 : decode cX4_troubleAt 25 = .ok (.getfield 23, 3) := by decide +kernel
theorem dX4_troubleAt_28 : decode cX4_troubleAt 28 = .ok (.if_icmp .lt 7, 3) := by decide +kernel
theorem dX4_troubleAt_31 : decode cX4_troubleAt 31 = .ok (.iconst 2, 1) := by decide +kernel
theorem dX4_troubleAt_32 : decode cX4_troubleAt 32 = .ok (.goto 4, 3) := by decide +kernel
theorem dX4_troubleAt_35 : decode cX4_troubleAt 35 = .ok (.iconst 0, 1) := by decide +kernel
theorem dX4_troubleAt_36 : decode cX4_troubleAt 36 = .ok (.ireturn, 1) := by decide +kernel
theorem dX4_holds_0 : decode cX4_holds 0 = .ok (.iload_n 1, 1) := by decide +kernel
theorem dX4_holds_1 : decode cX4_holds 1 = .ok (.ifCond .lt 29, 3) := by decide +kernel
theorem dX4_holds_4 : decode cX4_holds 4 = .ok (.iload_n 2, 1) := by decide +kernel
theorem dX4_holds_5 : decode cX4_holds 5 = .ok (.ifCond .lt 25, 3) := by decide +kernel
theorem dX4_holds_8 : decode cX4_holds 8 = .ok (.iload_n 1, 1) := by decide +kernel
theorem dX4_holds_9 : decode cX4_holds 9 = .ok (.aload_n 0, 1) := by decide +kernel
theorem dX4_holds_10 : decode cX4_holds 10 = .ok (.getfield 23, 3) := by decide +kernel
theorem dX4_holds_13 : decode cX4_holds 13 = .ok (.if_icmp .gt 17, 3) := by decide +kernel
theorem dX4_holds_16 : decode cX4_holds 16 = .ok (.iload_n 2, 1) := by decide +kernel
theorem dX4_holds_17 : decode cX4_holds 17 = .ok (.aload_n 0, 1) := by decide +kernel
theorem dX4_holds_18 : decode cX4_holds 18 = .ok (.getfield 23, 3) := by decide +kernel
theorem dX4_holds_21 : decode cX4_holds 21 = .ok (.iload_n 1, 1) := by decide +kernel
theorem dX4_holds_22 : decode cX4_holds 22 = .ok (.isub, 1) := by decide +kernel
theorem dX4_holds_23 : decode cX4_holds 23 = .ok (.if_icmp .gt 7, 3) := by decide +kernel
theorem dX4_holds_26 : decode cX4_holds 26 = .ok (.iconst 1, 1) := by decide +kernel
theorem dX4_holds_27 : decode cX4_holds 27 = .ok (.goto 4, 3) := by decide +kernel
theorem dX4_holds_30 : decode cX4_holds 30 = .ok (.iconst 0, 1) := by decide +kernel
theorem dX4_holds_31 : decode cX4_holds 31 = .ok (.ireturn, 1) := by decide +kernel
theorem dX4_itemAt_0 : decode cX4_itemAt 0 = .ok (.iload_n 1, 1) := by decide +kernel
theorem dX4_itemAt_1 : decode cX4_itemAt 1 = .ok (.ifCond .lt 21, 3) := by decide +kernel
theorem dX4_itemAt_4 : decode cX4_itemAt 4 = .ok (.iload_n 1, 1) := by decide +kernel
theorem dX4_itemAt_5 : decode cX4_itemAt 5 = .ok (.aload_n 0, 1) := by decide +kernel
theorem dX4_itemAt_6 : decode cX4_itemAt 6 = .ok (.getfield 9, 3) := by decide +kernel
theorem dX4_itemAt_9 : decode cX4_itemAt 9 = .ok (.arraylength, 1) := by decide +kernel
theorem dX4_itemAt_10 : decode cX4_itemAt 10 = .ok (.if_icmp .ge 12, 3) := by decide +kernel
theorem dX4_itemAt_13 : decode cX4_itemAt 13 = .ok (.aload_n 0, 1) := by decide +kernel
theorem dX4_itemAt_14 : decode cX4_itemAt 14 = .ok (.getfield 9, 3) := by decide +kernel
theorem dX4_itemAt_17 : decode cX4_itemAt 17 = .ok (.iload_n 1, 1) := by decide +kernel
theorem dX4_itemAt_18 : decode cX4_itemAt 18 = .ok (.iaload, 1) := by decide +kernel
theorem dX4_itemAt_19 : decode cX4_itemAt 19 = .ok (.goto 4, 3) := by decide +kernel
theorem dX4_itemAt_22 : decode cX4_itemAt 22 = .ok (.iconst 0, 1) := by decide +kernel
theorem dX4_itemAt_23 : decode cX4_itemAt 23 = .ok (.ireturn, 1) := by decide +kernel
theorem dX4_store_0 : decode cX4_store 0 = .ok (.iload_n 1, 1) := by decide +kernel
theorem dX4_store_1 : decode cX4_store 1 = .ok (.ifCond .lt 23, 3) := by decide +kernel
theorem dX4_store_4 : decode cX4_store 4 = .ok (.iload_n 1, 1) := by decide +kernel
theorem dX4_store_5 : decode cX4_store 5 = .ok (.aload_n 0, 1) := by decide +kernel
theorem dX4_store_6 : decode cX4_store 6 = .ok (.getfield 9, 3) := by decide +kernel
theorem dX4_store_9 : decode cX4_store 9 = .ok (.arraylength, 1) := by decide +kernel
theorem dX4_store_10 : decode cX4_store 10 = .ok (.if_icmp .ge 14, 3) := by decide +kernel
theorem dX4_store_13 : decode cX4_store 13 = .ok (.aload_n 0, 1) := by decide +kernel
theorem dX4_store_14 : decode cX4_store 14 = .ok (.getfield 9, 3) := by decide +kernel
theorem dX4_store_17 : decode cX4_store 17 = .ok (.iload_n 1, 1) := by decide +kernel
theorem dX4_store_18 : decode cX4_store 18 = .ok (.aload_n 0, 1) := by decide +kernel
theorem dX4_store_19 : decode cX4_store 19 = .ok (.iload_n 2, 1) := by decide +kernel
theorem dX4_store_20 : decode cX4_store 20 = .ok (.invokevirtual 26, 3) := by decide +kernel
theorem dX4_store_23 : decode cX4_store 23 = .ok (.iastore, 1) := by decide +kernel
theorem dX4_store_24 : decode cX4_store 24 = .ok (.return_, 1) := by decide +kernel
theorem dX4_narrow_0 : decode cX4_narrow 0 = .ok (.aload_n 0, 1) := by decide +kernel
theorem dX4_narrow_1 : decode cX4_narrow 1 = .ok (.getfield 19, 3) := by decide +kernel
theorem dX4_narrow_4 : decode cX4_narrow 4 = .ok (.ifCond .ne 6, 3) := by decide +kernel
theorem dX4_narrow_7 : decode cX4_narrow 7 = .ok (.iload_n 1, 1) := by decide +kernel
theorem dX4_narrow_8 : decode cX4_narrow 8 = .ok (.i2b, 1) := by decide +kernel
theorem dX4_narrow_9 : decode cX4_narrow 9 = .ok (.ireturn, 1) := by decide +kernel
theorem dX4_narrow_10 : decode cX4_narrow 10 = .ok (.aload_n 0, 1) := by decide +kernel
theorem dX4_narrow_11 : decode cX4_narrow 11 = .ok (.getfield 19, 3) := by decide +kernel
theorem dX4_narrow_14 : decode cX4_narrow 14 = .ok (.iconst 1, 1) := by decide +kernel
theorem dX4_narrow_15 : decode cX4_narrow 15 = .ok (.if_icmp .ne 8, 3) := by decide +kernel
theorem dX4_narrow_18 : decode cX4_narrow 18 = .ok (.iload_n 1, 1) := by decide +kernel
theorem dX4_narrow_19 : decode cX4_narrow 19 = .ok (.i2s, 1) := by decide +kernel
theorem dX4_narrow_20 : decode cX4_narrow 20 = .ok (.goto 4, 3) := by decide +kernel
theorem dX4_narrow_23 : decode cX4_narrow 23 = .ok (.iload_n 1, 1) := by decide +kernel
theorem dX4_narrow_24 : decode cX4_narrow 24 = .ok (.ireturn, 1) := by decide +kernel
theorem dX4_take_0 : decode cX4_take 0 = .ok (.iconst 0, 1) := by decide +kernel
theorem dX4_take_1 : decode cX4_take 1 = .ok (.istore 5, 2) := by decide +kernel
theorem dX4_take_3 : decode cX4_take 3 = .ok (.iload 5, 2) := by decide +kernel
theorem dX4_take_5 : decode cX4_take 5 = .ok (.iload 4, 2) := by decide +kernel
theorem dX4_take_7 : decode cX4_take 7 = .ok (.if_icmp .ge 44, 3) := by decide +kernel
theorem dX4_take_10 : decode cX4_take 10 = .ok (.iload_n 3, 1) := by decide +kernel
theorem dX4_take_11 : decode cX4_take 11 = .ok (.iload_n 2, 1) := by decide +kernel
theorem dX4_take_12 : decode cX4_take 12 = .ok (.if_icmp .le 13, 3) := by decide +kernel
theorem dX4_take_15 : decode cX4_take 15 = .ok (.iload 4, 2) := by decide +kernel
theorem dX4_take_17 : decode cX4_take 17 = .ok (.iconst 1, 1) := by decide +kernel
theorem dX4_take_18 : decode cX4_take 18 = .ok (.isub, 1) := by decide +kernel
theorem dX4_take_19 : decode cX4_take 19 = .ok (.iload 5, 2) := by decide +kernel
theorem dX4_take_21 : decode cX4_take 21 = .ok (.isub, 1) := by decide +kernel
theorem dX4_take_22 : decode cX4_take 22 = .ok (.goto 5, 3) := by decide +kernel
theorem dX4_take_25 : decode cX4_take 25 = .ok (.iload 5, 2) := by decide +kernel
theorem dX4_take_27 : decode cX4_take 27 = .ok (.istore 6, 2) := by decide +kernel
theorem dX4_take_29 : decode cX4_take 29 = .ok (.aload_n 0, 1) := by decide +kernel
theorem dX4_take_30 : decode cX4_take 30 = .ok (.iload_n 3, 1) := by decide +kernel
theorem dX4_take_31 : decode cX4_take 31 = .ok (.iload 6, 2) := by decide +kernel
theorem dX4_take_33 : decode cX4_take 33 = .ok (.iadd, 1) := by decide +kernel
theorem dX4_take_34 : decode cX4_take 34 = .ok (.aload_n 1, 1) := by decide +kernel
theorem dX4_take_35 : decode cX4_take 35 = .ok (.iload_n 2, 1) := by decide +kernel
theorem dX4_take_36 : decode cX4_take 36 = .ok (.iload 6, 2) := by decide +kernel
theorem dX4_take_38 : decode cX4_take 38 = .ok (.iadd, 1) := by decide +kernel
theorem dX4_take_39 : decode cX4_take 39 = .ok (.invokevirtual 30, 3) := by decide +kernel
theorem dX4_take_42 : decode cX4_take 42 = .ok (.invokevirtual 33, 3) := by decide +kernel
theorem dX4_take_45 : decode cX4_take 45 = .ok (.iinc 5 1, 3) := by decide +kernel
theorem dX4_take_48 : decode cX4_take 48 = .ok (.goto (-45), 3) := by decide +kernel
theorem dX4_take_51 : decode cX4_take 51 = .ok (.return_, 1) := by decide +kernel
theorem dX5_init_0 : decode cX5_init 0 = .ok (.aload_n 0, 1) := by decide +kernel
theorem dX5_init_1 : decode cX5_init 1 = .ok (.invokespecial 3, 3) := by decide +kernel
theorem dX5_init_4 : decode cX5_init 4 = .ok (.aload_n 0, 1) := by decide +kernel
theorem dX5_init_5 : decode cX5_init 5 = .ok (.aload_n 1, 1) := by decide +kernel
theorem dX5_init_6 : decode cX5_init 6 = .ok (.putfield 9, 3) := by decide +kernel
theorem dX5_init_9 : decode cX5_init 9 = .ok (.return_, 1) := by decide +kernel
theorem dX5_renew_0 : decode cX5_renew 0 = .ok (.aload_n 0, 1) := by decide +kernel
theorem dX5_renew_1 : decode cX5_renew 1 = .ok (.aload_n 0, 1) := by decide +kernel
theorem dX5_renew_2 : decode cX5_renew 2 = .ok (.getfield 9, 3) := by decide +kernel
theorem dX5_renew_5 : decode cX5_renew 5 = .ok (.iconst 0, 1) := by decide +kernel
theorem dX5_renew_6 : decode cX5_renew 6 = .ok (.invokevirtual 15, 3) := by decide +kernel
theorem dX5_renew_9 : decode cX5_renew 9 = .ok (.putfield 21, 3) := by decide +kernel
theorem dX5_renew_12 : decode cX5_renew 12 = .ok (.aload_n 0, 1) := by decide +kernel
theorem dX5_renew_13 : decode cX5_renew 13 = .ok (.aload_n 0, 1) := by decide +kernel
theorem dX5_renew_14 : decode cX5_renew 14 = .ok (.getfield 9, 3) := by decide +kernel
theorem dX5_renew_17 : decode cX5_renew 17 = .ok (.iconst 0, 1) := by decide +kernel
theorem dX5_renew_18 : decode cX5_renew 18 = .ok (.invokevirtual 25, 3) := by decide +kernel
theorem dX5_renew_21 : decode cX5_renew 21 = .ok (.putfield 28, 3) := by decide +kernel
theorem dX5_renew_24 : decode cX5_renew 24 = .ok (.return_, 1) := by decide +kernel
theorem dX5_leanAt_0 : decode cX5_leanAt 0 = .ok (.aload_n 0, 1) := by decide +kernel
theorem dX5_leanAt_1 : decode cX5_leanAt 1 = .ok (.getfield 21, 3) := by decide +kernel
theorem dX5_leanAt_4 : decode cX5_leanAt 4 = .ok (.ifCond .eq 11, 3) := by decide +kernel
theorem dX5_leanAt_7 : decode cX5_leanAt 7 = .ok (.aload_n 0, 1) := by decide +kernel
theorem dX5_leanAt_8 : decode cX5_leanAt 8 = .ok (.getfield 28, 3) := by decide +kernel
theorem dX5_leanAt_11 : decode cX5_leanAt 11 = .ok (.iconst 2, 1) := by decide +kernel
theorem dX5_leanAt_12 : decode cX5_leanAt 12 = .ok (.if_icmp .ge 5, 3) := by decide +kernel
theorem dX5_leanAt_15 : decode cX5_leanAt 15 = .ok (.iconst 0, 1) := by decide +kernel
theorem dX5_leanAt_16 : decode cX5_leanAt 16 = .ok (.ireturn, 1) := by decide +kernel
theorem dX5_leanAt_17 : decode cX5_leanAt 17 = .ok (.iconst 4, 1) := by decide +kernel
theorem dX5_leanAt_18 : decode cX5_leanAt 18 = .ok (.iload_n 1, 1) := by decide +kernel
theorem dX5_leanAt_19 : decode cX5_leanAt 19 = .ok (.aload_n 0, 1) := by decide +kernel
theorem dX5_leanAt_20 : decode cX5_leanAt 20 = .ok (.getfield 28, 3) := by decide +kernel
theorem dX5_leanAt_23 : decode cX5_leanAt 23 = .ok (.irem, 1) := by decide +kernel
theorem dX5_leanAt_24 : decode cX5_leanAt 24 = .ok (.imul, 1) := by decide +kernel
theorem dX5_leanAt_25 : decode cX5_leanAt 25 = .ok (.istore_n 2, 1) := by decide +kernel
theorem dX5_leanAt_26 : decode cX5_leanAt 26 = .ok (.iload_n 2, 1) := by decide +kernel
theorem dX5_leanAt_27 : decode cX5_leanAt 27 = .ok (.aload_n 0, 1) := by decide +kernel
theorem dX5_leanAt_28 : decode cX5_leanAt 28 = .ok (.getfield 28, 3) := by decide +kernel
theorem dX5_leanAt_31 : decode cX5_leanAt 31 = .ok (.if_icmp .lt 13, 3) := by decide +kernel
theorem dX5_leanAt_34 : decode cX5_leanAt 34 = .ok (.iload_n 2, 1) := by decide +kernel
theorem dX5_leanAt_35 : decode cX5_leanAt 35 = .ok (.iconst 3, 1) := by decide +kernel
theorem dX5_leanAt_36 : decode cX5_leanAt 36 = .ok (.aload_n 0, 1) := by decide +kernel
theorem dX5_leanAt_37 : decode cX5_leanAt 37 = .ok (.getfield 28, 3) := by decide +kernel
theorem dX5_leanAt_40 : decode cX5_leanAt 40 = .ok (.imul, 1) := by decide +kernel
theorem dX5_leanAt_41 : decode cX5_leanAt 41 = .ok (.if_icmp .lt 7, 3) := by decide +kernel
theorem dX5_leanAt_44 : decode cX5_leanAt 44 = .ok (.iconst 1, 1) := by decide +kernel
theorem dX5_leanAt_45 : decode cX5_leanAt 45 = .ok (.goto 4, 3) := by decide +kernel
theorem dX5_leanAt_48 : decode cX5_leanAt 48 = .ok (.iconst 2, 1) := by decide +kernel
theorem dX5_leanAt_49 : decode cX5_leanAt 49 = .ok (.ireturn, 1) := by decide +kernel
theorem dX5_notOutFrom_0 : decode cX5_notOutFrom 0 = .ok (.iload_n 1, 1) := by decide +kernel
theorem dX5_notOutFrom_1 : decode cX5_notOutFrom 1 = .ok (.istore_n 2, 1) := by decide +kernel
theorem dX5_notOutFrom_2 : decode cX5_notOutFrom 2 = .ok (.iload_n 2, 1) := by decide +kernel
theorem dX5_notOutFrom_3 : decode cX5_notOutFrom 3 = .ok (.sipush 400, 3) := by decide +kernel
theorem dX5_notOutFrom_6 : decode cX5_notOutFrom 6 = .ok (.if_icmp .ge 20, 3) := by decide +kernel
theorem dX5_notOutFrom_9 : decode cX5_notOutFrom 9 = .ok (.aload_n 0, 1) := by decide +kernel
theorem dX5_notOutFrom_10 : decode cX5_notOutFrom 10 = .ok (.iload_n 2, 1) := by decide +kernel
theorem dX5_notOutFrom_11 : decode cX5_notOutFrom 11 = .ok (.invokevirtual 31, 3) := by decide +kernel
theorem dX5_notOutFrom_14 : decode cX5_notOutFrom 14 = .ok (.iconst 1, 1) := by decide +kernel
theorem dX5_notOutFrom_15 : decode cX5_notOutFrom 15 = .ok (.if_icmp .eq 5, 3) := by decide +kernel
theorem dX5_notOutFrom_18 : decode cX5_notOutFrom 18 = .ok (.iload_n 2, 1) := by decide +kernel
theorem dX5_notOutFrom_19 : decode cX5_notOutFrom 19 = .ok (.ireturn, 1) := by decide +kernel
theorem dX5_notOutFrom_20 : decode cX5_notOutFrom 20 = .ok (.iinc 2 1, 3) := by decide +kernel
theorem dX5_notOutFrom_23 : decode cX5_notOutFrom 23 = .ok (.goto (-21), 3) := by decide +kernel
theorem dX5_notOutFrom_26 : decode cX5_notOutFrom 26 = .ok (.sipush 400, 3) := by decide +kernel
theorem dX5_notOutFrom_29 : decode cX5_notOutFrom 29 = .ok (.ireturn, 1) := by decide +kernel
theorem dX6_init_0 : decode cX6_init 0 = .ok (.aload_n 0, 1) := by decide +kernel
theorem dX6_init_1 : decode cX6_init 1 = .ok (.invokespecial 3, 3) := by decide +kernel
theorem dX6_init_4 : decode cX6_init 4 = .ok (.aload_n 0, 1) := by decide +kernel
theorem dX6_init_5 : decode cX6_init 5 = .ok (.bipush 8, 2) := by decide +kernel
theorem dX6_init_7 : decode cX6_init 7 = .ok (.newarray .int, 2) := by decide +kernel
theorem dX6_init_9 : decode cX6_init 9 = .ok (.putfield 9, 3) := by decide +kernel
theorem dX6_init_12 : decode cX6_init 12 = .ok (.aload_n 0, 1) := by decide +kernel
theorem dX6_init_13 : decode cX6_init 13 = .ok (.bipush 8, 2) := by decide +kernel
theorem dX6_init_15 : decode cX6_init 15 = .ok (.newarray .int, 2) := by decide +kernel
theorem dX6_init_17 : decode cX6_init 17 = .ok (.putfield 15, 3) := by decide +kernel
theorem dX6_init_20 : decode cX6_init 20 = .ok (.return_, 1) := by decide +kernel
theorem dX6_append_0 : decode cX6_append 0 = .ok (.aload_n 0, 1) := by decide +kernel
theorem dX6_append_1 : decode cX6_append 1 = .ok (.getfield 18, 3) := by decide +kernel
theorem dX6_append_4 : decode cX6_append 4 = .ok (.ifCond .lt 57, 3) := by decide +kernel
theorem dX6_append_7 : decode cX6_append 7 = .ok (.aload_n 0, 1) := by decide +kernel
theorem dX6_append_8 : decode cX6_append 8 = .ok (.getfield 18, 3) := by decide +kernel
theorem dX6_append_11 : decode cX6_append 11 = .ok (.aload_n 0, 1) := by decide +kernel
theorem dX6_append_12 : decode cX6_append 12 = .ok (.getfield 9, 3) := by decide +kernel
theorem dX6_append_15 : decode cX6_append 15 = .ok (.arraylength, 1) := by decide +kernel
theorem dX6_append_16 : decode cX6_append 16 = .ok (.if_icmp .ge 45, 3) := by decide +kernel
theorem dX6_append_19 : decode cX6_append 19 = .ok (.aload_n 0, 1) := by decide +kernel
theorem dX6_append_20 : decode cX6_append 20 = .ok (.getfield 18, 3) := by decide +kernel
theorem dX6_append_23 : decode cX6_append 23 = .ok (.aload_n 0, 1) := by decide +kernel
theorem dX6_append_24 : decode cX6_append 24 = .ok (.getfield 15, 3) := by decide +kernel
theorem dX6_append_27 : decode cX6_append 27 = .ok (.arraylength, 1) := by decide +kernel
theorem dX6_append_28 : decode cX6_append 28 = .ok (.if_icmp .ge 33, 3) := by decide +kernel
theorem dX6_append_31 : decode cX6_append 31 = .ok (.aload_n 0, 1) := by decide +kernel
theorem dX6_append_32 : decode cX6_append 32 = .ok (.getfield 9, 3) := by decide +kernel
theorem dX6_append_35 : decode cX6_append 35 = .ok (.aload_n 0, 1) := by decide +kernel
theorem dX6_append_36 : decode cX6_append 36 = .ok (.getfield 18, 3) := by decide +kernel
theorem dX6_append_39 : decode cX6_append 39 = .ok (.iload_n 1, 1) := by decide +kernel
theorem dX6_append_40 : decode cX6_append 40 = .ok (.iastore, 1) := by decide +kernel
theorem dX6_append_41 : decode cX6_append 41 = .ok (.aload_n 0, 1) := by decide +kernel
theorem dX6_append_42 : decode cX6_append 42 = .ok (.getfield 15, 3) := by decide +kernel
theorem dX6_append_45 : decode cX6_append 45 = .ok (.aload_n 0, 1) := by decide +kernel
theorem dX6_append_46 : decode cX6_append 46 = .ok (.getfield 18, 3) := by decide +kernel
theorem dX6_append_49 : decode cX6_append 49 = .ok (.iload_n 2, 1) := by decide +kernel
theorem dX6_append_50 : decode cX6_append 50 = .ok (.iastore, 1) := by decide +kernel
theorem dX6_append_51 : decode cX6_append 51 = .ok (.aload_n 0, 1) := by decide +kernel
theorem dX6_append_52 : decode cX6_append 52 = .ok (.dup, 1) := by decide +kernel
theorem dX6_append_53 : decode cX6_append 53 = .ok (.getfield 18, 3) := by decide +kernel
theorem dX6_append_56 : decode cX6_append 56 = .ok (.iconst 1, 1) := by decide +kernel
theorem dX6_append_57 : decode cX6_append 57 = .ok (.iadd, 1) := by decide +kernel
theorem dX6_append_58 : decode cX6_append 58 = .ok (.putfield 18, 3) := by decide +kernel
theorem dX6_append_61 : decode cX6_append 61 = .ok (.return_, 1) := by decide +kernel
theorem dX6_tenthOf_0 : decode cX6_tenthOf 0 = .ok (.iload_n 1, 1) := by decide +kernel
theorem dX6_tenthOf_1 : decode cX6_tenthOf 1 = .ok (.ifCond .lt 21, 3) := by decide +kernel
theorem dX6_tenthOf_4 : decode cX6_tenthOf 4 = .ok (.iload_n 1, 1) := by decide +kernel
theorem dX6_tenthOf_5 : decode cX6_tenthOf 5 = .ok (.aload_n 0, 1) := by decide +kernel
theorem dX6_tenthOf_6 : decode cX6_tenthOf 6 = .ok (.getfield 9, 3) := by decide +kernel
theorem dX6_tenthOf_9 : decode cX6_tenthOf 9 = .ok (.arraylength, 1) := by decide +kernel
theorem dX6_tenthOf_10 : decode cX6_tenthOf 10 = .ok (.if_icmp .ge 12, 3) := by decide +kernel
theorem dX6_tenthOf_13 : decode cX6_tenthOf 13 = .ok (.aload_n 0, 1) := by decide +kernel
theorem dX6_tenthOf_14 : decode cX6_tenthOf 14 = .ok (.getfield 9, 3) := by decide +kernel
theorem dX6_tenthOf_17 : decode cX6_tenthOf 17 = .ok (.iload_n 1, 1) := by decide +kernel
theorem dX6_tenthOf_18 : decode cX6_tenthOf 18 = .ok (.iaload, 1) := by decide +kernel
theorem dX6_tenthOf_19 : decode cX6_tenthOf 19 = .ok (.goto 4, 3) := by decide +kernel
theorem dX6_tenthOf_22 : decode cX6_tenthOf 22 = .ok (.iconst 0, 1) := by decide +kernel
theorem dX6_tenthOf_23 : decode cX6_tenthOf 23 = .ok (.ireturn, 1) := by decide +kernel
theorem dX6_heightOf_0 : decode cX6_heightOf 0 = .ok (.iload_n 1, 1) := by decide +kernel
theorem dX6_heightOf_1 : decode cX6_heightOf 1 = .ok (.ifCond .lt 21, 3) := by decide +kernel
theorem dX6_heightOf_4 : decode cX6_heightOf 4 = .ok (.iload_n 1, 1) := by decide +kernel
theorem dX6_heightOf_5 : decode cX6_heightOf 5 = .ok (.aload_n 0, 1) := by decide +kernel
theorem dX6_heightOf_6 : decode cX6_heightOf 6 = .ok (.getfield 15, 3) := by decide +kernel
theorem dX6_heightOf_9 : decode cX6_heightOf 9 = .ok (.arraylength, 1) := by decide +kernel
theorem dX6_heightOf_10 : decode cX6_heightOf 10 = .ok (.if_icmp .ge 12, 3) := by decide +kernel
theorem dX6_heightOf_13 : decode cX6_heightOf 13 = .ok (.aload_n 0, 1) := by decide +kernel
theorem dX6_heightOf_14 : decode cX6_heightOf 14 = .ok (.getfield 15, 3) := by decide +kernel
theorem dX6_heightOf_17 : decode cX6_heightOf 17 = .ok (.iload_n 1, 1) := by decide +kernel
theorem dX6_heightOf_18 : decode cX6_heightOf 18 = .ok (.iaload, 1) := by decide +kernel
theorem dX6_heightOf_19 : decode cX6_heightOf 19 = .ok (.goto 4, 3) := by decide +kernel
theorem dX6_heightOf_22 : decode cX6_heightOf 22 = .ok (.iconst 0, 1) := by decide +kernel
theorem dX6_heightOf_23 : decode cX6_heightOf 23 = .ok (.ireturn, 1) := by decide +kernel
theorem dX7_init_0 : decode cX7_init 0 = .ok (.aload_n 0, 1) := by decide +kernel
theorem dX7_init_1 : decode cX7_init 1 = .ok (.invokespecial 3, 3) := by decide +kernel
theorem dX7_init_4 : decode cX7_init 4 = .ok (.aload_n 0, 1) := by decide +kernel
theorem dX7_init_5 : decode cX7_init 5 = .ok (.bipush 23, 2) := by decide +kernel
theorem dX7_init_7 : decode cX7_init 7 = .ok (.newarray .int, 2) := by decide +kernel
theorem dX7_init_9 : decode cX7_init 9 = .ok (.putfield 9, 3) := by decide +kernel
theorem dX7_init_12 : decode cX7_init 12 = .ok (.aload_n 0, 1) := by decide +kernel
theorem dX7_init_13 : decode cX7_init 13 = .ok (.bipush 6, 2) := by decide +kernel
theorem dX7_init_15 : decode cX7_init 15 = .ok (.newarray .int, 2) := by decide +kernel
theorem dX7_init_17 : decode cX7_init 17 = .ok (.putfield 15, 3) := by decide +kernel
theorem dX7_init_20 : decode cX7_init 20 = .ok (.aload_n 0, 1) := by decide +kernel
theorem dX7_init_21 : decode cX7_init 21 = .ok (.bipush 6, 2) := by decide +kernel
theorem dX7_init_23 : decode cX7_init 23 = .ok (.newarray .int, 2) := by decide +kernel
theorem dX7_init_25 : decode cX7_init 25 = .ok (.putfield 18, 3) := by decide +kernel
theorem dX7_init_28 : decode cX7_init 28 = .ok (.aload_n 0, 1) := by decide +kernel
theorem dX7_init_29 : decode cX7_init 29 = .ok (.iconst (-1), 1) := by decide +kernel
theorem dX7_init_30 : decode cX7_init 30 = .ok (.putfield 21, 3) := by decide +kernel
theorem dX7_init_33 : decode cX7_init 33 = .ok (.aload_n 0, 1) := by decide +kernel
theorem dX7_init_34 : decode cX7_init 34 = .ok (.iload_n 1, 1) := by decide +kernel
theorem dX7_init_35 : decode cX7_init 35 = .ok (.putfield 25, 3) := by decide +kernel
theorem dX7_init_38 : decode cX7_init 38 = .ok (.aload_n 0, 1) := by decide +kernel
theorem dX7_init_39 : decode cX7_init 39 = .ok (.iload_n 2, 1) := by decide +kernel
theorem dX7_init_40 : decode cX7_init 40 = .ok (.putfield 28, 3) := by decide +kernel
theorem dX7_init_43 : decode cX7_init 43 = .ok (.return_, 1) := by decide +kernel
theorem dX7_isFull_0 : decode cX7_isFull 0 = .ok (.aload_n 0, 1) := by decide +kernel
theorem dX7_isFull_1 : decode cX7_isFull 1 = .ok (.getfield 31, 3) := by decide +kernel
theorem dX7_isFull_4 : decode cX7_isFull 4 = .ok (.aload_n 0, 1) := by decide +kernel
theorem dX7_isFull_5 : decode cX7_isFull 5 = .ok (.getfield 25, 3) := by decide +kernel
theorem dX7_isFull_8 : decode cX7_isFull 8 = .ok (.if_icmp .lt 7, 3) := by decide +kernel
theorem dX7_isFull_11 : decode cX7_isFull 11 = .ok (.iconst 1, 1) := by decide +kernel
theorem dX7_isFull_12 : decode cX7_isFull 12 = .ok (.goto 4, 3) := by decide +kernel
theorem dX7_isFull_15 : decode cX7_isFull 15 = .ok (.iconst 0, 1) := by decide +kernel
theorem dX7_isFull_16 : decode cX7_isFull 16 = .ok (.ireturn, 1) := by decide +kernel
theorem dX7_append_0 : decode cX7_append 0 = .ok (.aload_n 0, 1) := by decide +kernel
theorem dX7_append_1 : decode cX7_append 1 = .ok (.getfield 31, 3) := by decide +kernel
theorem dX7_append_4 : decode cX7_append 4 = .ok (.ifCond .lt 39, 3) := by decide +kernel
theorem dX7_append_7 : decode cX7_append 7 = .ok (.aload_n 0, 1) := by decide +kernel
theorem dX7_append_8 : decode cX7_append 8 = .ok (.getfield 31, 3) := by decide +kernel
theorem dX7_append_11 : decode cX7_append 11 = .ok (.aload_n 0, 1) := by decide +kernel
theorem dX7_append_12 : decode cX7_append 12 = .ok (.getfield 9, 3) := by decide +kernel
theorem dX7_append_15 : decode cX7_append 15 = .ok (.arraylength, 1) := by decide +kernel
theorem dX7_append_16 : decode cX7_append 16 = .ok (.if_icmp .ge 27, 3) := by decide +kernel
theorem dX7_append_19 : decode cX7_append 19 = .ok (.aload_n 0, 1) := by decide +kernel
theorem dX7_append_20 : decode cX7_append 20 = .ok (.getfield 9, 3) := by decide +kernel
theorem dX7_append_23 : decode cX7_append 23 = .ok (.aload_n 0, 1) := by decide +kernel
theorem dX7_append_24 : decode cX7_append 24 = .ok (.getfield 31, 3) := by decide +kernel
theorem dX7_append_27 : decode cX7_append 27 = .ok (.iload_n 1, 1) := by decide +kernel
theorem dX7_append_28 : decode cX7_append 28 = .ok (.iastore, 1) := by decide +kernel
theorem dX7_append_29 : decode cX7_append 29 = .ok (.aload_n 0, 1) := by decide +kernel
theorem dX7_append_30 : decode cX7_append 30 = .ok (.dup, 1) := by decide +kernel
theorem dX7_append_31 : decode cX7_append 31 = .ok (.getfield 31, 3) := by decide +kernel
theorem dX7_append_34 : decode cX7_append 34 = .ok (.iconst 1, 1) := by decide +kernel
theorem dX7_append_35 : decode cX7_append 35 = .ok (.iadd, 1) := by decide +kernel
theorem dX7_append_36 : decode cX7_append 36 = .ok (.putfield 31, 3) := by decide +kernel
theorem dX7_append_39 : decode cX7_append 39 = .ok (.aload_n 0, 1) := by decide +kernel
theorem dX7_append_40 : decode cX7_append 40 = .ok (.invokevirtual 34, 3) := by decide +kernel
theorem dX7_append_43 : decode cX7_append 43 = .ok (.return_, 1) := by decide +kernel
theorem dX7_shorten_0 : decode cX7_shorten 0 = .ok (.aload_n 0, 1) := by decide +kernel
theorem dX7_shorten_1 : decode cX7_shorten 1 = .ok (.iload_n 1, 1) := by decide +kernel
theorem dX7_shorten_2 : decode cX7_shorten 2 = .ok (.putfield 31, 3) := by decide +kernel
theorem dX7_shorten_5 : decode cX7_shorten 5 = .ok (.aload_n 0, 1) := by decide +kernel
theorem dX7_shorten_6 : decode cX7_shorten 6 = .ok (.invokevirtual 34, 3) := by decide +kernel
theorem dX7_shorten_9 : decode cX7_shorten 9 = .ok (.return_, 1) := by decide +kernel
theorem dX7_heightOf_0 : decode cX7_heightOf 0 = .ok (.iload_n 1, 1) := by decide +kernel
theorem dX7_heightOf_1 : decode cX7_heightOf 1 = .ok (.ifCond .lt 21, 3) := by decide +kernel
theorem dX7_heightOf_4 : decode cX7_heightOf 4 = .ok (.iload_n 1, 1) := by decide +kernel
theorem dX7_heightOf_5 : decode cX7_heightOf 5 = .ok (.aload_n 0, 1) := by decide +kernel
theorem dX7_heightOf_6 : decode cX7_heightOf 6 = .ok (.getfield 15, 3) := by decide +kernel
theorem dX7_heightOf_9 : decode cX7_heightOf 9 = .ok (.arraylength, 1) := by decide +kernel
theorem dX7_heightOf_10 : decode cX7_heightOf 10 = .ok (.if_icmp .ge 12, 3) := by decide +kernel
theorem dX7_heightOf_13 : decode cX7_heightOf 13 = .ok (.aload_n 0, 1) := by decide +kernel
theorem dX7_heightOf_14 : decode cX7_heightOf 14 = .ok (.getfield 15, 3) := by decide +kernel
theorem dX7_heightOf_17 : decode cX7_heightOf 17 = .ok (.iload_n 1, 1) := by decide +kernel
theorem dX7_heightOf_18 : decode cX7_heightOf 18 = .ok (.iaload, 1) := by decide +kernel
theorem dX7_heightOf_19 : decode cX7_heightOf 19 = .ok (.goto 4, 3) := by decide +kernel
theorem dX7_heightOf_22 : decode cX7_heightOf 22 = .ok (.iconst 0, 1) := by decide +kernel
theorem dX7_heightOf_23 : decode cX7_heightOf 23 = .ok (.ireturn, 1) := by decide +kernel
theorem dX7_lengthOf_0 : decode cX7_lengthOf 0 = .ok (.iload_n 1, 1) := by decide +kernel
theorem dX7_lengthOf_1 : decode cX7_lengthOf 1 = .ok (.ifCond .lt 21, 3) := by decide +kernel
theorem dX7_lengthOf_4 : decode cX7_lengthOf 4 = .ok (.iload_n 1, 1) := by decide +kernel
theorem dX7_lengthOf_5 : decode cX7_lengthOf 5 = .ok (.aload_n 0, 1) := by decide +kernel
theorem dX7_lengthOf_6 : decode cX7_lengthOf 6 = .ok (.getfield 18, 3) := by decide +kernel
theorem dX7_lengthOf_9 : decode cX7_lengthOf 9 = .ok (.arraylength, 1) := by decide +kernel
theorem dX7_lengthOf_10 : decode cX7_lengthOf 10 = .ok (.if_icmp .ge 12, 3) := by decide +kernel
theorem dX7_lengthOf_13 : decode cX7_lengthOf 13 = .ok (.aload_n 0, 1) := by decide +kernel
theorem dX7_lengthOf_14 : decode cX7_lengthOf 14 = .ok (.getfield 18, 3) := by decide +kernel
theorem dX7_lengthOf_17 : decode cX7_lengthOf 17 = .ok (.iload_n 1, 1) := by decide +kernel
theorem dX7_lengthOf_18 : decode cX7_lengthOf 18 = .ok (.iaload, 1) := by decide +kernel
theorem dX7_lengthOf_19 : decode cX7_lengthOf 19 = .ok (.goto 4, 3) := by decide +kernel
theorem dX7_lengthOf_22 : decode cX7_lengthOf 22 = .ok (.iconst 0, 1) := by decide +kernel
theorem dX7_lengthOf_23 : decode cX7_lengthOf 23 = .ok (.ireturn, 1) := by decide +kernel
theorem dX7_heightsTogether_0 : decode cX7_heightsTogether 0 = .ok (.iconst 0, 1) := by decide +kernel
theorem dX7_heightsTogether_1 : decode cX7_heightsTogether 1 = .ok (.istore_n 1, 1) := by decide +kernel
theorem dX7_heightsTogether_2 : decode cX7_heightsTogether 2 = .ok (.iconst 0, 1) := by decide +kernel
theorem dX7_heightsTogether_3 : decode cX7_heightsTogether 3 = .ok (.istore_n 2, 1) := by decide +kernel
theorem dX7_heightsTogether_4 : decode cX7_heightsTogether 4 = .ok (.iload_n 2, 1) := by decide +kernel
theorem dX7_heightsTogether_5 : decode cX7_heightsTogether 5 = .ok (.aload_n 0, 1) := by decide +kernel
theorem dX7_heightsTogether_6 : decode cX7_heightsTogether 6 = .ok (.getfield 37, 3) := by decide +kernel
theorem dX7_heightsTogether_9 : decode cX7_heightsTogether 9 = .ok (.if_icmp .ge 17, 3) := by decide +kernel
theorem dX7_heightsTogether_12 : decode cX7_heightsTogether 12 = .ok (.iload_n 1, 1) := by decide +kernel
theorem dX7_heightsTogether_13 : decode cX7_heightsTogether 13 = .ok (.aload_n 0, 1) := by decide +kernel
theorem dX7_heightsTogether_14 : decode cX7_heightsTogether 14 = .ok (.iload_n 2, 1) := by decide +kernel
theorem dX7_heightsTogether_15 : decode cX7_heightsTogether 15 = .ok (.invokevirtual 40, 3) := by decide +kernel
theorem dX7_heightsTogether_18 : decode cX7_heightsTogether 18 = .ok (.iadd, 1) := by decide +kernel
theorem dX7_heightsTogether_19 : decode cX7_heightsTogether 19 = .ok (.istore_n 1, 1) := by decide +kernel
theorem dX7_heightsTogether_20 : decode cX7_heightsTogether 20 = .ok (.iinc 2 1, 3) := by decide +kernel
theorem dX7_heightsTogether_23 : decode cX7_heightsTogether 23 = .ok (.goto (-19), 3) := by decide +kernel
theorem dX7_heightsTogether_26 : decode cX7_heightsTogether 26 = .ok (.iload_n 1, 1) := by decide +kernel
theorem dX7_heightsTogether_27 : decode cX7_heightsTogether 27 = .ok (.ireturn, 1) := by decide +kernel
theorem dX7_understand_0 : decode cX7_understand 0 = .ok (.aload_n 0, 1) := by decide +kernel
theorem dX7_understand_1 : decode cX7_understand 1 = .ok (.aload_n 0, 1) := by decide +kernel
theorem dX7_understand_2 : decode cX7_understand 2 = .ok (.invokevirtual 44, 3) := by decide +kernel
theorem dX7_understand_5 : decode cX7_understand 5 = .ok (.putfield 21, 3) := by decide +kernel
theorem dX7_understand_8 : decode cX7_understand 8 = .ok (.aload_n 0, 1) := by decide +kernel
theorem dX7_understand_9 : decode cX7_understand 9 = .ok (.aload_n 0, 1) := by decide +kernel
theorem dX7_understand_10 : decode cX7_understand 10 = .ok (.getfield 21, 3) := by decide +kernel
theorem dX7_understand_13 : decode cX7_understand 13 = .ok (.iconst (-1), 1) := by decide +kernel
theorem dX7_understand_14 : decode cX7_understand 14 = .ok (.if_icmp .ne 14, 3) := by decide +kernel
theorem dX7_understand_17 : decode cX7_understand 17 = .ok (.aload_n 0, 1) := by decide +kernel
theorem dX7_understand_18 : decode cX7_understand 18 = .ok (.getfield 31, 3) := by decide +kernel
theorem dX7_understand_21 : decode cX7_understand 21 = .ok (.iconst 1, 1) := by decide +kernel
theorem dX7_understand_22 : decode cX7_understand 22 = .ok (.iadd, 1) := by decide +kernel
theorem dX7_understand_23 : decode cX7_understand 23 = .ok (.iconst 4, 1) := by decide +kernel
theorem dX7_understand_24 : decode cX7_understand 24 = .ok (.idiv, 1) := by decide +kernel
theorem dX7_understand_25 : decode cX7_understand 25 = .ok (.goto 4, 3) := by decide +kernel
theorem dX7_understand_28 : decode cX7_understand 28 = .ok (.iconst 0, 1) := by decide +kernel
theorem dX7_understand_29 : decode cX7_understand 29 = .ok (.putfield 37, 3) := by decide +kernel
theorem dX7_understand_32 : decode cX7_understand 32 = .ok (.iconst 0, 1) := by decide +kernel
theorem dX7_understand_33 : decode cX7_understand 33 = .ok (.istore_n 1, 1) := by decide +kernel
theorem dX7_understand_34 : decode cX7_understand 34 = .ok (.iload_n 1, 1) := by decide +kernel
theorem dX7_understand_35 : decode cX7_understand 35 = .ok (.aload_n 0, 1) := by decide +kernel
theorem dX7_understand_36 : decode cX7_understand 36 = .ok (.getfield 15, 3) := by decide +kernel
theorem dX7_understand_39 : decode cX7_understand 39 = .ok (.arraylength, 1) := by decide +kernel
theorem dX7_understand_40 : decode cX7_understand 40 = .ok (.if_icmp .ge 79, 3) := by decide +kernel
theorem dX7_understand_43 : decode cX7_understand 43 = .ok (.iload_n 1, 1) := by decide +kernel
theorem dX7_understand_44 : decode cX7_understand 44 = .ok (.aload_n 0, 1) := by decide +kernel
theorem dX7_understand_45 : decode cX7_understand 45 = .ok (.getfield 18, 3) := by decide +kernel
theorem dX7_understand_48 : decode cX7_understand 48 = .ok (.arraylength, 1) := by decide +kernel
theorem dX7_understand_49 : decode cX7_understand 49 = .ok (.if_icmp .ge 70, 3) := by decide +kernel
theorem dX7_understand_52 : decode cX7_understand 52 = .ok (.iload_n 1, 1) := by decide +kernel
theorem dX7_understand_53 : decode cX7_understand 53 = .ok (.aload_n 0, 1) := by decide +kernel
theorem dX7_understand_54 : decode cX7_understand 54 = .ok (.getfield 37, 3) := by decide +kernel
theorem dX7_understand_57 : decode cX7_understand 57 = .ok (.if_icmp .ge 7, 3) := by decide +kernel
theorem dX7_understand_60 : decode cX7_understand 60 = .ok (.iconst 1, 1) := by decide +kernel
theorem dX7_understand_61 : decode cX7_understand 61 = .ok (.goto 4, 3) := by decide +kernel
theorem dX7_understand_64 : decode cX7_understand 64 = .ok (.iconst 0, 1) := by decide +kernel
theorem dX7_understand_65 : decode cX7_understand 65 = .ok (.istore_n 2, 1) := by decide +kernel
theorem dX7_understand_66 : decode cX7_understand 66 = .ok (.aload_n 0, 1) := by decide +kernel
theorem dX7_understand_67 : decode cX7_understand 67 = .ok (.getfield 15, 3) := by decide +kernel
theorem dX7_understand_70 : decode cX7_understand 70 = .ok (.iload_n 1, 1) := by decide +kernel
theorem dX7_understand_71 : decode cX7_understand 71 = .ok (.iload_n 2, 1) := by decide +kernel
theorem dX7_understand_72 : decode cX7_understand 72 = .ok (.ifCond .eq 16, 3) := by decide +kernel
theorem dX7_understand_75 : decode cX7_understand 75 = .ok (.aload_n 0, 1) := by decide +kernel
theorem dX7_understand_76 : decode cX7_understand 76 = .ok (.iconst 4, 1) := by decide +kernel
theorem dX7_understand_77 : decode cX7_understand 77 = .ok (.iload_n 1, 1) := by decide +kernel
theorem dX7_understand_78 : decode cX7_understand 78 = .ok (.imul, 1) := by decide +kernel
theorem dX7_understand_79 : decode cX7_understand 79 = .ok (.invokevirtual 48, 3) := by decide +kernel
theorem dX7_understand_82 : decode cX7_understand 82 = .ok (.bipush 48, 2) := by decide +kernel
theorem dX7_understand_84 : decode cX7_understand 84 = .ok (.isub, 1) := by decide +kernel
theorem dX7_understand_85 : decode cX7_understand 85 = .ok (.goto 4, 3) := by decide +kernel
theorem dX7_understand_88 : decode cX7_understand 88 = .ok (.iconst 0, 1) := by decide +kernel
theorem dX7_understand_89 : decode cX7_understand 89 = .ok (.iastore, 1) := by decide +kernel
theorem dX7_understand_90 : decode cX7_understand 90 = .ok (.aload_n 0, 1) := by decide +kernel
theorem dX7_understand_91 : decode cX7_understand 91 = .ok (.getfield 18, 3) := by decide +kernel
theorem dX7_understand_94 : decode cX7_understand 94 = .ok (.iload_n 1, 1) := by decide +kernel
theorem dX7_understand_95 : decode cX7_understand 95 = .ok (.iload_n 2, 1) := by decide +kernel
theorem dX7_understand_96 : decode cX7_understand 96 = .ok (.ifCond .eq 15, 3) := by decide +kernel
theorem dX7_understand_99 : decode cX7_understand 99 = .ok (.aload_n 0, 1) := by decide +kernel
theorem dX7_understand_100 : decode cX7_understand 100 = .ok (.iconst 4, 1) := by decide +kernel
theorem dX7_understand_101 : decode cX7_understand 101 = .ok (.iload_n 1, 1) := by decide +kernel
theorem dX7_understand_102 : decode cX7_understand 102 = .ok (.imul, 1) := by decide +kernel
theorem dX7_understand_103 : decode cX7_understand 103 = .ok (.iconst 1, 1) := by decide +kernel
theorem dX7_understand_104 : decode cX7_understand 104 = .ok (.iadd, 1) := by decide +kernel
theorem dX7_understand_105 : decode cX7_understand 105 = .ok (.invokevirtual 51, 3) := by decide +kernel
theorem dX7_understand_108 : decode cX7_understand 108 = .ok (.goto 4, 3) := by decide +kernel
theorem dX7_understand_111 : decode cX7_understand 111 = .ok (.iconst 0, 1) := by decide +kernel
theorem dX7_understand_112 : decode cX7_understand 112 = .ok (.iastore, 1) := by decide +kernel
theorem dX7_understand_113 : decode cX7_understand 113 = .ok (.iinc 1 1, 3) := by decide +kernel
theorem dX7_understand_116 : decode cX7_understand 116 = .ok (.goto (-82), 3) := by decide +kernel
theorem dX7_understand_119 : decode cX7_understand 119 = .ok (.return_, 1) := by decide +kernel
theorem dX7_firstFault_0 : decode cX7_firstFault 0 = .ok (.iconst 0, 1) := by decide +kernel
theorem dX7_firstFault_1 : decode cX7_firstFault 1 = .ok (.istore_n 1, 1) := by decide +kernel
theorem dX7_firstFault_2 : decode cX7_firstFault 2 = .ok (.iload_n 1, 1) := by decide +kernel
theorem dX7_firstFault_3 : decode cX7_firstFault 3 = .ok (.aload_n 0, 1) := by decide +kernel
theorem dX7_firstFault_4 : decode cX7_firstFault 4 = .ok (.getfield 31, 3) := by decide +kernel
theorem dX7_firstFault_7 : decode cX7_firstFault 7 = .ok (.if_icmp .ge 19, 3) := by decide +kernel
theorem dX7_firstFault_10 : decode cX7_firstFault 10 = .ok (.aload_n 0, 1) := by decide +kernel
theorem dX7_firstFault_11 : decode cX7_firstFault 11 = .ok (.iload_n 1, 1) := by decide +kernel
theorem dX7_firstFault_12 : decode cX7_firstFault 12 = .ok (.invokevirtual 54, 3) := by decide +kernel
theorem dX7_firstFault_15 : decode cX7_firstFault 15 = .ok (.ifCond .ne 5, 3) := by decide +kernel
theorem dX7_firstFault_18 : decode cX7_firstFault 18 = .ok (.iload_n 1, 1) := by decide +kernel
theorem dX7_firstFault_19 : decode cX7_firstFault 19 = .ok (.ireturn, 1) := by decide +kernel
theorem dX7_firstFault_20 : decode cX7_firstFault 20 = .ok (.iinc 1 1, 3) := by decide +kernel
theorem dX7_firstFault_23 : decode cX7_firstFault 23 = .ok (.goto (-21), 3) := by decide +kernel
theorem dX7_firstFault_26 : decode cX7_firstFault 26 = .ok (.aload_n 0, 1) := by decide +kernel
theorem dX7_firstFault_27 : decode cX7_firstFault 27 = .ok (.getfield 31, 3) := by decide +kernel
theorem dX7_firstFault_30 : decode cX7_firstFault 30 = .ok (.ifCond .eq 13, 3) := by decide +kernel
theorem dX7_firstFault_33 : decode cX7_firstFault 33 = .ok (.aload_n 0, 1) := by decide +kernel
theorem dX7_firstFault_34 : decode cX7_firstFault 34 = .ok (.getfield 31, 3) := by decide +kernel
theorem dX7_firstFault_37 : decode cX7_firstFault 37 = .ok (.iconst 4, 1) := by decide +kernel
theorem dX7_firstFault_38 : decode cX7_firstFault 38 = .ok (.irem, 1) := by decide +kernel
theorem dX7_firstFault_39 : decode cX7_firstFault 39 = .ok (.iconst 3, 1) := by decide +kernel
theorem dX7_firstFault_40 : decode cX7_firstFault 40 = .ok (.if_icmp .ne 7, 3) := by decide +kernel
theorem dX7_firstFault_43 : decode cX7_firstFault 43 = .ok (.iconst (-1), 1) := by decide +kernel
theorem dX7_firstFault_44 : decode cX7_firstFault 44 = .ok (.goto 7, 3) := by decide +kernel
theorem dX7_firstFault_47 : decode cX7_firstFault 47 = .ok (.aload_n 0, 1) := by decide +kernel
theorem dX7_firstFault_48 : decode cX7_firstFault 48 = .ok (.getfield 31, 3) := by decide +kernel
theorem dX7_firstFault_51 : decode cX7_firstFault 51 = .ok (.ireturn, 1) := by decide +kernel
theorem dX7_goesOn_0 : decode cX7_goesOn 0 = .ok (.iload_n 1, 1) := by decide +kernel
theorem dX7_goesOn_1 : decode cX7_goesOn 1 = .ok (.iconst 4, 1) := by decide +kernel
theorem dX7_goesOn_2 : decode cX7_goesOn 2 = .ok (.irem, 1) := by decide +kernel
theorem dX7_goesOn_3 : decode cX7_goesOn 3 = .ok (.iconst 3, 1) := by decide +kernel
theorem dX7_goesOn_4 : decode cX7_goesOn 4 = .ok (.if_icmp .ne 19, 3) := by decide +kernel
theorem dX7_goesOn_7 : decode cX7_goesOn 7 = .ok (.aload_n 0, 1) := by decide +kernel
theorem dX7_goesOn_8 : decode cX7_goesOn 8 = .ok (.iload_n 1, 1) := by decide +kernel
theorem dX7_goesOn_9 : decode cX7_goesOn 9 = .ok (.invokevirtual 48, 3) := by decide +kernel
theorem dX7_goesOn_12 : decode cX7_goesOn 12 = .ok (.bipush 59, 2) := by decide +kernel
theorem dX7_goesOn_14 : decode cX7_goesOn 14 = .ok (.if_icmp .ne 7, 3) := by decide +kernel
theorem dX7_goesOn_17 : decode cX7_goesOn 17 = .ok (.iconst 1, 1) := by decide +kernel
theorem dX7_goesOn_18 : decode cX7_goesOn 18 = .ok (.goto 4, 3) := by decide +kernel
theorem dX7_goesOn_21 : decode cX7_goesOn 21 = .ok (.iconst 0, 1) := by decide +kernel
theorem dX7_goesOn_22 : decode cX7_goesOn 22 = .ok (.ireturn, 1) := by decide +kernel
theorem dX7_goesOn_23 : decode cX7_goesOn 23 = .ok (.aload_n 0, 1) := by decide +kernel
theorem dX7_goesOn_24 : decode cX7_goesOn 24 = .ok (.iload_n 1, 1) := by decide +kernel
theorem dX7_goesOn_25 : decode cX7_goesOn 25 = .ok (.invokevirtual 48, 3) := by decide +kernel
theorem dX7_goesOn_28 : decode cX7_goesOn 28 = .ok (.bipush 48, 2) := by decide +kernel
theorem dX7_goesOn_30 : decode cX7_goesOn 30 = .ok (.if_icmp .lt 13, 3) := by decide +kernel
theorem dX7_goesOn_33 : decode cX7_goesOn 33 = .ok (.aload_n 0, 1) := by decide +kernel
theorem dX7_goesOn_34 : decode cX7_goesOn 34 = .ok (.iload_n 1, 1) := by decide +kernel
theorem dX7_goesOn_35 : decode cX7_goesOn 35 = .ok (.invokevirtual 48, 3) := by decide +kernel
theorem dX7_goesOn_38 : decode cX7_goesOn 38 = .ok (.bipush 57, 2) := by decide +kernel
theorem dX7_goesOn_40 : decode cX7_goesOn 40 = .ok (.if_icmp .le 5, 3) := by decide +kernel
theorem dX7_goesOn_43 : decode cX7_goesOn 43 = .ok (.iconst 0, 1) := by decide +kernel
theorem dX7_goesOn_44 : decode cX7_goesOn 44 = .ok (.ireturn, 1) := by decide +kernel
theorem dX7_goesOn_45 : decode cX7_goesOn 45 = .ok (.iload_n 1, 1) := by decide +kernel
theorem dX7_goesOn_46 : decode cX7_goesOn 46 = .ok (.iconst 4, 1) := by decide +kernel
theorem dX7_goesOn_47 : decode cX7_goesOn 47 = .ok (.irem, 1) := by decide +kernel
theorem dX7_goesOn_48 : decode cX7_goesOn 48 = .ok (.ifCond .ne 19, 3) := by decide +kernel
theorem dX7_goesOn_51 : decode cX7_goesOn 51 = .ok (.iload_n 1, 1) := by decide +kernel
theorem dX7_goesOn_52 : decode cX7_goesOn 52 = .ok (.iconst 4, 1) := by decide +kernel
theorem dX7_goesOn_53 : decode cX7_goesOn 53 = .ok (.idiv, 1) := by decide +kernel
theorem dX7_goesOn_54 : decode cX7_goesOn 54 = .ok (.aload_n 0, 1) := by decide +kernel
theorem dX7_goesOn_55 : decode cX7_goesOn 55 = .ok (.getfield 28, 3) := by decide +kernel
theorem dX7_goesOn_58 : decode cX7_goesOn 58 = .ok (.if_icmp .ge 7, 3) := by decide +kernel
theorem dX7_goesOn_61 : decode cX7_goesOn 61 = .ok (.iconst 1, 1) := by decide +kernel
theorem dX7_goesOn_62 : decode cX7_goesOn 62 = .ok (.goto 4, 3) := by decide +kernel
theorem dX7_goesOn_65 : decode cX7_goesOn 65 = .ok (.iconst 0, 1) := by decide +kernel
theorem dX7_goesOn_66 : decode cX7_goesOn 66 = .ok (.ireturn, 1) := by decide +kernel
theorem dX7_goesOn_67 : decode cX7_goesOn 67 = .ok (.iload_n 1, 1) := by decide +kernel
theorem dX7_goesOn_68 : decode cX7_goesOn 68 = .ok (.iconst 4, 1) := by decide +kernel
theorem dX7_goesOn_69 : decode cX7_goesOn 69 = .ok (.irem, 1) := by decide +kernel
theorem dX7_goesOn_70 : decode cX7_goesOn 70 = .ok (.iconst 1, 1) := by decide +kernel
theorem dX7_goesOn_71 : decode cX7_goesOn 71 = .ok (.if_icmp .eq 14, 3) := by decide +kernel
theorem dX7_goesOn_74 : decode cX7_goesOn 74 = .ok (.aload_n 0, 1) := by decide +kernel
theorem dX7_goesOn_75 : decode cX7_goesOn 75 = .ok (.iload_n 1, 1) := by decide +kernel
theorem dX7_goesOn_76 : decode cX7_goesOn 76 = .ok (.iconst 1, 1) := by decide +kernel
theorem dX7_goesOn_77 : decode cX7_goesOn 77 = .ok (.isub, 1) := by decide +kernel
theorem dX7_goesOn_78 : decode cX7_goesOn 78 = .ok (.invokevirtual 51, 3) := by decide +kernel
theorem dX7_goesOn_81 : decode cX7_goesOn 81 = .ok (.iconst 2, 1) := by decide +kernel
theorem dX7_goesOn_82 : decode cX7_goesOn 82 = .ok (.if_icmp .lt 7, 3) := by decide +kernel
theorem dX7_goesOn_85 : decode cX7_goesOn 85 = .ok (.iconst 1, 1) := by decide +kernel
theorem dX7_goesOn_86 : decode cX7_goesOn 86 = .ok (.goto 4, 3) := by decide +kernel
theorem dX7_goesOn_89 : decode cX7_goesOn 89 = .ok (.iconst 0, 1) := by decide +kernel
theorem dX7_goesOn_90 : decode cX7_goesOn 90 = .ok (.ireturn, 1) := by decide +kernel
theorem dX7_byteAt_0 : decode cX7_byteAt 0 = .ok (.iload_n 1, 1) := by decide +kernel
theorem dX7_byteAt_1 : decode cX7_byteAt 1 = .ok (.ifCond .lt 21, 3) := by decide +kernel
theorem dX7_byteAt_4 : decode cX7_byteAt 4 = .ok (.iload_n 1, 1) := by decide +kernel
theorem dX7_byteAt_5 : decode cX7_byteAt 5 = .ok (.aload_n 0, 1) := by decide +kernel
theorem dX7_byteAt_6 : decode cX7_byteAt 6 = .ok (.getfield 9, 3) := by decide +kernel
theorem dX7_byteAt_9 : decode cX7_byteAt 9 = .ok (.arraylength, 1) := by decide +kernel
theorem dX7_byteAt_10 : decode cX7_byteAt 10 = .ok (.if_icmp .ge 12, 3) := by decide +kernel
theorem dX7_byteAt_13 : decode cX7_byteAt 13 = .ok (.aload_n 0, 1) := by decide +kernel
theorem dX7_byteAt_14 : decode cX7_byteAt 14 = .ok (.getfield 9, 3) := by decide +kernel
theorem dX7_byteAt_17 : decode cX7_byteAt 17 = .ok (.iload_n 1, 1) := by decide +kernel
theorem dX7_byteAt_18 : decode cX7_byteAt 18 = .ok (.iaload, 1) := by decide +kernel
theorem dX7_byteAt_19 : decode cX7_byteAt 19 = .ok (.goto 4, 3) := by decide +kernel
theorem dX7_byteAt_22 : decode cX7_byteAt 22 = .ok (.iconst 0, 1) := by decide +kernel
theorem dX7_byteAt_23 : decode cX7_byteAt 23 = .ok (.ireturn, 1) := by decide +kernel
theorem dX7_twoFiguresAt_0 : decode cX7_twoFiguresAt 0 = .ok (.bipush 10, 2) := by decide +kernel
theorem dX7_twoFiguresAt_2 : decode cX7_twoFiguresAt 2 = .ok (.aload_n 0, 1) := by decide +kernel
theorem dX7_twoFiguresAt_3 : decode cX7_twoFiguresAt 3 = .ok (.iload_n 1, 1) := by decide +kernel
theorem dX7_twoFiguresAt_4 : decode cX7_twoFiguresAt 4 = .ok (.invokevirtual 48, 3) := by decide +kernel
theorem dX7_twoFiguresAt_7 : decode cX7_twoFiguresAt 7 = .ok (.bipush 48, 2) := by decide +kernel
theorem dX7_twoFiguresAt_9 : decode cX7_twoFiguresAt 9 = .ok (.isub, 1) := by decide +kernel
theorem dX7_twoFiguresAt_10 : decode cX7_twoFiguresAt 10 = .ok (.imul, 1) := by decide +kernel
theorem dX7_twoFiguresAt_11 : decode cX7_twoFiguresAt 11 = .ok (.aload_n 0, 1) := by decide +kernel
theorem dX7_twoFiguresAt_12 : decode cX7_twoFiguresAt 12 = .ok (.iload_n 1, 1) := by decide +kernel
theorem dX7_twoFiguresAt_13 : decode cX7_twoFiguresAt 13 = .ok (.iconst 1, 1) := by decide +kernel
theorem dX7_twoFiguresAt_14 : decode cX7_twoFiguresAt 14 = .ok (.iadd, 1) := by decide +kernel
theorem dX7_twoFiguresAt_15 : decode cX7_twoFiguresAt 15 = .ok (.invokevirtual 48, 3) := by decide +kernel
theorem dX7_twoFiguresAt_18 : decode cX7_twoFiguresAt 18 = .ok (.bipush 48, 2) := by decide +kernel
theorem dX7_twoFiguresAt_20 : decode cX7_twoFiguresAt 20 = .ok (.isub, 1) := by decide +kernel
theorem dX7_twoFiguresAt_21 : decode cX7_twoFiguresAt 21 = .ok (.iadd, 1) := by decide +kernel
theorem dX7_twoFiguresAt_22 : decode cX7_twoFiguresAt 22 = .ok (.ireturn, 1) := by decide +kernel
