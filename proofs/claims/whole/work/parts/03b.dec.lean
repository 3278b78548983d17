theorem dX8_init_0 : decode cX8_init 0 = .ok (.aload_n 0, 1) := by decide +kernel
theorem dX8_init_1 : decode cX8_init 1 = .ok (.invokespecial 3, 3) := by decide +kernel
theorem dX8_init_4 : decode cX8_init 4 = .ok (.aload_n 0, 1) := by decide +kernel
theorem dX8_init_5 : decode cX8_init 5 = .ok (.new 9, 3) := by decide +kernel
theorem dX8_init_8 : decode cX8_init 8 = .ok (.dup, 1) := by decide +kernel
theorem dX8_init_9 : decode cX8_init 9 = .ok (.bipush 23, 2) := by decide +kernel
theorem dX8_init_11 : decode cX8_init 11 = .ok (.bipush 6, 2) := by decide +kernel
theorem dX8_init_13 : decode cX8_init 13 = .ok (.invokespecial 11, 3) := by decide +kernel
theorem dX8_init_16 : decode cX8_init 16 = .ok (.putfield 14, 3) := by decide +kernel
theorem dX8_init_19 : decode cX8_init 19 = .ok (.aload_n 0, 1) := by decide +kernel
theorem dX8_init_20 : decode cX8_init 20 = .ok (.new 9, 3) := by decide +kernel
theorem dX8_init_23 : decode cX8_init 23 = .ok (.dup, 1) := by decide +kernel
theorem dX8_init_24 : decode cX8_init 24 = .ok (.iconst 3, 1) := by decide +kernel
theorem dX8_init_25 : decode cX8_init 25 = .ok (.iconst 1, 1) := by decide +kernel
theorem dX8_init_26 : decode cX8_init 26 = .ok (.invokespecial 11, 3) := by decide +kernel
theorem dX8_init_29 : decode cX8_init 29 = .ok (.putfield 18, 3) := by decide +kernel
theorem dX8_init_32 : decode cX8_init 32 = .ok (.aload_n 0, 1) := by decide +kernel
theorem dX8_init_33 : decode cX8_init 33 = .ok (.new 21, 3) := by decide +kernel
theorem dX8_init_36 : decode cX8_init 36 = .ok (.dup, 1) := by decide +kernel
theorem dX8_init_37 : decode cX8_init 37 = .ok (.aload_n 0, 1) := by decide +kernel
theorem dX8_init_38 : decode cX8_init 38 = .ok (.getfield 14, 3) := by decide +kernel
theorem dX8_init_41 : decode cX8_init 41 = .ok (.invokespecial 23, 3) := by decide +kernel
theorem dX8_init_44 : decode cX8_init 44 = .ok (.putfield 26, 3) := by decide +kernel
theorem dX8_init_47 : decode cX8_init 47 = .ok (.aload_n 0, 1) := by decide +kernel
theorem dX8_init_48 : decode cX8_init 48 = .ok (.new 30, 3) := by decide +kernel
theorem dX8_init_51 : decode cX8_init 51 = .ok (.dup, 1) := by decide +kernel
theorem dX8_init_52 : decode cX8_init 52 = .ok (.aload_n 0, 1) := by decide +kernel
theorem dX8_init_53 : decode cX8_init 53 = .ok (.getfield 18, 3) := by decide +kernel
theorem dX8_init_56 : decode cX8_init 56 = .ok (.invokespecial 32, 3) := by decide +kernel
theorem dX8_init_59 : decode cX8_init 59 = .ok (.putfield 33, 3) := by decide +kernel
theorem dX8_init_62 : decode cX8_init 62 = .ok (.aload_n 0, 1) := by decide +kernel
theorem dX8_init_63 : decode cX8_init 63 = .ok (.new 37, 3) := by decide +kernel
theorem dX8_init_66 : decode cX8_init 66 = .ok (.dup, 1) := by decide +kernel
theorem dX8_init_67 : decode cX8_init 67 = .ok (.invokespecial 39, 3) := by decide +kernel
theorem dX8_init_70 : decode cX8_init 70 = .ok (.putfield 40, 3) := by decide +kernel
theorem dX8_init_73 : decode cX8_init 73 = .ok (.aload_n 0, 1) := by decide +kernel
theorem dX8_init_74 : decode cX8_init 74 = .ok (.new 44, 3) := by decide +kernel
theorem dX8_init_77 : decode cX8_init 77 = .ok (.dup, 1) := by decide +kernel
theorem dX8_init_78 : decode cX8_init 78 = .ok (.aload_n 0, 1) := by decide +kernel
theorem dX8_init_79 : decode cX8_init 79 = .ok (.getfield 26, 3) := by decide +kernel
theorem dX8_init_82 : decode cX8_init 82 = .ok (.aload_n 0, 1) := by decide +kernel
theorem dX8_init_83 : decode cX8_init 83 = .ok (.getfield 33, 3) := by decide +kernel
theorem dX8_init_86 : decode cX8_init 86 = .ok (.aload_n 0, 1) := by decide +kernel
theorem dX8_init_87 : decode cX8_init 87 = .ok (.getfield 40, 3) := by decide +kernel
theorem dX8_init_90 : decode cX8_init 90 = .ok (.invokespecial 46, 3) := by decide +kernel
theorem dX8_init_93 : decode cX8_init 93 = .ok (.putfield 49, 3) := by decide +kernel
theorem dX8_init_96 : decode cX8_init 96 = .ok (.aload_n 0, 1) := by decide +kernel
theorem dX8_init_97 : decode cX8_init 97 = .ok (.new 53, 3) := by decide +kernel
theorem dX8_init_100 : decode cX8_init 100 = .ok (.dup, 1) := by decide +kernel
theorem dX8_init_101 : decode cX8_init 101 = .ok (.invokespecial 55, 3) := by decide +kernel
theorem dX8_init_104 : decode cX8_init 104 = .ok (.putfield 56, 3) := by decide +kernel
theorem dX8_init_107 : decode cX8_init 107 = .ok (.aload_n 0, 1) := by decide +kernel
theorem dX8_init_108 : decode cX8_init 108 = .ok (.new 60, 3) := by decide +kernel
theorem dX8_init_111 : decode cX8_init 111 = .ok (.dup, 1) := by decide +kernel
theorem dX8_init_112 : decode cX8_init 112 = .ok (.invokespecial 62, 3) := by decide +kernel
theorem dX8_init_115 : decode cX8_init 115 = .ok (.putfield 63, 3) := by decide +kernel
theorem dX8_init_118 : decode cX8_init 118 = .ok (.aload_n 0, 1) := by decide +kernel
theorem dX8_init_119 : decode cX8_init 119 = .ok (.iconst 4, 1) := by decide +kernel
theorem dX8_init_120 : decode cX8_init 120 = .ok (.anewarray 67, 3) := by decide +kernel
theorem dX8_init_123 : decode cX8_init 123 = .ok (.putfield 69, 3) := by decide +kernel
theorem dX8_init_126 : decode cX8_init 126 = .ok (.iconst 0, 1) := by decide +kernel
theorem dX8_init_127 : decode cX8_init 127 = .ok (.istore_n 1, 1) := by decide +kernel
theorem dX8_init_128 : decode cX8_init 128 = .ok (.iload_n 1, 1) := by decide +kernel
theorem dX8_init_129 : decode cX8_init 129 = .ok (.aload_n 0, 1) := by decide +kernel
theorem dX8_init_130 : decode cX8_init 130 = .ok (.getfield 69, 3) := by decide +kernel
theorem dX8_init_133 : decode cX8_init 133 = .ok (.arraylength, 1) := by decide +kernel
theorem dX8_init_134 : decode cX8_init 134 = .ok (.if_icmp .ge 22, 3) := by decide +kernel
theorem dX8_init_137 : decode cX8_init 137 = .ok (.aload_n 0, 1) := by decide +kernel
theorem dX8_init_138 : decode cX8_init 138 = .ok (.getfield 69, 3) := by decide +kernel
theorem dX8_init_141 : decode cX8_init 141 = .ok (.iload_n 1, 1) := by decide +kernel
theorem dX8_init_142 : decode cX8_init 142 = .ok (.new 67, 3) := by decide +kernel
theorem dX8_init_145 : decode cX8_init 145 = .ok (.dup, 1) := by decide +kernel
theorem dX8_init_146 : decode cX8_init 146 = .ok (.invokespecial 73, 3) := by decide +kernel
theorem dX8_init_149 : decode cX8_init 149 = .ok (.aastore, 1) := by decide +kernel
theorem dX8_init_150 : decode cX8_init 150 = .ok (.iinc 1 1, 3) := by decide +kernel
theorem dX8_init_153 : decode cX8_init 153 = .ok (.goto (-25), 3) := by decide +kernel
theorem dX8_init_156 : decode cX8_init 156 = .ok (.return_, 1) := by decide +kernel
theorem dX8_type_0 : decode cX8_type 0 = .ok (.aload_n 0, 1) := by decide +kernel
theorem dX8_type_1 : decode cX8_type 1 = .ok (.iload_n 1, 1) := by decide +kernel
theorem dX8_type_2 : decode cX8_type 2 = .ok (.invokevirtual 74, 3) := by decide +kernel
theorem dX8_type_5 : decode cX8_type 5 = .ok (.astore_n 3, 1) := by decide +kernel
theorem dX8_type_6 : decode cX8_type 6 = .ok (.aload_n 3, 1) := by decide +kernel
theorem dX8_type_7 : decode cX8_type 7 = .ok (.ifnull 14, 3) := by decide +kernel
theorem dX8_type_10 : decode cX8_type 10 = .ok (.iload_n 2, 1) := by decide +kernel
theorem dX8_type_11 : decode cX8_type 11 = .ok (.ifCond .lt 10, 3) := by decide +kernel
theorem dX8_type_14 : decode cX8_type 14 = .ok (.iload_n 2, 1) := by decide +kernel
theorem dX8_type_15 : decode cX8_type 15 = .ok (.sipush 255, 3) := by decide +kernel
theorem dX8_type_18 : decode cX8_type 18 = .ok (.if_icmp .le 6, 3) := by decide +kernel
theorem dX8_type_21 : decode cX8_type 21 = .ok (.bipush (-2), 2) := by decide +kernel
theorem dX8_type_23 : decode cX8_type 23 = .ok (.ireturn, 1) := by decide +kernel
theorem dX8_type_24 : decode cX8_type 24 = .ok (.aload_n 3, 1) := by decide +kernel
theorem dX8_type_25 : decode cX8_type 25 = .ok (.invokevirtual 78, 3) := by decide +kernel
theorem dX8_type_28 : decode cX8_type 28 = .ok (.ifCond .eq 6, 3) := by decide +kernel
theorem dX8_type_31 : decode cX8_type 31 = .ok (.bipush (-4), 2) := by decide +kernel
theorem dX8_type_33 : decode cX8_type 33 = .ok (.ireturn, 1) := by decide +kernel
theorem dX8_type_34 : decode cX8_type 34 = .ok (.aload_n 3, 1) := by decide +kernel
theorem dX8_type_35 : decode cX8_type 35 = .ok (.iload_n 2, 1) := by decide +kernel
theorem dX8_type_36 : decode cX8_type 36 = .ok (.invokevirtual 82, 3) := by decide +kernel
theorem dX8_type_39 : decode cX8_type 39 = .ok (.aload_n 0, 1) := by decide +kernel
theorem dX8_type_40 : decode cX8_type 40 = .ok (.invokevirtual 86, 3) := by decide +kernel
theorem dX8_type_43 : decode cX8_type 43 = .ok (.aload_n 3, 1) := by decide +kernel
theorem dX8_type_44 : decode cX8_type 44 = .ok (.getfield 89, 3) := by decide +kernel
theorem dX8_type_47 : decode cX8_type 47 = .ok (.ireturn, 1) := by decide +kernel
theorem dX8_wipe_0 : decode cX8_wipe 0 = .ok (.aload_n 0, 1) := by decide +kernel
theorem dX8_wipe_1 : decode cX8_wipe 1 = .ok (.iload_n 1, 1) := by decide +kernel
theorem dX8_wipe_2 : decode cX8_wipe 2 = .ok (.invokevirtual 74, 3) := by decide +kernel
theorem dX8_wipe_5 : decode cX8_wipe 5 = .ok (.astore_n 2, 1) := by decide +kernel
theorem dX8_wipe_6 : decode cX8_wipe 6 = .ok (.aload_n 2, 1) := by decide +kernel
theorem dX8_wipe_7 : decode cX8_wipe 7 = .ok (.ifnonnull 6, 3) := by decide +kernel
theorem dX8_wipe_10 : decode cX8_wipe 10 = .ok (.bipush (-2), 2) := by decide +kernel
theorem dX8_wipe_12 : decode cX8_wipe 12 = .ok (.ireturn, 1) := by decide +kernel
theorem dX8_wipe_13 : decode cX8_wipe 13 = .ok (.aload_n 2, 1) := by decide +kernel
theorem dX8_wipe_14 : decode cX8_wipe 14 = .ok (.getfield 89, 3) := by decide +kernel
theorem dX8_wipe_17 : decode cX8_wipe 17 = .ok (.istore_n 3, 1) := by decide +kernel
theorem dX8_wipe_18 : decode cX8_wipe 18 = .ok (.aload_n 2, 1) := by decide +kernel
theorem dX8_wipe_19 : decode cX8_wipe 19 = .ok (.iconst 0, 1) := by decide +kernel
theorem dX8_wipe_20 : decode cX8_wipe 20 = .ok (.invokevirtual 93, 3) := by decide +kernel
theorem dX8_wipe_23 : decode cX8_wipe 23 = .ok (.aload_n 0, 1) := by decide +kernel
theorem dX8_wipe_24 : decode cX8_wipe 24 = .ok (.invokevirtual 86, 3) := by decide +kernel
theorem dX8_wipe_27 : decode cX8_wipe 27 = .ok (.iload_n 3, 1) := by decide +kernel
theorem dX8_wipe_28 : decode cX8_wipe 28 = .ok (.ireturn, 1) := by decide +kernel
theorem dX8_undo_0 : decode cX8_undo 0 = .ok (.aload_n 0, 1) := by decide +kernel
theorem dX8_undo_1 : decode cX8_undo 1 = .ok (.iload_n 1, 1) := by decide +kernel
theorem dX8_undo_2 : decode cX8_undo 2 = .ok (.invokevirtual 74, 3) := by decide +kernel
theorem dX8_undo_5 : decode cX8_undo 5 = .ok (.astore_n 2, 1) := by decide +kernel
theorem dX8_undo_6 : decode cX8_undo 6 = .ok (.aload_n 2, 1) := by decide +kernel
theorem dX8_undo_7 : decode cX8_undo 7 = .ok (.ifnonnull 6, 3) := by decide +kernel
theorem dX8_undo_10 : decode cX8_undo 10 = .ok (.bipush (-2), 2) := by decide +kernel
theorem dX8_undo_12 : decode cX8_undo 12 = .ok (.ireturn, 1) := by decide +kernel
theorem dX8_undo_13 : decode cX8_undo 13 = .ok (.aload_n 2, 1) := by decide +kernel
theorem dX8_undo_14 : decode cX8_undo 14 = .ok (.getfield 89, 3) := by decide +kernel
theorem dX8_undo_17 : decode cX8_undo 17 = .ok (.ifCond .ne 6, 3) := by decide +kernel
theorem dX8_undo_20 : decode cX8_undo 20 = .ok (.bipush (-3), 2) := by decide +kernel
theorem dX8_undo_22 : decode cX8_undo 22 = .ok (.ireturn, 1) := by decide +kernel
theorem dX8_undo_23 : decode cX8_undo 23 = .ok (.aload_n 2, 1) := by decide +kernel
theorem dX8_undo_24 : decode cX8_undo 24 = .ok (.aload_n 2, 1) := by decide +kernel
theorem dX8_undo_25 : decode cX8_undo 25 = .ok (.getfield 89, 3) := by decide +kernel
theorem dX8_undo_28 : decode cX8_undo 28 = .ok (.iconst 1, 1) := by decide +kernel
theorem dX8_undo_29 : decode cX8_undo 29 = .ok (.isub, 1) := by decide +kernel
theorem dX8_undo_30 : decode cX8_undo 30 = .ok (.invokevirtual 93, 3) := by decide +kernel
theorem dX8_undo_33 : decode cX8_undo 33 = .ok (.aload_n 0, 1) := by decide +kernel
theorem dX8_undo_34 : decode cX8_undo 34 = .ok (.invokevirtual 86, 3) := by decide +kernel
theorem dX8_undo_37 : decode cX8_undo 37 = .ok (.aload_n 2, 1) := by decide +kernel
theorem dX8_undo_38 : decode cX8_undo 38 = .ok (.getfield 89, 3) := by decide +kernel
theorem dX8_undo_41 : decode cX8_undo 41 = .ok (.ireturn, 1) := by decide +kernel
theorem dX8_fault_0 : decode cX8_fault 0 = .ok (.aload_n 0, 1) := by decide +kernel
theorem dX8_fault_1 : decode cX8_fault 1 = .ok (.iload_n 1, 1) := by decide +kernel
theorem dX8_fault_2 : decode cX8_fault 2 = .ok (.invokevirtual 74, 3) := by decide +kernel
theorem dX8_fault_5 : decode cX8_fault 5 = .ok (.astore_n 2, 1) := by decide +kernel
theorem dX8_fault_6 : decode cX8_fault 6 = .ok (.aload_n 2, 1) := by decide +kernel
theorem dX8_fault_7 : decode cX8_fault 7 = .ok (.ifnonnull 8, 3) := by decide +kernel
theorem dX8_fault_10 : decode cX8_fault 10 = .ok (.bipush (-2), 2) := by decide +kernel
theorem dX8_fault_12 : decode cX8_fault 12 = .ok (.goto 7, 3) := by decide +kernel
theorem dX8_fault_15 : decode cX8_fault 15 = .ok (.aload_n 2, 1) := by decide +kernel
theorem dX8_fault_16 : decode cX8_fault 16 = .ok (.getfield 96, 3) := by decide +kernel
theorem dX8_fault_19 : decode cX8_fault 19 = .ok (.ireturn, 1) := by decide +kernel
theorem dX8_swell_0 : decode cX8_swell 0 = .ok (.aload_n 0, 1) := by decide +kernel
theorem dX8_swell_1 : decode cX8_swell 1 = .ok (.iload_n 1, 1) := by decide +kernel
theorem dX8_swell_2 : decode cX8_swell 2 = .ok (.invokevirtual 99, 3) := by decide +kernel
theorem dX8_swell_5 : decode cX8_swell 5 = .ok (.ifCond .eq 10, 3) := by decide +kernel
theorem dX8_swell_8 : decode cX8_swell 8 = .ok (.iload_n 2, 1) := by decide +kernel
theorem dX8_swell_9 : decode cX8_swell 9 = .ok (.invokestatic 103, 3) := by decide +kernel
theorem dX8_swell_12 : decode cX8_swell 12 = .ok (.ifCond .ne 6, 3) := by decide +kernel
theorem dX8_swell_15 : decode cX8_swell 15 = .ok (.bipush (-2), 2) := by decide +kernel
theorem dX8_swell_17 : decode cX8_swell 17 = .ok (.ireturn, 1) := by decide +kernel
theorem dX8_swell_18 : decode cX8_swell 18 = .ok (.iload_n 2, 1) := by decide +kernel
theorem dX8_swell_19 : decode cX8_swell 19 = .ok (.ifCond .ne 14, 3) := by decide +kernel
theorem dX8_swell_22 : decode cX8_swell 22 = .ok (.aload_n 0, 1) := by decide +kernel
theorem dX8_swell_23 : decode cX8_swell 23 = .ok (.getfield 14, 3) := by decide +kernel
theorem dX8_swell_26 : decode cX8_swell 26 = .ok (.iload_n 1, 1) := by decide +kernel
theorem dX8_swell_27 : decode cX8_swell 27 = .ok (.invokevirtual 106, 3) := by decide +kernel
theorem dX8_swell_30 : decode cX8_swell 30 = .ok (.goto 11, 3) := by decide +kernel
theorem dX8_swell_33 : decode cX8_swell 33 = .ok (.aload_n 0, 1) := by decide +kernel
theorem dX8_swell_34 : decode cX8_swell 34 = .ok (.getfield 14, 3) := by decide +kernel
theorem dX8_swell_37 : decode cX8_swell 37 = .ok (.iload_n 1, 1) := by decide +kernel
theorem dX8_swell_38 : decode cX8_swell 38 = .ok (.invokevirtual 110, 3) := by decide +kernel
theorem dX8_swell_41 : decode cX8_swell 41 = .ok (.ireturn, 1) := by decide +kernel
theorem dX8_roll_0 : decode cX8_roll 0 = .ok (.iload_n 1, 1) := by decide +kernel
theorem dX8_roll_1 : decode cX8_roll 1 = .ok (.invokestatic 103, 3) := by decide +kernel
theorem dX8_roll_4 : decode cX8_roll 4 = .ok (.ifCond .ne 6, 3) := by decide +kernel
theorem dX8_roll_7 : decode cX8_roll 7 = .ok (.bipush (-2), 2) := by decide +kernel
theorem dX8_roll_9 : decode cX8_roll 9 = .ok (.ireturn, 1) := by decide +kernel
theorem dX8_roll_10 : decode cX8_roll 10 = .ok (.aload_n 0, 1) := by decide +kernel
theorem dX8_roll_11 : decode cX8_roll 11 = .ok (.getfield 18, 3) := by decide +kernel
theorem dX8_roll_14 : decode cX8_roll 14 = .ok (.getfield 113, 3) := by decide +kernel
theorem dX8_roll_17 : decode cX8_roll 17 = .ok (.ifCond .ne 5, 3) := by decide +kernel
theorem dX8_roll_20 : decode cX8_roll 20 = .ok (.iconst (-1), 1) := by decide +kernel
theorem dX8_roll_21 : decode cX8_roll 21 = .ok (.ireturn, 1) := by decide +kernel
theorem dX8_roll_22 : decode cX8_roll 22 = .ok (.iload_n 1, 1) := by decide +kernel
theorem dX8_roll_23 : decode cX8_roll 23 = .ok (.ifCond .ne 14, 3) := by decide +kernel
theorem dX8_roll_26 : decode cX8_roll 26 = .ok (.aload_n 0, 1) := by decide +kernel
theorem dX8_roll_27 : decode cX8_roll 27 = .ok (.getfield 18, 3) := by decide +kernel
theorem dX8_roll_30 : decode cX8_roll 30 = .ok (.iconst 0, 1) := by decide +kernel
theorem dX8_roll_31 : decode cX8_roll 31 = .ok (.invokevirtual 106, 3) := by decide +kernel
theorem dX8_roll_34 : decode cX8_roll 34 = .ok (.goto 11, 3) := by decide +kernel
theorem dX8_roll_37 : decode cX8_roll 37 = .ok (.aload_n 0, 1) := by decide +kernel
theorem dX8_roll_38 : decode cX8_roll 38 = .ok (.getfield 18, 3) := by decide +kernel
theorem dX8_roll_41 : decode cX8_roll 41 = .ok (.iconst 0, 1) := by decide +kernel
theorem dX8_roll_42 : decode cX8_roll 42 = .ok (.invokevirtual 110, 3) := by decide +kernel
theorem dX8_roll_45 : decode cX8_roll 45 = .ok (.ireturn, 1) := by decide +kernel
theorem dX8_begins_0 : decode cX8_begins 0 = .ok (.iload_n 1, 1) := by decide +kernel
theorem dX8_begins_1 : decode cX8_begins 1 = .ok (.ifCond .lt 19, 3) := by decide +kernel
theorem dX8_begins_4 : decode cX8_begins 4 = .ok (.iload_n 1, 1) := by decide +kernel
theorem dX8_begins_5 : decode cX8_begins 5 = .ok (.bipush 6, 2) := by decide +kernel
theorem dX8_begins_7 : decode cX8_begins 7 = .ok (.if_icmp .ge 13, 3) := by decide +kernel
theorem dX8_begins_10 : decode cX8_begins 10 = .ok (.iload_n 2, 1) := by decide +kernel
theorem dX8_begins_11 : decode cX8_begins 11 = .ok (.ifCond .lt 9, 3) := by decide +kernel
theorem dX8_begins_14 : decode cX8_begins 14 = .ok (.iload_n 2, 1) := by decide +kernel
theorem dX8_begins_15 : decode cX8_begins 15 = .ok (.bipush 98, 2) := by decide +kernel
theorem dX8_begins_17 : decode cX8_begins 17 = .ok (.if_icmp .le 6, 3) := by decide +kernel
theorem dX8_begins_20 : decode cX8_begins 20 = .ok (.bipush (-2), 2) := by decide +kernel
theorem dX8_begins_22 : decode cX8_begins 22 = .ok (.ireturn, 1) := by decide +kernel
theorem dX8_begins_23 : decode cX8_begins 23 = .ok (.aload_n 0, 1) := by decide +kernel
theorem dX8_begins_24 : decode cX8_begins 24 = .ok (.getfield 26, 3) := by decide +kernel
theorem dX8_begins_27 : decode cX8_begins 27 = .ok (.iload_n 1, 1) := by decide +kernel
theorem dX8_begins_28 : decode cX8_begins 28 = .ok (.invokevirtual 116, 3) := by decide +kernel
theorem dX8_begins_31 : decode cX8_begins 31 = .ok (.istore_n 3, 1) := by decide +kernel
theorem dX8_begins_32 : decode cX8_begins 32 = .ok (.aload_n 0, 1) := by decide +kernel
theorem dX8_begins_33 : decode cX8_begins 33 = .ok (.getfield 26, 3) := by decide +kernel
theorem dX8_begins_36 : decode cX8_begins 36 = .ok (.iload_n 1, 1) := by decide +kernel
theorem dX8_begins_37 : decode cX8_begins 37 = .ok (.iload_n 2, 1) := by decide +kernel
theorem dX8_begins_38 : decode cX8_begins 38 = .ok (.invokevirtual 119, 3) := by decide +kernel
theorem dX8_begins_41 : decode cX8_begins 41 = .ok (.iload_n 3, 1) := by decide +kernel
theorem dX8_begins_42 : decode cX8_begins 42 = .ok (.ireturn, 1) := by decide +kernel
theorem dX8_lee_0 : decode cX8_lee 0 = .ok (.iload_n 1, 1) := by decide +kernel
theorem dX8_lee_1 : decode cX8_lee 1 = .ok (.invokestatic 103, 3) := by decide +kernel
theorem dX8_lee_4 : decode cX8_lee 4 = .ok (.ifCond .eq 10, 3) := by decide +kernel
theorem dX8_lee_7 : decode cX8_lee 7 = .ok (.iload_n 2, 1) := by decide +kernel
theorem dX8_lee_8 : decode cX8_lee 8 = .ok (.invokestatic 122, 3) := by decide +kernel
theorem dX8_lee_11 : decode cX8_lee 11 = .ok (.ifCond .ne 6, 3) := by decide +kernel
theorem dX8_lee_14 : decode cX8_lee 14 = .ok (.bipush (-2), 2) := by decide +kernel
theorem dX8_lee_16 : decode cX8_lee 16 = .ok (.ireturn, 1) := by decide +kernel
theorem dX8_lee_17 : decode cX8_lee 17 = .ok (.iload_n 1, 1) := by decide +kernel
theorem dX8_lee_18 : decode cX8_lee 18 = .ok (.ifCond .ne 13, 3) := by decide +kernel
theorem dX8_lee_21 : decode cX8_lee 21 = .ok (.aload_n 0, 1) := by decide +kernel
theorem dX8_lee_22 : decode cX8_lee 22 = .ok (.getfield 26, 3) := by decide +kernel
theorem dX8_lee_25 : decode cX8_lee 25 = .ok (.getfield 125, 3) := by decide +kernel
theorem dX8_lee_28 : decode cX8_lee 28 = .ok (.goto 10, 3) := by decide +kernel
theorem dX8_lee_31 : decode cX8_lee 31 = .ok (.aload_n 0, 1) := by decide +kernel
theorem dX8_lee_32 : decode cX8_lee 32 = .ok (.getfield 26, 3) := by decide +kernel
theorem dX8_lee_35 : decode cX8_lee 35 = .ok (.getfield 128, 3) := by decide +kernel
theorem dX8_lee_38 : decode cX8_lee 38 = .ok (.istore_n 3, 1) := by decide +kernel
theorem dX8_lee_39 : decode cX8_lee 39 = .ok (.iload_n 1, 1) := by decide +kernel
theorem dX8_lee_40 : decode cX8_lee 40 = .ok (.ifCond .ne 21, 3) := by decide +kernel
theorem dX8_lee_43 : decode cX8_lee 43 = .ok (.aload_n 0, 1) := by decide +kernel
theorem dX8_lee_44 : decode cX8_lee 44 = .ok (.getfield 26, 3) := by decide +kernel
theorem dX8_lee_47 : decode cX8_lee 47 = .ok (.iload_n 2, 1) := by decide +kernel
theorem dX8_lee_48 : decode cX8_lee 48 = .ok (.aload_n 0, 1) := by decide +kernel
theorem dX8_lee_49 : decode cX8_lee 49 = .ok (.getfield 26, 3) := by decide +kernel
theorem dX8_lee_52 : decode cX8_lee 52 = .ok (.getfield 128, 3) := by decide +kernel
theorem dX8_lee_55 : decode cX8_lee 55 = .ok (.invokevirtual 131, 3) := by decide +kernel
theorem dX8_lee_58 : decode cX8_lee 58 = .ok (.goto 18, 3) := by decide +kernel
theorem dX8_lee_61 : decode cX8_lee 61 = .ok (.aload_n 0, 1) := by decide +kernel
theorem dX8_lee_62 : decode cX8_lee 62 = .ok (.getfield 26, 3) := by decide +kernel
theorem dX8_lee_65 : decode cX8_lee 65 = .ok (.aload_n 0, 1) := by decide +kernel
theorem dX8_lee_66 : decode cX8_lee 66 = .ok (.getfield 26, 3) := by decide +kernel
theorem dX8_lee_69 : decode cX8_lee 69 = .ok (.getfield 125, 3) := by decide +kernel
theorem dX8_lee_72 : decode cX8_lee 72 = .ok (.iload_n 2, 1) := by decide +kernel
theorem dX8_lee_73 : decode cX8_lee 73 = .ok (.invokevirtual 131, 3) := by decide +kernel
theorem dX8_lee_76 : decode cX8_lee 76 = .ok (.iload_n 3, 1) := by decide +kernel
theorem dX8_lee_77 : decode cX8_lee 77 = .ok (.ireturn, 1) := by decide +kernel
theorem dX8_set_0 : decode cX8_set 0 = .ok (.aload_n 0, 1) := by decide +kernel
theorem dX8_set_1 : decode cX8_set 1 = .ok (.getfield 40, 3) := by decide +kernel
theorem dX8_set_4 : decode cX8_set 4 = .ok (.iload_n 1, 1) := by decide +kernel
theorem dX8_set_5 : decode cX8_set 5 = .ok (.iload_n 2, 1) := by decide +kernel
theorem dX8_set_6 : decode cX8_set 6 = .ok (.invokevirtual 134, 3) := by decide +kernel
theorem dX8_set_9 : decode cX8_set 9 = .ok (.ifCond .ne 6, 3) := by decide +kernel
theorem dX8_set_12 : decode cX8_set 12 = .ok (.bipush (-2), 2) := by decide +kernel
theorem dX8_set_14 : decode cX8_set 14 = .ok (.ireturn, 1) := by decide +kernel
theorem dX8_set_15 : decode cX8_set 15 = .ok (.aload_n 0, 1) := by decide +kernel
theorem dX8_set_16 : decode cX8_set 16 = .ok (.getfield 40, 3) := by decide +kernel
theorem dX8_set_19 : decode cX8_set 19 = .ok (.iload_n 1, 1) := by decide +kernel
theorem dX8_set_20 : decode cX8_set 20 = .ok (.invokevirtual 138, 3) := by decide +kernel
theorem dX8_set_23 : decode cX8_set 23 = .ok (.istore_n 3, 1) := by decide +kernel
theorem dX8_set_24 : decode cX8_set 24 = .ok (.aload_n 0, 1) := by decide +kernel
theorem dX8_set_25 : decode cX8_set 25 = .ok (.getfield 40, 3) := by decide +kernel
theorem dX8_set_28 : decode cX8_set 28 = .ok (.iload_n 1, 1) := by decide +kernel
theorem dX8_set_29 : decode cX8_set 29 = .ok (.iload_n 2, 1) := by decide +kernel
theorem dX8_set_30 : decode cX8_set 30 = .ok (.invokevirtual 141, 3) := by decide +kernel
theorem dX8_set_33 : decode cX8_set 33 = .ok (.iload_n 3, 1) := by decide +kernel
theorem dX8_set_34 : decode cX8_set 34 = .ok (.ireturn, 1) := by decide +kernel
theorem dX8_high_0 : decode cX8_high 0 = .ok (.iload_n 1, 1) := by decide +kernel
theorem dX8_high_1 : decode cX8_high 1 = .ok (.invokestatic 122, 3) := by decide +kernel
theorem dX8_high_4 : decode cX8_high 4 = .ok (.ifCond .eq 14, 3) := by decide +kernel
theorem dX8_high_7 : decode cX8_high 7 = .ok (.aload_n 0, 1) := by decide +kernel
theorem dX8_high_8 : decode cX8_high 8 = .ok (.getfield 26, 3) := by decide +kernel
theorem dX8_high_11 : decode cX8_high 11 = .ok (.iload_n 1, 1) := by decide +kernel
theorem dX8_high_12 : decode cX8_high 12 = .ok (.invokevirtual 144, 3) := by decide +kernel
theorem dX8_high_15 : decode cX8_high 15 = .ok (.goto 5, 3) := by decide +kernel
theorem dX8_high_18 : decode cX8_high 18 = .ok (.bipush (-2), 2) := by decide +kernel
theorem dX8_high_20 : decode cX8_high 20 = .ok (.ireturn, 1) := by decide +kernel
theorem dX8_does_0 : decode cX8_does 0 = .ok (.iload_n 1, 1) := by decide +kernel
theorem dX8_does_1 : decode cX8_does 1 = .ok (.invokestatic 122, 3) := by decide +kernel
theorem dX8_does_4 : decode cX8_does 4 = .ok (.ifCond .eq 14, 3) := by decide +kernel
theorem dX8_does_7 : decode cX8_does 7 = .ok (.aload_n 0, 1) := by decide +kernel
theorem dX8_does_8 : decode cX8_does 8 = .ok (.getfield 26, 3) := by decide +kernel
theorem dX8_does_11 : decode cX8_does 11 = .ok (.iload_n 1, 1) := by decide +kernel
theorem dX8_does_12 : decode cX8_does 12 = .ok (.invokevirtual 147, 3) := by decide +kernel
theorem dX8_does_15 : decode cX8_does 15 = .ok (.goto 5, 3) := by decide +kernel
theorem dX8_does_18 : decode cX8_does 18 = .ok (.bipush (-2), 2) := by decide +kernel
theorem dX8_does_20 : decode cX8_does 20 = .ok (.ireturn, 1) := by decide +kernel
theorem dX8_leans_0 : decode cX8_leans 0 = .ok (.iload_n 1, 1) := by decide +kernel
theorem dX8_leans_1 : decode cX8_leans 1 = .ok (.invokestatic 122, 3) := by decide +kernel
theorem dX8_leans_4 : decode cX8_leans 4 = .ok (.ifCond .eq 14, 3) := by decide +kernel
theorem dX8_leans_7 : decode cX8_leans 7 = .ok (.aload_n 0, 1) := by decide +kernel
theorem dX8_leans_8 : decode cX8_leans 8 = .ok (.getfield 33, 3) := by decide +kernel
theorem dX8_leans_11 : decode cX8_leans 11 = .ok (.iload_n 1, 1) := by decide +kernel
theorem dX8_leans_12 : decode cX8_leans 12 = .ok (.invokevirtual 150, 3) := by decide +kernel
theorem dX8_leans_15 : decode cX8_leans 15 = .ok (.goto 5, 3) := by decide +kernel
theorem dX8_leans_18 : decode cX8_leans 18 = .ok (.bipush (-2), 2) := by decide +kernel
theorem dX8_leans_20 : decode cX8_leans 20 = .ok (.ireturn, 1) := by decide +kernel
theorem dX8_crest_0 : decode cX8_crest 0 = .ok (.iload_n 1, 1) := by decide +kernel
theorem dX8_crest_1 : decode cX8_crest 1 = .ok (.invokestatic 122, 3) := by decide +kernel
theorem dX8_crest_4 : decode cX8_crest 4 = .ok (.ifCond .eq 14, 3) := by decide +kernel
theorem dX8_crest_7 : decode cX8_crest 7 = .ok (.iload_n 2, 1) := by decide +kernel
theorem dX8_crest_8 : decode cX8_crest 8 = .ok (.iconst 1, 1) := by decide +kernel
theorem dX8_crest_9 : decode cX8_crest 9 = .ok (.if_icmp .lt 9, 3) := by decide +kernel
theorem dX8_crest_12 : decode cX8_crest 12 = .ok (.iload_n 2, 1) := by decide +kernel
theorem dX8_crest_13 : decode cX8_crest 13 = .ok (.bipush 99, 2) := by decide +kernel
theorem dX8_crest_15 : decode cX8_crest 15 = .ok (.if_icmp .le 6, 3) := by decide +kernel
theorem dX8_crest_18 : decode cX8_crest 18 = .ok (.bipush (-2), 2) := by decide +kernel
theorem dX8_crest_20 : decode cX8_crest 20 = .ok (.ireturn, 1) := by decide +kernel
theorem dX8_crest_21 : decode cX8_crest 21 = .ok (.aload_n 0, 1) := by decide +kernel
theorem dX8_crest_22 : decode cX8_crest 22 = .ok (.getfield 26, 3) := by decide +kernel
theorem dX8_crest_25 : decode cX8_crest 25 = .ok (.iload_n 1, 1) := by decide +kernel
theorem dX8_crest_26 : decode cX8_crest 26 = .ok (.iload_n 2, 1) := by decide +kernel
theorem dX8_crest_27 : decode cX8_crest 27 = .ok (.invokevirtual 153, 3) := by decide +kernel
theorem dX8_crest_30 : decode cX8_crest 30 = .ok (.ireturn, 1) := by decide +kernel
theorem dX8_seventh_0 : decode cX8_seventh 0 = .ok (.iload_n 1, 1) := by decide +kernel
theorem dX8_seventh_1 : decode cX8_seventh 1 = .ok (.invokestatic 122, 3) := by decide +kernel
theorem dX8_seventh_4 : decode cX8_seventh 4 = .ok (.ifCond .eq 14, 3) := by decide +kernel
theorem dX8_seventh_7 : decode cX8_seventh 7 = .ok (.aload_n 0, 1) := by decide +kernel
theorem dX8_seventh_8 : decode cX8_seventh 8 = .ok (.getfield 26, 3) := by decide +kernel
theorem dX8_seventh_11 : decode cX8_seventh 11 = .ok (.iload_n 1, 1) := by decide +kernel
theorem dX8_seventh_12 : decode cX8_seventh 12 = .ok (.invokevirtual 157, 3) := by decide +kernel
theorem dX8_seventh_15 : decode cX8_seventh 15 = .ok (.goto 5, 3) := by decide +kernel
theorem dX8_seventh_18 : decode cX8_seventh 18 = .ok (.bipush (-2), 2) := by decide +kernel
theorem dX8_seventh_20 : decode cX8_seventh 20 = .ok (.ireturn, 1) := by decide +kernel
theorem dX8_lull_0 : decode cX8_lull 0 = .ok (.iload_n 1, 1) := by decide +kernel
theorem dX8_lull_1 : decode cX8_lull 1 = .ok (.invokestatic 122, 3) := by decide +kernel
theorem dX8_lull_4 : decode cX8_lull 4 = .ok (.ifCond .eq 17, 3) := by decide +kernel
theorem dX8_lull_7 : decode cX8_lull 7 = .ok (.iload_n 2, 1) := by decide +kernel
theorem dX8_lull_8 : decode cX8_lull 8 = .ok (.invokestatic 160, 3) := by decide +kernel
theorem dX8_lull_11 : decode cX8_lull 11 = .ok (.ifCond .eq 10, 3) := by decide +kernel
theorem dX8_lull_14 : decode cX8_lull 14 = .ok (.iload_n 3, 1) := by decide +kernel
theorem dX8_lull_15 : decode cX8_lull 15 = .ok (.invokestatic 103, 3) := by decide +kernel
theorem dX8_lull_18 : decode cX8_lull 18 = .ok (.ifCond .ne 6, 3) := by decide +kernel
theorem dX8_lull_21 : decode cX8_lull 21 = .ok (.bipush (-2), 2) := by decide +kernel
theorem dX8_lull_23 : decode cX8_lull 23 = .ok (.ireturn, 1) := by decide +kernel
theorem dX8_lull_24 : decode cX8_lull 24 = .ok (.aload_n 0, 1) := by decide +kernel
theorem dX8_lull_25 : decode cX8_lull 25 = .ok (.getfield 26, 3) := by decide +kernel
theorem dX8_lull_28 : decode cX8_lull 28 = .ok (.iload_n 1, 1) := by decide +kernel
theorem dX8_lull_29 : decode cX8_lull 29 = .ok (.iload_n 2, 1) := by decide +kernel
theorem dX8_lull_30 : decode cX8_lull 30 = .ok (.invokevirtual 163, 3) := by decide +kernel
theorem dX8_lull_33 : decode cX8_lull 33 = .ok (.istore 4, 2) := by decide +kernel
theorem dX8_lull_35 : decode cX8_lull 35 = .ok (.iload 4, 2) := by decide +kernel
theorem dX8_lull_37 : decode cX8_lull 37 = .ok (.iconst (-1), 1) := by decide +kernel
theorem dX8_lull_38 : decode cX8_lull 38 = .ok (.if_icmp .eq 7, 3) := by decide +kernel
theorem dX8_lull_41 : decode cX8_lull 41 = .ok (.iload_n 3, 1) := by decide +kernel
theorem dX8_lull_42 : decode cX8_lull 42 = .ok (.ifCond .ne 6, 3) := by decide +kernel
theorem dX8_lull_45 : decode cX8_lull 45 = .ok (.iload 4, 2) := by decide +kernel
theorem dX8_lull_47 : decode cX8_lull 47 = .ok (.ireturn, 1) := by decide +kernel
theorem dX8_lull_48 : decode cX8_lull 48 = .ok (.aload_n 0, 1) := by decide +kernel
theorem dX8_lull_49 : decode cX8_lull 49 = .ok (.getfield 26, 3) := by decide +kernel
theorem dX8_lull_52 : decode cX8_lull 52 = .ok (.iload 4, 2) := by decide +kernel
theorem dX8_lull_54 : decode cX8_lull 54 = .ok (.iload_n 2, 1) := by decide +kernel
theorem dX8_lull_55 : decode cX8_lull 55 = .ok (.ldc 166, 2) := by decide +kernel
theorem dX8_lull_57 : decode cX8_lull 57 = .ok (.invokevirtual 167, 3) := by decide +kernel
theorem dX8_lull_60 : decode cX8_lull 60 = .ok (.ireturn, 1) := by decide +kernel
theorem dX8_step_0 : decode cX8_step 0 = .ok (.iload_n 1, 1) := by decide +kernel
theorem dX8_step_1 : decode cX8_step 1 = .ok (.invokestatic 122, 3) := by decide +kernel
theorem dX8_step_4 : decode cX8_step 4 = .ok (.ifCond .eq 11, 3) := by decide +kernel
theorem dX8_step_7 : decode cX8_step 7 = .ok (.aload_n 0, 1) := by decide +kernel
theorem dX8_step_8 : decode cX8_step 8 = .ok (.iload_n 1, 1) := by decide +kernel
theorem dX8_step_9 : decode cX8_step 9 = .ok (.invokevirtual 171, 3) := by decide +kernel
theorem dX8_step_12 : decode cX8_step 12 = .ok (.goto 5, 3) := by decide +kernel
theorem dX8_step_15 : decode cX8_step 15 = .ok (.bipush (-2), 2) := by decide +kernel
theorem dX8_step_17 : decode cX8_step 17 = .ok (.ireturn, 1) := by decide +kernel
theorem dX8_fall_0 : decode cX8_fall 0 = .ok (.iload_n 1, 1) := by decide +kernel
theorem dX8_fall_1 : decode cX8_fall 1 = .ok (.invokestatic 122, 3) := by decide +kernel
theorem dX8_fall_4 : decode cX8_fall 4 = .ok (.ifCond .eq 11, 3) := by decide +kernel
theorem dX8_fall_7 : decode cX8_fall 7 = .ok (.aload_n 0, 1) := by decide +kernel
theorem dX8_fall_8 : decode cX8_fall 8 = .ok (.iload_n 1, 1) := by decide +kernel
theorem dX8_fall_9 : decode cX8_fall 9 = .ok (.invokevirtual 174, 3) := by decide +kernel
theorem dX8_fall_12 : decode cX8_fall 12 = .ok (.goto 5, 3) := by decide +kernel
theorem dX8_fall_15 : decode cX8_fall 15 = .ok (.bipush (-2), 2) := by decide +kernel
theorem dX8_fall_17 : decode cX8_fall 17 = .ok (.ireturn, 1) := by decide +kernel
theorem dX8_climb_0 : decode cX8_climb 0 = .ok (.iload_n 1, 1) := by decide +kernel
theorem dX8_climb_1 : decode cX8_climb 1 = .ok (.invokestatic 122, 3) := by decide +kernel
theorem dX8_climb_4 : decode cX8_climb 4 = .ok (.ifCond .ne 6, 3) := by decide +kernel
theorem dX8_climb_7 : decode cX8_climb 7 = .ok (.bipush (-2), 2) := by decide +kernel
theorem dX8_climb_9 : decode cX8_climb 9 = .ok (.ireturn, 1) := by decide +kernel
theorem dX8_climb_10 : decode cX8_climb 10 = .ok (.aload_n 0, 1) := by decide +kernel
theorem dX8_climb_11 : decode cX8_climb 11 = .ok (.getfield 49, 3) := by decide +kernel
theorem dX8_climb_14 : decode cX8_climb 14 = .ok (.iload_n 1, 1) := by decide +kernel
theorem dX8_climb_15 : decode cX8_climb 15 = .ok (.invokevirtual 177, 3) := by decide +kernel
theorem dX8_climb_18 : decode cX8_climb 18 = .ok (.aload_n 0, 1) := by decide +kernel
theorem dX8_climb_19 : decode cX8_climb 19 = .ok (.getfield 49, 3) := by decide +kernel
theorem dX8_climb_22 : decode cX8_climb 22 = .ok (.getfield 180, 3) := by decide +kernel
theorem dX8_climb_25 : decode cX8_climb 25 = .ok (.ireturn, 1) := by decide +kernel
theorem dX8_bangs_0 : decode cX8_bangs 0 = .ok (.iload_n 1, 1) := by decide +kernel
theorem dX8_bangs_1 : decode cX8_bangs 1 = .ok (.invokestatic 122, 3) := by decide +kernel
theorem dX8_bangs_4 : decode cX8_bangs 4 = .ok (.ifCond .ne 6, 3) := by decide +kernel
theorem dX8_bangs_7 : decode cX8_bangs 7 = .ok (.bipush (-2), 2) := by decide +kernel
theorem dX8_bangs_9 : decode cX8_bangs 9 = .ok (.ireturn, 1) := by decide +kernel
theorem dX8_bangs_10 : decode cX8_bangs 10 = .ok (.aload_n 0, 1) := by decide +kernel
theorem dX8_bangs_11 : decode cX8_bangs 11 = .ok (.getfield 49, 3) := by decide +kernel
theorem dX8_bangs_14 : decode cX8_bangs 14 = .ok (.iload_n 1, 1) := by decide +kernel
theorem dX8_bangs_15 : decode cX8_bangs 15 = .ok (.invokevirtual 177, 3) := by decide +kernel
theorem dX8_bangs_18 : decode cX8_bangs 18 = .ok (.aload_n 0, 1) := by decide +kernel
theorem dX8_bangs_19 : decode cX8_bangs 19 = .ok (.getfield 49, 3) := by decide +kernel
theorem dX8_bangs_22 : decode cX8_bangs 22 = .ok (.getfield 183, 3) := by decide +kernel
theorem dX8_bangs_25 : decode cX8_bangs 25 = .ok (.ireturn, 1) := by decide +kernel
theorem dX8_safe_0 : decode cX8_safe 0 = .ok (.iload_n 1, 1) := by decide +kernel
theorem dX8_safe_1 : decode cX8_safe 1 = .ok (.invokestatic 122, 3) := by decide +kernel
theorem dX8_safe_4 : decode cX8_safe 4 = .ok (.ifCond .eq 10, 3) := by decide +kernel
theorem dX8_safe_7 : decode cX8_safe 7 = .ok (.iload_n 2, 1) := by decide +kernel
theorem dX8_safe_8 : decode cX8_safe 8 = .ok (.invokestatic 103, 3) := by decide +kernel
theorem dX8_safe_11 : decode cX8_safe 11 = .ok (.ifCond .ne 7, 3) := by decide +kernel
theorem dX8_safe_14 : decode cX8_safe 14 = .ok (.ldc2_w 186, 3) := by decide +kernel
theorem dX8_safe_17 : decode cX8_safe 17 = .ok (.lreturn, 1) := by decide +kernel
theorem dX8_safe_18 : decode cX8_safe 18 = .ok (.aload_n 0, 1) := by decide +kernel
theorem dX8_safe_19 : decode cX8_safe 19 = .ok (.iload_n 1, 1) := by decide +kernel
theorem dX8_safe_20 : decode cX8_safe 20 = .ok (.invokevirtual 188, 3) := by decide +kernel
theorem dX8_safe_23 : decode cX8_safe 23 = .ok (.lstore_n 3, 1) := by decide +kernel
theorem dX8_safe_24 : decode cX8_safe 24 = .ok (.ldc2_w 192, 3) := by decide +kernel
theorem dX8_safe_27 : decode cX8_safe 27 = .ok (.lstore 5, 2) := by decide +kernel
theorem dX8_safe_29 : decode cX8_safe 29 = .ok (.iconst 0, 1) := by decide +kernel
theorem dX8_safe_30 : decode cX8_safe 30 = .ok (.istore 7, 2) := by decide +kernel
theorem dX8_safe_32 : decode cX8_safe 32 = .ok (.iload 7, 2) := by decide +kernel
theorem dX8_safe_34 : decode cX8_safe 34 = .ok (.bipush 52, 2) := by decide +kernel
theorem dX8_safe_36 : decode cX8_safe 36 = .ok (.if_icmp .ge 33, 3) := by decide +kernel
theorem dX8_safe_39 : decode cX8_safe 39 = .ok (.lload_n 3, 1) := by decide +kernel
theorem dX8_safe_40 : decode cX8_safe 40 = .ok (.ldc2_w 194, 3) := by decide +kernel
theorem dX8_safe_43 : decode cX8_safe 43 = .ok (.lrem, 1) := by decide +kernel
theorem dX8_safe_44 : decode cX8_safe 44 = .ok (.lconst 0, 1) := by decide +kernel
theorem dX8_safe_45 : decode cX8_safe 45 = .ok (.lcmp, 1) := by decide +kernel
theorem dX8_safe_46 : decode cX8_safe 46 = .ok (.ifCond .ne 23, 3) := by decide +kernel
theorem dX8_safe_49 : decode cX8_safe 49 = .ok (.lload_n 3, 1) := by decide +kernel
theorem dX8_safe_50 : decode cX8_safe 50 = .ok (.ldc2_w 194, 3) := by decide +kernel
theorem dX8_safe_53 : decode cX8_safe 53 = .ok (.ldiv, 1) := by decide +kernel
theorem dX8_safe_54 : decode cX8_safe 54 = .ok (.lstore_n 3, 1) := by decide +kernel
theorem dX8_safe_55 : decode cX8_safe 55 = .ok (.lload 5, 2) := by decide +kernel
theorem dX8_safe_57 : decode cX8_safe 57 = .ok (.ldc2_w 194, 3) := by decide +kernel
theorem dX8_safe_60 : decode cX8_safe 60 = .ok (.ldiv, 1) := by decide +kernel
theorem dX8_safe_61 : decode cX8_safe 61 = .ok (.lstore 5, 2) := by decide +kernel
theorem dX8_safe_63 : decode cX8_safe 63 = .ok (.iinc 7 1, 3) := by decide +kernel
theorem dX8_safe_66 : decode cX8_safe 66 = .ok (.goto (-34), 3) := by decide +kernel
theorem dX8_safe_69 : decode cX8_safe 69 = .ok (.iload_n 2, 1) := by decide +kernel
theorem dX8_safe_70 : decode cX8_safe 70 = .ok (.ifCond .ne 7, 3) := by decide +kernel
theorem dX8_safe_73 : decode cX8_safe 73 = .ok (.lload_n 3, 1) := by decide +kernel
theorem dX8_safe_74 : decode cX8_safe 74 = .ok (.goto 5, 3) := by decide +kernel
theorem dX8_safe_77 : decode cX8_safe 77 = .ok (.lload 5, 2) := by decide +kernel
theorem dX8_safe_79 : decode cX8_safe 79 = .ok (.lreturn, 1) := by decide +kernel
theorem dX8_best_0 : decode cX8_best 0 = .ok (.iload_n 1, 1) := by decide +kernel
theorem dX8_best_1 : decode cX8_best 1 = .ok (.invokestatic 122, 3) := by decide +kernel
theorem dX8_best_4 : decode cX8_best 4 = .ok (.ifCond .eq 10, 3) := by decide +kernel
theorem dX8_best_7 : decode cX8_best 7 = .ok (.iload_n 2, 1) := by decide +kernel
theorem dX8_best_8 : decode cX8_best 8 = .ok (.invokestatic 160, 3) := by decide +kernel
theorem dX8_best_11 : decode cX8_best 11 = .ok (.ifCond .ne 6, 3) := by decide +kernel
theorem dX8_best_14 : decode cX8_best 14 = .ok (.bipush (-2), 2) := by decide +kernel
theorem dX8_best_16 : decode cX8_best 16 = .ok (.ireturn, 1) := by decide +kernel
theorem dX8_best_17 : decode cX8_best 17 = .ok (.iload_n 1, 1) := by decide +kernel
theorem dX8_best_18 : decode cX8_best 18 = .ok (.istore_n 3, 1) := by decide +kernel
theorem dX8_best_19 : decode cX8_best 19 = .ok (.aload_n 0, 1) := by decide +kernel
theorem dX8_best_20 : decode cX8_best 20 = .ok (.iload_n 1, 1) := by decide +kernel
theorem dX8_best_21 : decode cX8_best 21 = .ok (.invokevirtual 188, 3) := by decide +kernel
theorem dX8_best_24 : decode cX8_best 24 = .ok (.lstore 4, 2) := by decide +kernel
theorem dX8_best_26 : decode cX8_best 26 = .ok (.iload_n 1, 1) := by decide +kernel
theorem dX8_best_27 : decode cX8_best 27 = .ok (.iload_n 2, 1) := by decide +kernel
theorem dX8_best_28 : decode cX8_best 28 = .ok (.invokestatic 196, 3) := by decide +kernel
theorem dX8_best_31 : decode cX8_best 31 = .ok (.istore 6, 2) := by decide +kernel
theorem dX8_best_33 : decode cX8_best 33 = .ok (.iload_n 1, 1) := by decide +kernel
theorem dX8_best_34 : decode cX8_best 34 = .ok (.iconst 1, 1) := by decide +kernel
theorem dX8_best_35 : decode cX8_best 35 = .ok (.iadd, 1) := by decide +kernel
theorem dX8_best_36 : decode cX8_best 36 = .ok (.istore 7, 2) := by decide +kernel
theorem dX8_best_38 : decode cX8_best 38 = .ok (.iload 7, 2) := by decide +kernel
theorem dX8_best_40 : decode cX8_best 40 = .ok (.iload 6, 2) := by decide +kernel
theorem dX8_best_42 : decode cX8_best 42 = .ok (.if_icmp .ge 32, 3) := by decide +kernel
theorem dX8_best_45 : decode cX8_best 45 = .ok (.aload_n 0, 1) := by decide +kernel
theorem dX8_best_46 : decode cX8_best 46 = .ok (.iload 7, 2) := by decide +kernel
theorem dX8_best_48 : decode cX8_best 48 = .ok (.invokevirtual 188, 3) := by decide +kernel
theorem dX8_best_51 : decode cX8_best 51 = .ok (.lstore 8, 2) := by decide +kernel
theorem dX8_best_53 : decode cX8_best 53 = .ok (.lload 8, 2) := by decide +kernel
theorem dX8_best_55 : decode cX8_best 55 = .ok (.lload 4, 2) := by decide +kernel
theorem dX8_best_57 : decode cX8_best 57 = .ok (.lcmp, 1) := by decide +kernel
theorem dX8_best_58 : decode cX8_best 58 = .ok (.ifCond .le 10, 3) := by decide +kernel
theorem dX8_best_61 : decode cX8_best 61 = .ok (.iload 7, 2) := by decide +kernel
theorem dX8_best_63 : decode cX8_best 63 = .ok (.istore_n 3, 1) := by decide +kernel
theorem dX8_best_64 : decode cX8_best 64 = .ok (.lload 8, 2) := by decide +kernel
theorem dX8_best_66 : decode cX8_best 66 = .ok (.lstore 4, 2) := by decide +kernel
theorem dX8_best_68 : decode cX8_best 68 = .ok (.iinc 7 1, 3) := by decide +kernel
theorem dX8_best_71 : decode cX8_best 71 = .ok (.goto (-33), 3) := by decide +kernel
theorem dX8_best_74 : decode cX8_best 74 = .ok (.iload_n 3, 1) := by decide +kernel
theorem dX8_best_75 : decode cX8_best 75 = .ok (.ireturn, 1) := by decide +kernel
theorem dX8_call_0 : decode cX8_call 0 = .ok (.aload_n 0, 1) := by decide +kernel
theorem dX8_call_1 : decode cX8_call 1 = .ok (.iload_n 1, 1) := by decide +kernel
theorem dX8_call_2 : decode cX8_call 2 = .ok (.iload_n 2, 1) := by decide +kernel
theorem dX8_call_3 : decode cX8_call 3 = .ok (.invokevirtual 199, 3) := by decide +kernel
theorem dX8_call_6 : decode cX8_call 6 = .ok (.istore_n 3, 1) := by decide +kernel
theorem dX8_call_7 : decode cX8_call 7 = .ok (.iload_n 3, 1) := by decide +kernel
theorem dX8_call_8 : decode cX8_call 8 = .ok (.ifCond .ge 5, 3) := by decide +kernel
theorem dX8_call_11 : decode cX8_call 11 = .ok (.iload_n 3, 1) := by decide +kernel
theorem dX8_call_12 : decode cX8_call 12 = .ok (.ireturn, 1) := by decide +kernel
theorem dX8_call_13 : decode cX8_call 13 = .ok (.iload_n 3, 1) := by decide +kernel
theorem dX8_call_14 : decode cX8_call 14 = .ok (.aload_n 0, 1) := by decide +kernel
theorem dX8_call_15 : decode cX8_call 15 = .ok (.getfield 40, 3) := by decide +kernel
theorem dX8_call_18 : decode cX8_call 18 = .ok (.bipush 11, 2) := by decide +kernel
theorem dX8_call_20 : decode cX8_call 20 = .ok (.invokevirtual 138, 3) := by decide +kernel
theorem dX8_call_23 : decode cX8_call 23 = .ok (.isub, 1) := by decide +kernel
theorem dX8_call_24 : decode cX8_call 24 = .ok (.istore 4, 2) := by decide +kernel
theorem dX8_call_26 : decode cX8_call 26 = .ok (.iload 4, 2) := by decide +kernel
theorem dX8_call_28 : decode cX8_call 28 = .ok (.ifCond .ge 7, 3) := by decide +kernel
theorem dX8_call_31 : decode cX8_call 31 = .ok (.iconst (-1), 1) := by decide +kernel
theorem dX8_call_32 : decode cX8_call 32 = .ok (.goto 5, 3) := by decide +kernel
theorem dX8_call_35 : decode cX8_call 35 = .ok (.iload 4, 2) := by decide +kernel
theorem dX8_call_37 : decode cX8_call 37 = .ok (.ireturn, 1) := by decide +kernel
theorem dX8_down_0 : decode cX8_down 0 = .ok (.iload_n 1, 1) := by decide +kernel
theorem dX8_down_1 : decode cX8_down 1 = .ok (.invokestatic 122, 3) := by decide +kernel
theorem dX8_down_4 : decode cX8_down 4 = .ok (.ifCond .eq 17, 3) := by decide +kernel
theorem dX8_down_7 : decode cX8_down 7 = .ok (.iload_n 2, 1) := by decide +kernel
theorem dX8_down_8 : decode cX8_down 8 = .ok (.invokestatic 160, 3) := by decide +kernel
theorem dX8_down_11 : decode cX8_down 11 = .ok (.ifCond .eq 10, 3) := by decide +kernel
theorem dX8_down_14 : decode cX8_down 14 = .ok (.iload_n 3, 1) := by decide +kernel
theorem dX8_down_15 : decode cX8_down 15 = .ok (.invokestatic 103, 3) := by decide +kernel
theorem dX8_down_18 : decode cX8_down 18 = .ok (.ifCond .ne 6, 3) := by decide +kernel
theorem dX8_down_21 : decode cX8_down 21 = .ok (.bipush (-2), 2) := by decide +kernel
theorem dX8_down_23 : decode cX8_down 23 = .ok (.ireturn, 1) := by decide +kernel
theorem dX8_down_24 : decode cX8_down 24 = .ok (.iload_n 1, 1) := by decide +kernel
theorem dX8_down_25 : decode cX8_down 25 = .ok (.istore 4, 2) := by decide +kernel
theorem dX8_down_27 : decode cX8_down 27 = .ok (.iload_n 1, 1) := by decide +kernel
theorem dX8_down_28 : decode cX8_down 28 = .ok (.iload_n 2, 1) := by decide +kernel
theorem dX8_down_29 : decode cX8_down 29 = .ok (.invokestatic 196, 3) := by decide +kernel
theorem dX8_down_32 : decode cX8_down 32 = .ok (.istore 5, 2) := by decide +kernel
theorem dX8_down_34 : decode cX8_down 34 = .ok (.iload_n 1, 1) := by decide +kernel
theorem dX8_down_35 : decode cX8_down 35 = .ok (.iconst 1, 1) := by decide +kernel
theorem dX8_down_36 : decode cX8_down 36 = .ok (.iadd, 1) := by decide +kernel
theorem dX8_down_37 : decode cX8_down 37 = .ok (.istore 6, 2) := by decide +kernel
theorem dX8_down_39 : decode cX8_down 39 = .ok (.iload 6, 2) := by decide +kernel
theorem dX8_down_41 : decode cX8_down 41 = .ok (.iload 5, 2) := by decide +kernel
theorem dX8_down_43 : decode cX8_down 43 = .ok (.if_icmp .ge 28, 3) := by decide +kernel
theorem dX8_down_46 : decode cX8_down 46 = .ok (.aload_n 0, 1) := by decide +kernel
theorem dX8_down_47 : decode cX8_down 47 = .ok (.iload 6, 2) := by decide +kernel
theorem dX8_down_49 : decode cX8_down 49 = .ok (.invokevirtual 202, 3) := by decide +kernel
theorem dX8_down_52 : decode cX8_down 52 = .ok (.aload_n 0, 1) := by decide +kernel
theorem dX8_down_53 : decode cX8_down 53 = .ok (.iload 4, 2) := by decide +kernel
theorem dX8_down_55 : decode cX8_down 55 = .ok (.invokevirtual 202, 3) := by decide +kernel
theorem dX8_down_58 : decode cX8_down 58 = .ok (.if_icmp .ge 7, 3) := by decide +kernel
theorem dX8_down_61 : decode cX8_down 61 = .ok (.iload 6, 2) := by decide +kernel
theorem dX8_down_63 : decode cX8_down 63 = .ok (.istore 4, 2) := by decide +kernel
theorem dX8_down_65 : decode cX8_down 65 = .ok (.iinc 6 1, 3) := by decide +kernel
theorem dX8_down_68 : decode cX8_down 68 = .ok (.goto (-29), 3) := by decide +kernel
theorem dX8_down_71 : decode cX8_down 71 = .ok (.iload_n 3, 1) := by decide +kernel
theorem dX8_down_72 : decode cX8_down 72 = .ok (.ifCond .ne 8, 3) := by decide +kernel
theorem dX8_down_75 : decode cX8_down 75 = .ok (.iload 4, 2) := by decide +kernel
theorem dX8_down_77 : decode cX8_down 77 = .ok (.goto 9, 3) := by decide +kernel
theorem dX8_down_80 : decode cX8_down 80 = .ok (.aload_n 0, 1) := by decide +kernel
theorem dX8_down_81 : decode cX8_down 81 = .ok (.iload 4, 2) := by decide +kernel
theorem dX8_down_83 : decode cX8_down 83 = .ok (.invokevirtual 202, 3) := by decide +kernel
theorem dX8_down_86 : decode cX8_down 86 = .ok (.ireturn, 1) := by decide +kernel
theorem dX8_saves_0 : decode cX8_saves 0 = .ok (.aload_n 0, 1) := by decide +kernel
theorem dX8_saves_1 : decode cX8_saves 1 = .ok (.getfield 26, 3) := by decide +kernel
theorem dX8_saves_4 : decode cX8_saves 4 = .ok (.invokevirtual 205, 3) := by decide +kernel
theorem dX8_saves_7 : decode cX8_saves 7 = .ok (.ireturn, 1) := by decide +kernel
theorem dX8_ladder_0 : decode cX8_ladder 0 = .ok (.iload_n 1, 1) := by decide +kernel
theorem dX8_ladder_1 : decode cX8_ladder 1 = .ok (.invokestatic 122, 3) := by decide +kernel
theorem dX8_ladder_4 : decode cX8_ladder 4 = .ok (.ifCond .eq 10, 3) := by decide +kernel
theorem dX8_ladder_7 : decode cX8_ladder 7 = .ok (.iload_n 2, 1) := by decide +kernel
theorem dX8_ladder_8 : decode cX8_ladder 8 = .ok (.invokestatic 160, 3) := by decide +kernel
theorem dX8_ladder_11 : decode cX8_ladder 11 = .ok (.ifCond .ne 6, 3) := by decide +kernel
theorem dX8_ladder_14 : decode cX8_ladder 14 = .ok (.bipush (-2), 2) := by decide +kernel
theorem dX8_ladder_16 : decode cX8_ladder 16 = .ok (.ireturn, 1) := by decide +kernel
theorem dX8_ladder_17 : decode cX8_ladder 17 = .ok (.iload_n 1, 1) := by decide +kernel
theorem dX8_ladder_18 : decode cX8_ladder 18 = .ok (.iload_n 2, 1) := by decide +kernel
theorem dX8_ladder_19 : decode cX8_ladder 19 = .ok (.invokestatic 196, 3) := by decide +kernel
theorem dX8_ladder_22 : decode cX8_ladder 22 = .ok (.istore_n 3, 1) := by decide +kernel
theorem dX8_ladder_23 : decode cX8_ladder 23 = .ok (.sipush 999, 3) := by decide +kernel
theorem dX8_ladder_26 : decode cX8_ladder 26 = .ok (.aload_n 0, 1) := by decide +kernel
theorem dX8_ladder_27 : decode cX8_ladder 27 = .ok (.getfield 26, 3) := by decide +kernel
theorem dX8_ladder_30 : decode cX8_ladder 30 = .ok (.iload_n 1, 1) := by decide +kernel
theorem dX8_ladder_31 : decode cX8_ladder 31 = .ok (.iload_n 3, 1) := by decide +kernel
theorem dX8_ladder_32 : decode cX8_ladder 32 = .ok (.invokevirtual 209, 3) := by decide +kernel
theorem dX8_ladder_35 : decode cX8_ladder 35 = .ok (.aload_n 0, 1) := by decide +kernel
theorem dX8_ladder_36 : decode cX8_ladder 36 = .ok (.getfield 40, 3) := by decide +kernel
theorem dX8_ladder_39 : decode cX8_ladder 39 = .ok (.iconst 3, 1) := by decide +kernel
theorem dX8_ladder_40 : decode cX8_ladder 40 = .ok (.invokevirtual 138, 3) := by decide +kernel
theorem dX8_ladder_43 : decode cX8_ladder 43 = .ok (.iadd, 1) := by decide +kernel
theorem dX8_ladder_44 : decode cX8_ladder 44 = .ok (.invokestatic 212, 3) := by decide +kernel
theorem dX8_ladder_47 : decode cX8_ladder 47 = .ok (.istore 4, 2) := by decide +kernel
theorem dX8_ladder_49 : decode cX8_ladder 49 = .ok (.aload_n 0, 1) := by decide +kernel
theorem dX8_ladder_50 : decode cX8_ladder 50 = .ok (.getfield 26, 3) := by decide +kernel
theorem dX8_ladder_53 : decode cX8_ladder 53 = .ok (.iload 4, 2) := by decide +kernel
theorem dX8_ladder_55 : decode cX8_ladder 55 = .ok (.iload_n 1, 1) := by decide +kernel
theorem dX8_ladder_56 : decode cX8_ladder 56 = .ok (.iload_n 3, 1) := by decide +kernel
theorem dX8_ladder_57 : decode cX8_ladder 57 = .ok (.invokevirtual 217, 3) := by decide +kernel
theorem dX8_ladder_60 : decode cX8_ladder 60 = .ok (.ireturn, 1) := by decide +kernel
theorem dX8_seen_0 : decode cX8_seen 0 = .ok (.iload_n 1, 1) := by decide +kernel
theorem dX8_seen_1 : decode cX8_seen 1 = .ok (.invokestatic 122, 3) := by decide +kernel
theorem dX8_seen_4 : decode cX8_seen 4 = .ok (.ifCond .eq 14, 3) := by decide +kernel
theorem dX8_seen_7 : decode cX8_seen 7 = .ok (.iload_n 2, 1) := by decide +kernel
theorem dX8_seen_8 : decode cX8_seen 8 = .ok (.ifCond .lt 10, 3) := by decide +kernel
theorem dX8_seen_11 : decode cX8_seen 11 = .ok (.iload_n 2, 1) := by decide +kernel
theorem dX8_seen_12 : decode cX8_seen 12 = .ok (.sipush 3000, 3) := by decide +kernel
theorem dX8_seen_15 : decode cX8_seen 15 = .ok (.if_icmp .le 6, 3) := by decide +kernel
theorem dX8_seen_18 : decode cX8_seen 18 = .ok (.bipush (-2), 2) := by decide +kernel
theorem dX8_seen_20 : decode cX8_seen 20 = .ok (.ireturn, 1) := by decide +kernel
theorem dX8_seen_21 : decode cX8_seen 21 = .ok (.aload_n 0, 1) := by decide +kernel
theorem dX8_seen_22 : decode cX8_seen 22 = .ok (.getfield 56, 3) := by decide +kernel
theorem dX8_seen_25 : decode cX8_seen 25 = .ok (.getfield 220, 3) := by decide +kernel
theorem dX8_seen_28 : decode cX8_seen 28 = .ok (.bipush 8, 2) := by decide +kernel
theorem dX8_seen_30 : decode cX8_seen 30 = .ok (.if_icmp .lt 6, 3) := by decide +kernel
theorem dX8_seen_33 : decode cX8_seen 33 = .ok (.bipush (-4), 2) := by decide +kernel
theorem dX8_seen_35 : decode cX8_seen 35 = .ok (.ireturn, 1) := by decide +kernel
theorem dX8_seen_36 : decode cX8_seen 36 = .ok (.aload_n 0, 1) := by decide +kernel
theorem dX8_seen_37 : decode cX8_seen 37 = .ok (.getfield 56, 3) := by decide +kernel
theorem dX8_seen_40 : decode cX8_seen 40 = .ok (.iload_n 1, 1) := by decide +kernel
theorem dX8_seen_41 : decode cX8_seen 41 = .ok (.iload_n 2, 1) := by decide +kernel
theorem dX8_seen_42 : decode cX8_seen 42 = .ok (.invokevirtual 221, 3) := by decide +kernel
theorem dX8_seen_45 : decode cX8_seen 45 = .ok (.aload_n 0, 1) := by decide +kernel
theorem dX8_seen_46 : decode cX8_seen 46 = .ok (.getfield 56, 3) := by decide +kernel
theorem dX8_seen_49 : decode cX8_seen 49 = .ok (.getfield 220, 3) := by decide +kernel
theorem dX8_seen_52 : decode cX8_seen 52 = .ok (.ireturn, 1) := by decide +kernel
theorem dX8_forget_0 : decode cX8_forget 0 = .ok (.aload_n 0, 1) := by decide +kernel
theorem dX8_forget_1 : decode cX8_forget 1 = .ok (.getfield 56, 3) := by decide +kernel
theorem dX8_forget_4 : decode cX8_forget 4 = .ok (.getfield 220, 3) := by decide +kernel
theorem dX8_forget_7 : decode cX8_forget 7 = .ok (.istore_n 1, 1) := by decide +kernel
theorem dX8_forget_8 : decode cX8_forget 8 = .ok (.aload_n 0, 1) := by decide +kernel
theorem dX8_forget_9 : decode cX8_forget 9 = .ok (.getfield 56, 3) := by decide +kernel
theorem dX8_forget_12 : decode cX8_forget 12 = .ok (.iconst 0, 1) := by decide +kernel
theorem dX8_forget_13 : decode cX8_forget 13 = .ok (.putfield 220, 3) := by decide +kernel
theorem dX8_forget_16 : decode cX8_forget 16 = .ok (.iload_n 1, 1) := by decide +kernel
theorem dX8_forget_17 : decode cX8_forget 17 = .ok (.ireturn, 1) := by decide +kernel
theorem dX8_read_0 : decode cX8_read 0 = .ok (.aload_n 0, 1) := by decide +kernel
theorem dX8_read_1 : decode cX8_read 1 = .ok (.iload_n 1, 1) := by decide +kernel
theorem dX8_read_2 : decode cX8_read 2 = .ok (.invokevirtual 223, 3) := by decide +kernel
theorem dX8_read_5 : decode cX8_read 5 = .ok (.astore_n 2, 1) := by decide +kernel
theorem dX8_read_6 : decode cX8_read 6 = .ok (.aload_n 2, 1) := by decide +kernel
theorem dX8_read_7 : decode cX8_read 7 = .ok (.ifnonnull 6, 3) := by decide +kernel
theorem dX8_read_10 : decode cX8_read 10 = .ok (.bipush (-2), 2) := by decide +kernel
theorem dX8_read_12 : decode cX8_read 12 = .ok (.ireturn, 1) := by decide +kernel
theorem dX8_read_13 : decode cX8_read 13 = .ok (.aload_n 2, 1) := by decide +kernel
theorem dX8_read_14 : decode cX8_read 14 = .ok (.getfield 227, 3) := by decide +kernel
theorem dX8_read_17 : decode cX8_read 17 = .ok (.ifCond .eq 9, 3) := by decide +kernel
theorem dX8_read_20 : decode cX8_read 20 = .ok (.aload_n 0, 1) := by decide +kernel
theorem dX8_read_21 : decode cX8_read 21 = .ok (.iconst 1, 1) := by decide +kernel
theorem dX8_read_22 : decode cX8_read 22 = .ok (.invokevirtual 231, 3) := by decide +kernel
theorem dX8_read_25 : decode cX8_read 25 = .ok (.ireturn, 1) := by decide +kernel
theorem dX8_read_26 : decode cX8_read 26 = .ok (.iconst 0, 1) := by decide +kernel
theorem dX8_read_27 : decode cX8_read 27 = .ok (.istore_n 3, 1) := by decide +kernel
theorem dX8_read_28 : decode cX8_read 28 = .ok (.iconst 0, 1) := by decide +kernel
theorem dX8_read_29 : decode cX8_read 29 = .ok (.istore 4, 2) := by decide +kernel
theorem dX8_read_31 : decode cX8_read 31 = .ok (.iload 4, 2) := by decide +kernel
theorem dX8_read_33 : decode cX8_read 33 = .ok (.iconst 1, 1) := by decide +kernel
theorem dX8_read_34 : decode cX8_read 34 = .ok (.iadd, 1) := by decide +kernel
theorem dX8_read_35 : decode cX8_read 35 = .ok (.aload_n 2, 1) := by decide +kernel
theorem dX8_read_36 : decode cX8_read 36 = .ok (.getfield 234, 3) := by decide +kernel
theorem dX8_read_39 : decode cX8_read 39 = .ok (.if_icmp .ge 35, 3) := by decide +kernel
theorem dX8_read_42 : decode cX8_read 42 = .ok (.aload_n 0, 1) := by decide +kernel
theorem dX8_read_43 : decode cX8_read 43 = .ok (.aload_n 2, 1) := by decide +kernel
theorem dX8_read_44 : decode cX8_read 44 = .ok (.iload 4, 2) := by decide +kernel
theorem dX8_read_46 : decode cX8_read 46 = .ok (.invokevirtual 235, 3) := by decide +kernel
theorem dX8_read_49 : decode cX8_read 49 = .ok (.aload_n 2, 1) := by decide +kernel
theorem dX8_read_50 : decode cX8_read 50 = .ok (.iload 4, 2) := by decide +kernel
theorem dX8_read_52 : decode cX8_read 52 = .ok (.iconst 1, 1) := by decide +kernel
theorem dX8_read_53 : decode cX8_read 53 = .ok (.iadd, 1) := by decide +kernel
theorem dX8_read_54 : decode cX8_read 54 = .ok (.invokevirtual 235, 3) := by decide +kernel
theorem dX8_read_57 : decode cX8_read 57 = .ok (.invokevirtual 238, 3) := by decide +kernel
theorem dX8_read_60 : decode cX8_read 60 = .ok (.ifCond .ge 5, 3) := by decide +kernel
theorem dX8_read_63 : decode cX8_read 63 = .ok (.iload_n 3, 1) := by decide +kernel
theorem dX8_read_64 : decode cX8_read 64 = .ok (.ireturn, 1) := by decide +kernel
theorem dX8_read_65 : decode cX8_read 65 = .ok (.iinc 3 1, 3) := by decide +kernel
theorem dX8_read_68 : decode cX8_read 68 = .ok (.iinc 4 2, 3) := by decide +kernel
theorem dX8_read_71 : decode cX8_read 71 = .ok (.goto (-40), 3) := by decide +kernel
theorem dX8_read_74 : decode cX8_read 74 = .ok (.iload_n 3, 1) := by decide +kernel
theorem dX8_read_75 : decode cX8_read 75 = .ok (.ireturn, 1) := by decide +kernel
theorem dX8_learn_0 : decode cX8_learn 0 = .ok (.aload_n 0, 1) := by decide +kernel
theorem dX8_learn_1 : decode cX8_learn 1 = .ok (.iload_n 1, 1) := by decide +kernel
theorem dX8_learn_2 : decode cX8_learn 2 = .ok (.invokevirtual 99, 3) := by decide +kernel
theorem dX8_learn_5 : decode cX8_learn 5 = .ok (.ifCond .eq 14, 3) := by decide +kernel
theorem dX8_learn_8 : decode cX8_learn 8 = .ok (.iload_n 2, 1) := by decide +kernel
theorem dX8_learn_9 : decode cX8_learn 9 = .ok (.iconst (-1), 1) := by decide +kernel
theorem dX8_learn_10 : decode cX8_learn 10 = .ok (.if_icmp .lt 9, 3) := by decide +kernel
theorem dX8_learn_13 : decode cX8_learn 13 = .ok (.iload_n 2, 1) := by decide +kernel
theorem dX8_learn_14 : decode cX8_learn 14 = .ok (.bipush 97, 2) := by decide +kernel
theorem dX8_learn_16 : decode cX8_learn 16 = .ok (.if_icmp .le 6, 3) := by decide +kernel
theorem dX8_learn_19 : decode cX8_learn 19 = .ok (.bipush (-2), 2) := by decide +kernel
theorem dX8_learn_21 : decode cX8_learn 21 = .ok (.ireturn, 1) := by decide +kernel
theorem dX8_learn_22 : decode cX8_learn 22 = .ok (.iconst 0, 1) := by decide +kernel
theorem dX8_learn_23 : decode cX8_learn 23 = .ok (.istore_n 3, 1) := by decide +kernel
theorem dX8_learn_24 : decode cX8_learn 24 = .ok (.iconst 2, 1) := by decide +kernel
theorem dX8_learn_25 : decode cX8_learn 25 = .ok (.istore 4, 2) := by decide +kernel
theorem dX8_learn_27 : decode cX8_learn 27 = .ok (.iload 4, 2) := by decide +kernel
theorem dX8_learn_29 : decode cX8_learn 29 = .ok (.bipush 99, 2) := by decide +kernel
theorem dX8_learn_31 : decode cX8_learn 31 = .ok (.if_icmp .gt 30, 3) := by decide +kernel
theorem dX8_learn_34 : decode cX8_learn 34 = .ok (.aload_n 0, 1) := by decide +kernel
theorem dX8_learn_35 : decode cX8_learn 35 = .ok (.iload_n 1, 1) := by decide +kernel
theorem dX8_learn_36 : decode cX8_learn 36 = .ok (.iload 4, 2) := by decide +kernel
theorem dX8_learn_38 : decode cX8_learn 38 = .ok (.invokevirtual 241, 3) := by decide +kernel
theorem dX8_learn_41 : decode cX8_learn 41 = .ok (.ifCond .eq 14, 3) := by decide +kernel
theorem dX8_learn_44 : decode cX8_learn 44 = .ok (.iload_n 3, 1) := by decide +kernel
theorem dX8_learn_45 : decode cX8_learn 45 = .ok (.iload_n 2, 1) := by decide +kernel
theorem dX8_learn_46 : decode cX8_learn 46 = .ok (.if_icmp .ne 6, 3) := by decide +kernel
theorem dX8_learn_49 : decode cX8_learn 49 = .ok (.iload 4, 2) := by decide +kernel
theorem dX8_learn_51 : decode cX8_learn 51 = .ok (.ireturn, 1) := by decide +kernel
theorem dX8_learn_52 : decode cX8_learn 52 = .ok (.iinc 3 1, 3) := by decide +kernel
theorem dX8_learn_55 : decode cX8_learn 55 = .ok (.iinc 4 1, 3) := by decide +kernel
theorem dX8_learn_58 : decode cX8_learn 58 = .ok (.goto (-31), 3) := by decide +kernel
theorem dX8_learn_61 : decode cX8_learn 61 = .ok (.iload_n 2, 1) := by decide +kernel
theorem dX8_learn_62 : decode cX8_learn 62 = .ok (.iconst (-1), 1) := by decide +kernel
theorem dX8_learn_63 : decode cX8_learn 63 = .ok (.if_icmp .ne 7, 3) := by decide +kernel
theorem dX8_learn_66 : decode cX8_learn 66 = .ok (.iload_n 3, 1) := by decide +kernel
theorem dX8_learn_67 : decode cX8_learn 67 = .ok (.goto 4, 3) := by decide +kernel
theorem dX8_learn_70 : decode cX8_learn 70 = .ok (.iconst (-1), 1) := by decide +kernel
theorem dX8_learn_71 : decode cX8_learn 71 = .ok (.ireturn, 1) := by decide +kernel
theorem dX8_night_0 : decode cX8_night 0 = .ok (.iload_n 2, 1) := by decide +kernel
theorem dX8_night_1 : decode cX8_night 1 = .ok (.iconst 1, 1) := by decide +kernel
theorem dX8_night_2 : decode cX8_night 2 = .ok (.if_icmp .lt 9, 3) := by decide +kernel
theorem dX8_night_5 : decode cX8_night 5 = .ok (.iload_n 2, 1) := by decide +kernel
theorem dX8_night_6 : decode cX8_night 6 = .ok (.bipush 20, 2) := by decide +kernel
theorem dX8_night_8 : decode cX8_night 8 = .ok (.if_icmp .le 6, 3) := by decide +kernel
theorem dX8_night_11 : decode cX8_night 11 = .ok (.bipush (-2), 2) := by decide +kernel
theorem dX8_night_13 : decode cX8_night 13 = .ok (.ireturn, 1) := by decide +kernel
theorem dX8_night_14 : decode cX8_night 14 = .ok (.aload_n 0, 1) := by decide +kernel
theorem dX8_night_15 : decode cX8_night 15 = .ok (.getfield 63, 3) := by decide +kernel
theorem dX8_night_18 : decode cX8_night 18 = .ok (.iload_n 1, 1) := by decide +kernel
theorem dX8_night_19 : decode cX8_night 19 = .ok (.putfield 244, 3) := by decide +kernel
theorem dX8_night_22 : decode cX8_night 22 = .ok (.iconst 0, 1) := by decide +kernel
theorem dX8_night_23 : decode cX8_night 23 = .ok (.istore_n 3, 1) := by decide +kernel
theorem dX8_night_24 : decode cX8_night 24 = .ok (.iconst 0, 1) := by decide +kernel
theorem dX8_night_25 : decode cX8_night 25 = .ok (.istore 4, 2) := by decide +kernel
theorem dX8_night_27 : decode cX8_night 27 = .ok (.iconst 0, 1) := by decide +kernel
theorem dX8_night_28 : decode cX8_night 28 = .ok (.istore 5, 2) := by decide +kernel
theorem dX8_night_30 : decode cX8_night 30 = .ok (.iload 5, 2) := by decide +kernel
theorem dX8_night_32 : decode cX8_night 32 = .ok (.iload_n 2, 1) := by decide +kernel
theorem dX8_night_33 : decode cX8_night 33 = .ok (.if_icmp .ge 53, 3) := by decide +kernel
theorem dX8_night_36 : decode cX8_night 36 = .ok (.aload_n 0, 1) := by decide +kernel
theorem dX8_night_37 : decode cX8_night 37 = .ok (.iload 4, 2) := by decide +kernel
theorem dX8_night_39 : decode cX8_night 39 = .ok (.invokevirtual 247, 3) := by decide +kernel
theorem dX8_night_42 : decode cX8_night 42 = .ok (.istore 6, 2) := by decide +kernel
theorem dX8_night_44 : decode cX8_night 44 = .ok (.iload 6, 2) := by decide +kernel
theorem dX8_night_46 : decode cX8_night 46 = .ok (.iconst (-1), 1) := by decide +kernel
theorem dX8_night_47 : decode cX8_night 47 = .ok (.if_icmp .ne 5, 3) := by decide +kernel
theorem dX8_night_50 : decode cX8_night 50 = .ok (.iload_n 3, 1) := by decide +kernel
theorem dX8_night_51 : decode cX8_night 51 = .ok (.ireturn, 1) := by decide +kernel
theorem dX8_night_52 : decode cX8_night 52 = .ok (.aload_n 0, 1) := by decide +kernel
theorem dX8_night_53 : decode cX8_night 53 = .ok (.iload 6, 2) := by decide +kernel
theorem dX8_night_55 : decode cX8_night 55 = .ok (.invokevirtual 250, 3) := by decide +kernel
theorem dX8_night_58 : decode cX8_night 58 = .ok (.ifCond .eq 18, 3) := by decide +kernel
theorem dX8_night_61 : decode cX8_night 61 = .ok (.iinc 3 1, 3) := by decide +kernel
theorem dX8_night_64 : decode cX8_night 64 = .ok (.aload_n 0, 1) := by decide +kernel
theorem dX8_night_65 : decode cX8_night 65 = .ok (.getfield 49, 3) := by decide +kernel
theorem dX8_night_68 : decode cX8_night 68 = .ok (.getfield 180, 3) := by decide +kernel
theorem dX8_night_71 : decode cX8_night 71 = .ok (.istore 4, 2) := by decide +kernel
theorem dX8_night_73 : decode cX8_night 73 = .ok (.goto 7, 3) := by decide +kernel
theorem dX8_night_76 : decode cX8_night 76 = .ok (.iload 6, 2) := by decide +kernel
theorem dX8_night_78 : decode cX8_night 78 = .ok (.istore 4, 2) := by decide +kernel
theorem dX8_night_80 : decode cX8_night 80 = .ok (.iinc 5 1, 3) := by decide +kernel
theorem dX8_night_83 : decode cX8_night 83 = .ok (.goto (-53), 3) := by decide +kernel
theorem dX8_night_86 : decode cX8_night 86 = .ok (.iload_n 3, 1) := by decide +kernel
theorem dX8_night_87 : decode cX8_night 87 = .ok (.ireturn, 1) := by decide +kernel
theorem dX8_sheet_0 : decode cX8_sheet 0 = .ok (.aload_n 0, 1) := by decide +kernel
theorem dX8_sheet_1 : decode cX8_sheet 1 = .ok (.iload_n 1, 1) := by decide +kernel
theorem dX8_sheet_2 : decode cX8_sheet 2 = .ok (.invokevirtual 223, 3) := by decide +kernel
theorem dX8_sheet_5 : decode cX8_sheet 5 = .ok (.astore 4, 2) := by decide +kernel
theorem dX8_sheet_7 : decode cX8_sheet 7 = .ok (.aload 4, 2) := by decide +kernel
theorem dX8_sheet_9 : decode cX8_sheet 9 = .ok (.ifnull 16, 3) := by decide +kernel
theorem dX8_sheet_12 : decode cX8_sheet 12 = .ok (.iload_n 2, 1) := by decide +kernel
theorem dX8_sheet_13 : decode cX8_sheet 13 = .ok (.invokestatic 253, 3) := by decide +kernel
theorem dX8_sheet_16 : decode cX8_sheet 16 = .ok (.ifCond .eq 9, 3) := by decide +kernel
theorem dX8_sheet_19 : decode cX8_sheet 19 = .ok (.iload_n 3, 1) := by decide +kernel
theorem dX8_sheet_20 : decode cX8_sheet 20 = .ok (.bipush 48, 2) := by decide +kernel
theorem dX8_sheet_22 : decode cX8_sheet 22 = .ok (.if_icmp .le 6, 3) := by decide +kernel
theorem dX8_sheet_25 : decode cX8_sheet 25 = .ok (.bipush (-2), 2) := by decide +kernel
theorem dX8_sheet_27 : decode cX8_sheet 27 = .ok (.ireturn, 1) := by decide +kernel
theorem dX8_sheet_28 : decode cX8_sheet 28 = .ok (.iload_n 3, 1) := by decide +kernel
theorem dX8_sheet_29 : decode cX8_sheet 29 = .ok (.ifCond .ge 9, 3) := by decide +kernel
theorem dX8_sheet_32 : decode cX8_sheet 32 = .ok (.aload_n 0, 1) := by decide +kernel
theorem dX8_sheet_33 : decode cX8_sheet 33 = .ok (.iconst 5, 1) := by decide +kernel
theorem dX8_sheet_34 : decode cX8_sheet 34 = .ok (.invokevirtual 231, 3) := by decide +kernel
theorem dX8_sheet_37 : decode cX8_sheet 37 = .ok (.ireturn, 1) := by decide +kernel
theorem dX8_sheet_38 : decode cX8_sheet 38 = .ok (.aload 4, 2) := by decide +kernel
theorem dX8_sheet_40 : decode cX8_sheet 40 = .ok (.iload_n 2, 1) := by decide +kernel
theorem dX8_sheet_41 : decode cX8_sheet 41 = .ok (.iload_n 3, 1) := by decide +kernel
theorem dX8_sheet_42 : decode cX8_sheet 42 = .ok (.invokevirtual 256, 3) := by decide +kernel
theorem dX8_sheet_45 : decode cX8_sheet 45 = .ok (.iload_n 3, 1) := by decide +kernel
theorem dX8_sheet_46 : decode cX8_sheet 46 = .ok (.ireturn, 1) := by decide +kernel
theorem dX8_lose_0 : decode cX8_lose 0 = .ok (.aload_n 0, 1) := by decide +kernel
theorem dX8_lose_1 : decode cX8_lose 1 = .ok (.iload_n 1, 1) := by decide +kernel
theorem dX8_lose_2 : decode cX8_lose 2 = .ok (.invokevirtual 223, 3) := by decide +kernel
theorem dX8_lose_5 : decode cX8_lose 5 = .ok (.astore_n 2, 1) := by decide +kernel
theorem dX8_lose_6 : decode cX8_lose 6 = .ok (.aload_n 2, 1) := by decide +kernel
theorem dX8_lose_7 : decode cX8_lose 7 = .ok (.ifnonnull 6, 3) := by decide +kernel
theorem dX8_lose_10 : decode cX8_lose 10 = .ok (.bipush (-2), 2) := by decide +kernel
theorem dX8_lose_12 : decode cX8_lose 12 = .ok (.ireturn, 1) := by decide +kernel
theorem dX8_lose_13 : decode cX8_lose 13 = .ok (.aload_n 2, 1) := by decide +kernel
theorem dX8_lose_14 : decode cX8_lose 14 = .ok (.getfield 227, 3) := by decide +kernel
theorem dX8_lose_17 : decode cX8_lose 17 = .ok (.ifCond .eq 9, 3) := by decide +kernel
theorem dX8_lose_20 : decode cX8_lose 20 = .ok (.aload_n 0, 1) := by decide +kernel
theorem dX8_lose_21 : decode cX8_lose 21 = .ok (.iconst 1, 1) := by decide +kernel
theorem dX8_lose_22 : decode cX8_lose 22 = .ok (.invokevirtual 231, 3) := by decide +kernel
theorem dX8_lose_25 : decode cX8_lose 25 = .ok (.ireturn, 1) := by decide +kernel
theorem dX8_lose_26 : decode cX8_lose 26 = .ok (.aload_n 2, 1) := by decide +kernel
theorem dX8_lose_27 : decode cX8_lose 27 = .ok (.iconst 1, 1) := by decide +kernel
theorem dX8_lose_28 : decode cX8_lose 28 = .ok (.putfield 227, 3) := by decide +kernel
theorem dX8_lose_31 : decode cX8_lose 31 = .ok (.aload_n 2, 1) := by decide +kernel
theorem dX8_lose_32 : decode cX8_lose 32 = .ok (.getfield 234, 3) := by decide +kernel
theorem dX8_lose_35 : decode cX8_lose 35 = .ok (.ireturn, 1) := by decide +kernel
theorem dX8_put_0 : decode cX8_put 0 = .ok (.aload_n 0, 1) := by decide +kernel
theorem dX8_put_1 : decode cX8_put 1 = .ok (.iload_n 1, 1) := by decide +kernel
theorem dX8_put_2 : decode cX8_put 2 = .ok (.invokevirtual 223, 3) := by decide +kernel
theorem dX8_put_5 : decode cX8_put 5 = .ok (.astore 5, 2) := by decide +kernel
theorem dX8_put_7 : decode cX8_put 7 = .ok (.aload 5, 2) := by decide +kernel
theorem dX8_put_9 : decode cX8_put 9 = .ok (.ifnull 10, 3) := by decide +kernel
theorem dX8_put_12 : decode cX8_put 12 = .ok (.iload_n 2, 1) := by decide +kernel
theorem dX8_put_13 : decode cX8_put 13 = .ok (.invokestatic 253, 3) := by decide +kernel
theorem dX8_put_16 : decode cX8_put 16 = .ok (.ifCond .ne 6, 3) := by decide +kernel
theorem dX8_put_19 : decode cX8_put 19 = .ok (.bipush (-2), 2) := by decide +kernel
theorem dX8_put_21 : decode cX8_put 21 = .ok (.ireturn, 1) := by decide +kernel
theorem dX8_put_22 : decode cX8_put 22 = .ok (.aload 5, 2) := by decide +kernel
theorem dX8_put_24 : decode cX8_put 24 = .ok (.iload_n 2, 1) := by decide +kernel
theorem dX8_put_25 : decode cX8_put 25 = .ok (.iload_n 3, 1) := by decide +kernel
theorem dX8_put_26 : decode cX8_put 26 = .ok (.invokevirtual 259, 3) := by decide +kernel
theorem dX8_put_29 : decode cX8_put 29 = .ok (.istore 6, 2) := by decide +kernel
theorem dX8_put_31 : decode cX8_put 31 = .ok (.iload 6, 2) := by decide +kernel
theorem dX8_put_33 : decode cX8_put 33 = .ok (.ifCond .eq 10, 3) := by decide +kernel
theorem dX8_put_36 : decode cX8_put 36 = .ok (.aload_n 0, 1) := by decide +kernel
theorem dX8_put_37 : decode cX8_put 37 = .ok (.iload 6, 2) := by decide +kernel
theorem dX8_put_39 : decode cX8_put 39 = .ok (.invokevirtual 231, 3) := by decide +kernel
theorem dX8_put_42 : decode cX8_put 42 = .ok (.ireturn, 1) := by decide +kernel
theorem dX8_put_43 : decode cX8_put 43 = .ok (.aload 5, 2) := by decide +kernel
theorem dX8_put_45 : decode cX8_put 45 = .ok (.iload_n 3, 1) := by decide +kernel
theorem dX8_put_46 : decode cX8_put 46 = .ok (.iload 4, 2) := by decide +kernel
theorem dX8_put_48 : decode cX8_put 48 = .ok (.invokevirtual 262, 3) := by decide +kernel
theorem dX8_put_51 : decode cX8_put 51 = .ok (.iconst 1, 1) := by decide +kernel
theorem dX8_put_52 : decode cX8_put 52 = .ok (.ireturn, 1) := by decide +kernel
theorem dX8_get_0 : decode cX8_get 0 = .ok (.aload_n 0, 1) := by decide +kernel
theorem dX8_get_1 : decode cX8_get 1 = .ok (.iload_n 1, 1) := by decide +kernel
theorem dX8_get_2 : decode cX8_get 2 = .ok (.invokevirtual 223, 3) := by decide +kernel
theorem dX8_get_5 : decode cX8_get 5 = .ok (.astore 4, 2) := by decide +kernel
theorem dX8_get_7 : decode cX8_get 7 = .ok (.aload 4, 2) := by decide +kernel
theorem dX8_get_9 : decode cX8_get 9 = .ok (.ifnull 10, 3) := by decide +kernel
theorem dX8_get_12 : decode cX8_get 12 = .ok (.iload_n 2, 1) := by decide +kernel
theorem dX8_get_13 : decode cX8_get 13 = .ok (.invokestatic 253, 3) := by decide +kernel
theorem dX8_get_16 : decode cX8_get 16 = .ok (.ifCond .ne 7, 3) := by decide +kernel
theorem dX8_get_19 : decode cX8_get 19 = .ok (.ldc_w 265, 3) := by decide +kernel
theorem dX8_get_22 : decode cX8_get 22 = .ok (.ireturn, 1) := by decide +kernel
theorem dX8_get_23 : decode cX8_get 23 = .ok (.aload 4, 2) := by decide +kernel
theorem dX8_get_25 : decode cX8_get 25 = .ok (.iload_n 2, 1) := by decide +kernel
theorem dX8_get_26 : decode cX8_get 26 = .ok (.iload_n 3, 1) := by decide +kernel
theorem dX8_get_27 : decode cX8_get 27 = .ok (.invokevirtual 259, 3) := by decide +kernel
theorem dX8_get_30 : decode cX8_get 30 = .ok (.istore 5, 2) := by decide +kernel
theorem dX8_get_32 : decode cX8_get 32 = .ok (.iload 5, 2) := by decide +kernel
theorem dX8_get_34 : decode cX8_get 34 = .ok (.ifCond .eq 14, 3) := by decide +kernel
theorem dX8_get_37 : decode cX8_get 37 = .ok (.aload_n 0, 1) := by decide +kernel
theorem dX8_get_38 : decode cX8_get 38 = .ok (.iload 5, 2) := by decide +kernel
theorem dX8_get_40 : decode cX8_get 40 = .ok (.invokevirtual 231, 3) := by decide +kernel
theorem dX8_get_43 : decode cX8_get 43 = .ok (.pop, 1) := by decide +kernel
theorem dX8_get_44 : decode cX8_get 44 = .ok (.ldc_w 265, 3) := by decide +kernel
theorem dX8_get_47 : decode cX8_get 47 = .ok (.ireturn, 1) := by decide +kernel
theorem dX8_get_48 : decode cX8_get 48 = .ok (.aload 4, 2) := by decide +kernel
theorem dX8_get_50 : decode cX8_get 50 = .ok (.iload_n 3, 1) := by decide +kernel
theorem dX8_get_51 : decode cX8_get 51 = .ok (.invokevirtual 235, 3) := by decide +kernel
theorem dX8_get_54 : decode cX8_get 54 = .ok (.ireturn, 1) := by decide +kernel
theorem dX8_copy_0 : decode cX8_copy 0 = .ok (.aload_n 0, 1) := by decide +kernel
theorem dX8_copy_1 : decode cX8_copy 1 = .ok (.iload_n 1, 1) := by decide +kernel
theorem dX8_copy_2 : decode cX8_copy 2 = .ok (.invokevirtual 223, 3) := by decide +kernel
theorem dX8_copy_5 : decode cX8_copy 5 = .ok (.astore 6, 2) := by decide +kernel
theorem dX8_copy_7 : decode cX8_copy 7 = .ok (.aload_n 0, 1) := by decide +kernel
theorem dX8_copy_8 : decode cX8_copy 8 = .ok (.iload_n 3, 1) := by decide +kernel
theorem dX8_copy_9 : decode cX8_copy 9 = .ok (.invokevirtual 223, 3) := by decide +kernel
theorem dX8_copy_12 : decode cX8_copy 12 = .ok (.astore 7, 2) := by decide +kernel
theorem dX8_copy_14 : decode cX8_copy 14 = .ok (.aload 6, 2) := by decide +kernel
theorem dX8_copy_16 : decode cX8_copy 16 = .ok (.ifnull 8, 3) := by decide +kernel
theorem dX8_copy_19 : decode cX8_copy 19 = .ok (.aload 7, 2) := by decide +kernel
theorem dX8_copy_21 : decode cX8_copy 21 = .ok (.ifnonnull 6, 3) := by decide +kernel
theorem dX8_copy_24 : decode cX8_copy 24 = .ok (.bipush (-2), 2) := by decide +kernel
theorem dX8_copy_26 : decode cX8_copy 26 = .ok (.ireturn, 1) := by decide +kernel
theorem dX8_copy_27 : decode cX8_copy 27 = .ok (.aload 6, 2) := by decide +kernel
theorem dX8_copy_29 : decode cX8_copy 29 = .ok (.getfield 227, 3) := by decide +kernel
theorem dX8_copy_32 : decode cX8_copy 32 = .ok (.ifCond .ne 11, 3) := by decide +kernel
theorem dX8_copy_35 : decode cX8_copy 35 = .ok (.aload 7, 2) := by decide +kernel
theorem dX8_copy_37 : decode cX8_copy 37 = .ok (.getfield 227, 3) := by decide +kernel
theorem dX8_copy_40 : decode cX8_copy 40 = .ok (.ifCond .eq 9, 3) := by decide +kernel
theorem dX8_copy_43 : decode cX8_copy 43 = .ok (.aload_n 0, 1) := by decide +kernel
theorem dX8_copy_44 : decode cX8_copy 44 = .ok (.iconst 1, 1) := by decide +kernel
theorem dX8_copy_45 : decode cX8_copy 45 = .ok (.invokevirtual 231, 3) := by decide +kernel
theorem dX8_copy_48 : decode cX8_copy 48 = .ok (.ireturn, 1) := by decide +kernel
theorem dX8_copy_49 : decode cX8_copy 49 = .ok (.aload 6, 2) := by decide +kernel
theorem dX8_copy_51 : decode cX8_copy 51 = .ok (.getfield 266, 3) := by decide +kernel
theorem dX8_copy_54 : decode cX8_copy 54 = .ok (.aload 7, 2) := by decide +kernel
theorem dX8_copy_56 : decode cX8_copy 56 = .ok (.getfield 266, 3) := by decide +kernel
theorem dX8_copy_59 : decode cX8_copy 59 = .ok (.if_icmp .eq 9, 3) := by decide +kernel
theorem dX8_copy_62 : decode cX8_copy 62 = .ok (.aload_n 0, 1) := by decide +kernel
theorem dX8_copy_63 : decode cX8_copy 63 = .ok (.iconst 4, 1) := by decide +kernel
theorem dX8_copy_64 : decode cX8_copy 64 = .ok (.invokevirtual 231, 3) := by decide +kernel
theorem dX8_copy_67 : decode cX8_copy 67 = .ok (.ireturn, 1) := by decide +kernel
theorem dX8_copy_68 : decode cX8_copy 68 = .ok (.aload 6, 2) := by decide +kernel
theorem dX8_copy_70 : decode cX8_copy 70 = .ok (.iload_n 2, 1) := by decide +kernel
theorem dX8_copy_71 : decode cX8_copy 71 = .ok (.iload 5, 2) := by decide +kernel
theorem dX8_copy_73 : decode cX8_copy 73 = .ok (.invokevirtual 269, 3) := by decide +kernel
theorem dX8_copy_76 : decode cX8_copy 76 = .ok (.ifCond .eq 15, 3) := by decide +kernel
theorem dX8_copy_79 : decode cX8_copy 79 = .ok (.aload 7, 2) := by decide +kernel
theorem dX8_copy_81 : decode cX8_copy 81 = .ok (.iload 4, 2) := by decide +kernel
theorem dX8_copy_83 : decode cX8_copy 83 = .ok (.iload 5, 2) := by decide +kernel
theorem dX8_copy_85 : decode cX8_copy 85 = .ok (.invokevirtual 269, 3) := by decide +kernel
theorem dX8_copy_88 : decode cX8_copy 88 = .ok (.ifCond .ne 9, 3) := by decide +kernel
theorem dX8_copy_91 : decode cX8_copy 91 = .ok (.aload_n 0, 1) := by decide +kernel
theorem dX8_copy_92 : decode cX8_copy 92 = .ok (.iconst 2, 1) := by decide +kernel
theorem dX8_copy_93 : decode cX8_copy 93 = .ok (.invokevirtual 231, 3) := by decide +kernel
theorem dX8_copy_96 : decode cX8_copy 96 = .ok (.ireturn, 1) := by decide +kernel
theorem dX8_copy_97 : decode cX8_copy 97 = .ok (.aload 7, 2) := by decide +kernel
theorem dX8_copy_99 : decode cX8_copy 99 = .ok (.aload 6, 2) := by decide +kernel
theorem dX8_copy_101 : decode cX8_copy 101 = .ok (.iload_n 2, 1) := by decide +kernel
theorem dX8_copy_102 : decode cX8_copy 102 = .ok (.iload 4, 2) := by decide +kernel
theorem dX8_copy_104 : decode cX8_copy 104 = .ok (.iload 5, 2) := by decide +kernel
theorem dX8_copy_106 : decode cX8_copy 106 = .ok (.invokevirtual 272, 3) := by decide +kernel
theorem dX8_copy_109 : decode cX8_copy 109 = .ok (.iconst 1, 1) := by decide +kernel
theorem dX8_copy_110 : decode cX8_copy 110 = .ok (.ireturn, 1) := by decide +kernel
theorem dX8_write_0 : decode cX8_write 0 = .ok (.aload_n 0, 1) := by decide +kernel
theorem dX8_write_1 : decode cX8_write 1 = .ok (.iload_n 2, 1) := by decide +kernel
theorem dX8_write_2 : decode cX8_write 2 = .ok (.invokevirtual 223, 3) := by decide +kernel
theorem dX8_write_5 : decode cX8_write 5 = .ok (.astore_n 3, 1) := by decide +kernel
theorem dX8_write_6 : decode cX8_write 6 = .ok (.iload_n 1, 1) := by decide +kernel
theorem dX8_write_7 : decode cX8_write 7 = .ok (.invokestatic 122, 3) := by decide +kernel
theorem dX8_write_10 : decode cX8_write 10 = .ok (.ifCond .eq 7, 3) := by decide +kernel
theorem dX8_write_13 : decode cX8_write 13 = .ok (.aload_n 3, 1) := by decide +kernel
theorem dX8_write_14 : decode cX8_write 14 = .ok (.ifnonnull 6, 3) := by decide +kernel
theorem dX8_write_17 : decode cX8_write 17 = .ok (.bipush (-2), 2) := by decide +kernel
theorem dX8_write_19 : decode cX8_write 19 = .ok (.ireturn, 1) := by decide +kernel
theorem dX8_write_20 : decode cX8_write 20 = .ok (.aload_n 3, 1) := by decide +kernel
theorem dX8_write_21 : decode cX8_write 21 = .ok (.getfield 227, 3) := by decide +kernel
theorem dX8_write_24 : decode cX8_write 24 = .ok (.ifCond .eq 9, 3) := by decide +kernel
theorem dX8_write_27 : decode cX8_write 27 = .ok (.aload_n 0, 1) := by decide +kernel
theorem dX8_write_28 : decode cX8_write 28 = .ok (.iconst 1, 1) := by decide +kernel
theorem dX8_write_29 : decode cX8_write 29 = .ok (.invokevirtual 231, 3) := by decide +kernel
theorem dX8_write_32 : decode cX8_write 32 = .ok (.ireturn, 1) := by decide +kernel
theorem dX8_write_33 : decode cX8_write 33 = .ok (.aload_n 3, 1) := by decide +kernel
theorem dX8_write_34 : decode cX8_write 34 = .ok (.getfield 234, 3) := by decide +kernel
theorem dX8_write_37 : decode cX8_write 37 = .ok (.sipush 400, 3) := by decide +kernel
theorem dX8_write_40 : decode cX8_write 40 = .ok (.iload_n 1, 1) := by decide +kernel
theorem dX8_write_41 : decode cX8_write 41 = .ok (.isub, 1) := by decide +kernel
theorem dX8_write_42 : decode cX8_write 42 = .ok (.invokestatic 212, 3) := by decide +kernel
theorem dX8_write_45 : decode cX8_write 45 = .ok (.istore 4, 2) := by decide +kernel
theorem dX8_write_47 : decode cX8_write 47 = .ok (.iconst 0, 1) := by decide +kernel
theorem dX8_write_48 : decode cX8_write 48 = .ok (.istore 5, 2) := by decide +kernel
theorem dX8_write_50 : decode cX8_write 50 = .ok (.iload 5, 2) := by decide +kernel
theorem dX8_write_52 : decode cX8_write 52 = .ok (.iload 4, 2) := by decide +kernel
theorem dX8_write_54 : decode cX8_write 54 = .ok (.if_icmp .ge 26, 3) := by decide +kernel
theorem dX8_write_57 : decode cX8_write 57 = .ok (.aload_n 3, 1) := by decide +kernel
theorem dX8_write_58 : decode cX8_write 58 = .ok (.iload 5, 2) := by decide +kernel
theorem dX8_write_60 : decode cX8_write 60 = .ok (.aload_n 0, 1) := by decide +kernel
theorem dX8_write_61 : decode cX8_write 61 = .ok (.getfield 26, 3) := by decide +kernel
theorem dX8_write_64 : decode cX8_write 64 = .ok (.iload_n 1, 1) := by decide +kernel
theorem dX8_write_65 : decode cX8_write 65 = .ok (.iload 5, 2) := by decide +kernel
theorem dX8_write_67 : decode cX8_write 67 = .ok (.iadd, 1) := by decide +kernel
theorem dX8_write_68 : decode cX8_write 68 = .ok (.invokevirtual 144, 3) := by decide +kernel
theorem dX8_write_71 : decode cX8_write 71 = .ok (.invokevirtual 262, 3) := by decide +kernel
theorem dX8_write_74 : decode cX8_write 74 = .ok (.iinc 5 1, 3) := by decide +kernel
theorem dX8_write_77 : decode cX8_write 77 = .ok (.goto (-27), 3) := by decide +kernel
theorem dX8_write_80 : decode cX8_write 80 = .ok (.iload 4, 2) := by decide +kernel
theorem dX8_write_82 : decode cX8_write 82 = .ok (.ireturn, 1) := by decide +kernel
theorem dX8_count_0 : decode cX8_count 0 = .ok (.iload_n 1, 1) := by decide +kernel
theorem dX8_count_1 : decode cX8_count 1 = .ok (.tableswitch 121 0 8 #[51, 59, 67, 75, 83, 91, 99, 108, 116], 51) := by decide +kernel
theorem dX8_count_52 : decode cX8_count 52 = .ok (.aload_n 0, 1) := by decide +kernel
theorem dX8_count_53 : decode cX8_count 53 = .ok (.getfield 14, 3) := by decide +kernel
theorem dX8_count_56 : decode cX8_count 56 = .ok (.getfield 113, 3) := by decide +kernel
theorem dX8_count_59 : decode cX8_count 59 = .ok (.ireturn, 1) := by decide +kernel
theorem dX8_count_60 : decode cX8_count 60 = .ok (.aload_n 0, 1) := by decide +kernel
theorem dX8_count_61 : decode cX8_count 61 = .ok (.getfield 14, 3) := by decide +kernel
theorem dX8_count_64 : decode cX8_count 64 = .ok (.getfield 89, 3) := by decide +kernel
theorem dX8_count_67 : decode cX8_count 67 = .ok (.ireturn, 1) := by decide +kernel
theorem dX8_count_68 : decode cX8_count 68 = .ok (.aload_n 0, 1) := by decide +kernel
theorem dX8_count_69 : decode cX8_count 69 = .ok (.getfield 18, 3) := by decide +kernel
theorem dX8_count_72 : decode cX8_count 72 = .ok (.getfield 89, 3) := by decide +kernel
theorem dX8_count_75 : decode cX8_count 75 = .ok (.ireturn, 1) := by decide +kernel
theorem dX8_count_76 : decode cX8_count 76 = .ok (.aload_n 0, 1) := by decide +kernel
theorem dX8_count_77 : decode cX8_count 77 = .ok (.getfield 14, 3) := by decide +kernel
theorem dX8_count_80 : decode cX8_count 80 = .ok (.invokevirtual 276, 3) := by decide +kernel
theorem dX8_count_83 : decode cX8_count 83 = .ok (.ireturn, 1) := by decide +kernel
theorem dX8_count_84 : decode cX8_count 84 = .ok (.aload_n 0, 1) := by decide +kernel
theorem dX8_count_85 : decode cX8_count 85 = .ok (.getfield 26, 3) := by decide +kernel
theorem dX8_count_88 : decode cX8_count 88 = .ok (.invokevirtual 279, 3) := by decide +kernel
theorem dX8_count_91 : decode cX8_count 91 = .ok (.ireturn, 1) := by decide +kernel
theorem dX8_count_92 : decode cX8_count 92 = .ok (.aload_n 0, 1) := by decide +kernel
theorem dX8_count_93 : decode cX8_count 93 = .ok (.getfield 56, 3) := by decide +kernel
theorem dX8_count_96 : decode cX8_count 96 = .ok (.getfield 220, 3) := by decide +kernel
theorem dX8_count_99 : decode cX8_count 99 = .ok (.ireturn, 1) := by decide +kernel
theorem dX8_count_100 : decode cX8_count 100 = .ok (.aload_n 0, 1) := by decide +kernel
theorem dX8_count_101 : decode cX8_count 101 = .ok (.getfield 40, 3) := by decide +kernel
theorem dX8_count_104 : decode cX8_count 104 = .ok (.iconst 0, 1) := by decide +kernel
theorem dX8_count_105 : decode cX8_count 105 = .ok (.invokevirtual 138, 3) := by decide +kernel
theorem dX8_count_108 : decode cX8_count 108 = .ok (.ireturn, 1) := by decide +kernel
theorem dX8_count_109 : decode cX8_count 109 = .ok (.aload_n 0, 1) := by decide +kernel
theorem dX8_count_110 : decode cX8_count 110 = .ok (.getfield 26, 3) := by decide +kernel
theorem dX8_count_113 : decode cX8_count 113 = .ok (.invokevirtual 282, 3) := by decide +kernel
theorem dX8_count_116 : decode cX8_count 116 = .ok (.ireturn, 1) := by decide +kernel
theorem dX8_count_117 : decode cX8_count 117 = .ok (.aload_n 0, 1) := by decide +kernel
theorem dX8_count_118 : decode cX8_count 118 = .ok (.getfield 285, 3) := by decide +kernel
theorem dX8_count_121 : decode cX8_count 121 = .ok (.ireturn, 1) := by decide +kernel
theorem dX8_count_122 : decode cX8_count 122 = .ok (.bipush (-2), 2) := by decide +kernel
theorem dX8_count_124 : decode cX8_count 124 = .ok (.ireturn, 1) := by decide +kernel
theorem dX8_digest_0 : decode cX8_digest 0 = .ok (.ldc2_w 288, 3) := by decide +kernel
theorem dX8_digest_3 : decode cX8_digest 3 = .ok (.lstore_n 1, 1) := by decide +kernel
theorem dX8_digest_4 : decode cX8_digest 4 = .ok (.iconst 0, 1) := by decide +kernel
theorem dX8_digest_5 : decode cX8_digest 5 = .ok (.istore_n 3, 1) := by decide +kernel
theorem dX8_digest_6 : decode cX8_digest 6 = .ok (.iload_n 3, 1) := by decide +kernel
theorem dX8_digest_7 : decode cX8_digest 7 = .ok (.bipush 7, 2) := by decide +kernel
theorem dX8_digest_9 : decode cX8_digest 9 = .ok (.if_icmp .gt 22, 3) := by decide +kernel
theorem dX8_digest_12 : decode cX8_digest 12 = .ok (.ldc2_w 290, 3) := by decide +kernel
theorem dX8_digest_15 : decode cX8_digest 15 = .ok (.lload_n 1, 1) := by decide +kernel
theorem dX8_digest_16 : decode cX8_digest 16 = .ok (.lmul, 1) := by decide +kernel
theorem dX8_digest_17 : decode cX8_digest 17 = .ok (.aload_n 0, 1) := by decide +kernel
theorem dX8_digest_18 : decode cX8_digest 18 = .ok (.iload_n 3, 1) := by decide +kernel
theorem dX8_digest_19 : decode cX8_digest 19 = .ok (.invokevirtual 292, 3) := by decide +kernel
theorem dX8_digest_22 : decode cX8_digest 22 = .ok (.i2l, 1) := by decide +kernel
theorem dX8_digest_23 : decode cX8_digest 23 = .ok (.ladd, 1) := by decide +kernel
theorem dX8_digest_24 : decode cX8_digest 24 = .ok (.lstore_n 1, 1) := by decide +kernel
theorem dX8_digest_25 : decode cX8_digest 25 = .ok (.iinc 3 1, 3) := by decide +kernel
theorem dX8_digest_28 : decode cX8_digest 28 = .ok (.goto (-22), 3) := by decide +kernel
theorem dX8_digest_31 : decode cX8_digest 31 = .ok (.ldc2_w 290, 3) := by decide +kernel
theorem dX8_digest_34 : decode cX8_digest 34 = .ok (.lload_n 1, 1) := by decide +kernel
theorem dX8_digest_35 : decode cX8_digest 35 = .ok (.lmul, 1) := by decide +kernel
theorem dX8_digest_36 : decode cX8_digest 36 = .ok (.aload_n 0, 1) := by decide +kernel
theorem dX8_digest_37 : decode cX8_digest 37 = .ok (.iconst 0, 1) := by decide +kernel
theorem dX8_digest_38 : decode cX8_digest 38 = .ok (.invokevirtual 295, 3) := by decide +kernel
theorem dX8_digest_41 : decode cX8_digest 41 = .ok (.i2l, 1) := by decide +kernel
theorem dX8_digest_42 : decode cX8_digest 42 = .ok (.ladd, 1) := by decide +kernel
theorem dX8_digest_43 : decode cX8_digest 43 = .ok (.lstore_n 1, 1) := by decide +kernel
theorem dX8_digest_44 : decode cX8_digest 44 = .ok (.ldc2_w 290, 3) := by decide +kernel
theorem dX8_digest_47 : decode cX8_digest 47 = .ok (.lload_n 1, 1) := by decide +kernel
theorem dX8_digest_48 : decode cX8_digest 48 = .ok (.lmul, 1) := by decide +kernel
theorem dX8_digest_49 : decode cX8_digest 49 = .ok (.aload_n 0, 1) := by decide +kernel
theorem dX8_digest_50 : decode cX8_digest 50 = .ok (.iconst 1, 1) := by decide +kernel
theorem dX8_digest_51 : decode cX8_digest 51 = .ok (.invokevirtual 295, 3) := by decide +kernel
theorem dX8_digest_54 : decode cX8_digest 54 = .ok (.i2l, 1) := by decide +kernel
theorem dX8_digest_55 : decode cX8_digest 55 = .ok (.ladd, 1) := by decide +kernel
theorem dX8_digest_56 : decode cX8_digest 56 = .ok (.lstore_n 1, 1) := by decide +kernel
theorem dX8_digest_57 : decode cX8_digest 57 = .ok (.iconst 0, 1) := by decide +kernel
theorem dX8_digest_58 : decode cX8_digest 58 = .ok (.istore_n 3, 1) := by decide +kernel
theorem dX8_digest_59 : decode cX8_digest 59 = .ok (.iload_n 3, 1) := by decide +kernel
theorem dX8_digest_60 : decode cX8_digest 60 = .ok (.aload_n 0, 1) := by decide +kernel
theorem dX8_digest_61 : decode cX8_digest 61 = .ok (.getfield 14, 3) := by decide +kernel
theorem dX8_digest_64 : decode cX8_digest 64 = .ok (.getfield 113, 3) := by decide +kernel
theorem dX8_digest_67 : decode cX8_digest 67 = .ok (.if_icmp .ge 65, 3) := by decide +kernel
theorem dX8_digest_70 : decode cX8_digest 70 = .ok (.ldc2_w 290, 3) := by decide +kernel
theorem dX8_digest_73 : decode cX8_digest 73 = .ok (.lload_n 1, 1) := by decide +kernel
theorem dX8_digest_74 : decode cX8_digest 74 = .ok (.lmul, 1) := by decide +kernel
theorem dX8_digest_75 : decode cX8_digest 75 = .ok (.aload_n 0, 1) := by decide +kernel
theorem dX8_digest_76 : decode cX8_digest 76 = .ok (.iload_n 3, 1) := by decide +kernel
theorem dX8_digest_77 : decode cX8_digest 77 = .ok (.iconst 0, 1) := by decide +kernel
theorem dX8_digest_78 : decode cX8_digest 78 = .ok (.invokevirtual 298, 3) := by decide +kernel
theorem dX8_digest_81 : decode cX8_digest 81 = .ok (.i2l, 1) := by decide +kernel
theorem dX8_digest_82 : decode cX8_digest 82 = .ok (.ladd, 1) := by decide +kernel
theorem dX8_digest_83 : decode cX8_digest 83 = .ok (.lstore_n 1, 1) := by decide +kernel
theorem dX8_digest_84 : decode cX8_digest 84 = .ok (.ldc2_w 290, 3) := by decide +kernel
theorem dX8_digest_87 : decode cX8_digest 87 = .ok (.lload_n 1, 1) := by decide +kernel
theorem dX8_digest_88 : decode cX8_digest 88 = .ok (.lmul, 1) := by decide +kernel
theorem dX8_digest_89 : decode cX8_digest 89 = .ok (.aload_n 0, 1) := by decide +kernel
theorem dX8_digest_90 : decode cX8_digest 90 = .ok (.iload_n 3, 1) := by decide +kernel
theorem dX8_digest_91 : decode cX8_digest 91 = .ok (.iconst 1, 1) := by decide +kernel
theorem dX8_digest_92 : decode cX8_digest 92 = .ok (.invokevirtual 298, 3) := by decide +kernel
theorem dX8_digest_95 : decode cX8_digest 95 = .ok (.i2l, 1) := by decide +kernel
theorem dX8_digest_96 : decode cX8_digest 96 = .ok (.ladd, 1) := by decide +kernel
theorem dX8_digest_97 : decode cX8_digest 97 = .ok (.lstore_n 1, 1) := by decide +kernel
theorem dX8_digest_98 : decode cX8_digest 98 = .ok (.ldc2_w 290, 3) := by decide +kernel
theorem dX8_digest_101 : decode cX8_digest 101 = .ok (.lload_n 1, 1) := by decide +kernel
theorem dX8_digest_102 : decode cX8_digest 102 = .ok (.lmul, 1) := by decide +kernel
theorem dX8_digest_103 : decode cX8_digest 103 = .ok (.aload_n 0, 1) := by decide +kernel
theorem dX8_digest_104 : decode cX8_digest 104 = .ok (.iload_n 3, 1) := by decide +kernel
theorem dX8_digest_105 : decode cX8_digest 105 = .ok (.iconst (-1), 1) := by decide +kernel
theorem dX8_digest_106 : decode cX8_digest 106 = .ok (.invokevirtual 301, 3) := by decide +kernel
theorem dX8_digest_109 : decode cX8_digest 109 = .ok (.i2l, 1) := by decide +kernel
theorem dX8_digest_110 : decode cX8_digest 110 = .ok (.ladd, 1) := by decide +kernel
theorem dX8_digest_111 : decode cX8_digest 111 = .ok (.lstore_n 1, 1) := by decide +kernel
theorem dX8_digest_112 : decode cX8_digest 112 = .ok (.ldc2_w 290, 3) := by decide +kernel
theorem dX8_digest_115 : decode cX8_digest 115 = .ok (.lload_n 1, 1) := by decide +kernel
theorem dX8_digest_116 : decode cX8_digest 116 = .ok (.lmul, 1) := by decide +kernel
theorem dX8_digest_117 : decode cX8_digest 117 = .ok (.aload_n 0, 1) := by decide +kernel
theorem dX8_digest_118 : decode cX8_digest 118 = .ok (.iload_n 3, 1) := by decide +kernel
theorem dX8_digest_119 : decode cX8_digest 119 = .ok (.iconst 0, 1) := by decide +kernel
theorem dX8_digest_120 : decode cX8_digest 120 = .ok (.invokevirtual 301, 3) := by decide +kernel
theorem dX8_digest_123 : decode cX8_digest 123 = .ok (.i2l, 1) := by decide +kernel
theorem dX8_digest_124 : decode cX8_digest 124 = .ok (.ladd, 1) := by decide +kernel
theorem dX8_digest_125 : decode cX8_digest 125 = .ok (.lstore_n 1, 1) := by decide +kernel
theorem dX8_digest_126 : decode cX8_digest 126 = .ok (.iinc 3 1, 3) := by decide +kernel
theorem dX8_digest_129 : decode cX8_digest 129 = .ok (.goto (-70), 3) := by decide +kernel
theorem dX8_digest_132 : decode cX8_digest 132 = .ok (.ldc2_w 290, 3) := by decide +kernel
theorem dX8_digest_135 : decode cX8_digest 135 = .ok (.lload_n 1, 1) := by decide +kernel
theorem dX8_digest_136 : decode cX8_digest 136 = .ok (.lmul, 1) := by decide +kernel
theorem dX8_digest_137 : decode cX8_digest 137 = .ok (.aload_n 0, 1) := by decide +kernel
theorem dX8_digest_138 : decode cX8_digest 138 = .ok (.iconst 0, 1) := by decide +kernel
theorem dX8_digest_139 : decode cX8_digest 139 = .ok (.invokevirtual 304, 3) := by decide +kernel
theorem dX8_digest_142 : decode cX8_digest 142 = .ok (.i2l, 1) := by decide +kernel
theorem dX8_digest_143 : decode cX8_digest 143 = .ok (.ladd, 1) := by decide +kernel
theorem dX8_digest_144 : decode cX8_digest 144 = .ok (.lstore_n 1, 1) := by decide +kernel
theorem dX8_digest_145 : decode cX8_digest 145 = .ok (.ldc2_w 290, 3) := by decide +kernel
theorem dX8_digest_148 : decode cX8_digest 148 = .ok (.lload_n 1, 1) := by decide +kernel
theorem dX8_digest_149 : decode cX8_digest 149 = .ok (.lmul, 1) := by decide +kernel
theorem dX8_digest_150 : decode cX8_digest 150 = .ok (.aload_n 0, 1) := by decide +kernel
theorem dX8_digest_151 : decode cX8_digest 151 = .ok (.iconst 1, 1) := by decide +kernel
theorem dX8_digest_152 : decode cX8_digest 152 = .ok (.invokevirtual 304, 3) := by decide +kernel
theorem dX8_digest_155 : decode cX8_digest 155 = .ok (.i2l, 1) := by decide +kernel
theorem dX8_digest_156 : decode cX8_digest 156 = .ok (.ladd, 1) := by decide +kernel
theorem dX8_digest_157 : decode cX8_digest 157 = .ok (.lstore_n 1, 1) := by decide +kernel
theorem dX8_digest_158 : decode cX8_digest 158 = .ok (.iconst 0, 1) := by decide +kernel
theorem dX8_digest_159 : decode cX8_digest 159 = .ok (.istore_n 3, 1) := by decide +kernel
theorem dX8_digest_160 : decode cX8_digest 160 = .ok (.iload_n 3, 1) := by decide +kernel
theorem dX8_digest_161 : decode cX8_digest 161 = .ok (.getstatic 307, 3) := by decide +kernel
theorem dX8_digest_164 : decode cX8_digest 164 = .ok (.arraylength, 1) := by decide +kernel
theorem dX8_digest_165 : decode cX8_digest 165 = .ok (.if_icmp .ge 287, 3) := by decide +kernel
theorem dX8_digest_168 : decode cX8_digest 168 = .ok (.getstatic 307, 3) := by decide +kernel
theorem dX8_digest_171 : decode cX8_digest 171 = .ok (.iload_n 3, 1) := by decide +kernel
theorem dX8_digest_172 : decode cX8_digest 172 = .ok (.iaload, 1) := by decide +kernel
theorem dX8_digest_173 : decode cX8_digest 173 = .ok (.istore 4, 2) := by decide +kernel
theorem dX8_digest_175 : decode cX8_digest 175 = .ok (.ldc2_w 290, 3) := by decide +kernel
theorem dX8_digest_178 : decode cX8_digest 178 = .ok (.lload_n 1, 1) := by decide +kernel
theorem dX8_digest_179 : decode cX8_digest 179 = .ok (.lmul, 1) := by decide +kernel
theorem dX8_digest_180 : decode cX8_digest 180 = .ok (.aload_n 0, 1) := by decide +kernel
theorem dX8_digest_181 : decode cX8_digest 181 = .ok (.iload 4, 2) := by decide +kernel
theorem dX8_digest_183 : decode cX8_digest 183 = .ok (.invokevirtual 311, 3) := by decide +kernel
theorem dX8_digest_186 : decode cX8_digest 186 = .ok (.i2l, 1) := by decide +kernel
theorem dX8_digest_187 : decode cX8_digest 187 = .ok (.ladd, 1) := by decide +kernel
theorem dX8_digest_188 : decode cX8_digest 188 = .ok (.lstore_n 1, 1) := by decide +kernel
theorem dX8_digest_189 : decode cX8_digest 189 = .ok (.ldc2_w 290, 3) := by decide +kernel
theorem dX8_digest_192 : decode cX8_digest 192 = .ok (.lload_n 1, 1) := by decide +kernel
theorem dX8_digest_193 : decode cX8_digest 193 = .ok (.lmul, 1) := by decide +kernel
theorem dX8_digest_194 : decode cX8_digest 194 = .ok (.aload_n 0, 1) := by decide +kernel
theorem dX8_digest_195 : decode cX8_digest 195 = .ok (.iload 4, 2) := by decide +kernel
theorem dX8_digest_197 : decode cX8_digest 197 = .ok (.invokevirtual 314, 3) := by decide +kernel
theorem dX8_digest_200 : decode cX8_digest 200 = .ok (.i2l, 1) := by decide +kernel
theorem dX8_digest_201 : decode cX8_digest 201 = .ok (.ladd, 1) := by decide +kernel
theorem dX8_digest_202 : decode cX8_digest 202 = .ok (.lstore_n 1, 1) := by decide +kernel
theorem dX8_digest_203 : decode cX8_digest 203 = .ok (.ldc2_w 290, 3) := by decide +kernel
theorem dX8_digest_206 : decode cX8_digest 206 = .ok (.lload_n 1, 1) := by decide +kernel
theorem dX8_digest_207 : decode cX8_digest 207 = .ok (.lmul, 1) := by decide +kernel
theorem dX8_digest_208 : decode cX8_digest 208 = .ok (.aload_n 0, 1) := by decide +kernel
theorem dX8_digest_209 : decode cX8_digest 209 = .ok (.iload 4, 2) := by decide +kernel
theorem dX8_digest_211 : decode cX8_digest 211 = .ok (.invokevirtual 317, 3) := by decide +kernel
theorem dX8_digest_214 : decode cX8_digest 214 = .ok (.i2l, 1) := by decide +kernel
theorem dX8_digest_215 : decode cX8_digest 215 = .ok (.ladd, 1) := by decide +kernel
theorem dX8_digest_216 : decode cX8_digest 216 = .ok (.lstore_n 1, 1) := by decide +kernel
theorem dX8_digest_217 : decode cX8_digest 217 = .ok (.ldc2_w 290, 3) := by decide +kernel
theorem dX8_digest_220 : decode cX8_digest 220 = .ok (.lload_n 1, 1) := by decide +kernel
theorem dX8_digest_221 : decode cX8_digest 221 = .ok (.lmul, 1) := by decide +kernel
theorem dX8_digest_222 : decode cX8_digest 222 = .ok (.aload_n 0, 1) := by decide +kernel
theorem dX8_digest_223 : decode cX8_digest 223 = .ok (.iload 4, 2) := by decide +kernel
theorem dX8_digest_225 : decode cX8_digest 225 = .ok (.iconst 2, 1) := by decide +kernel
theorem dX8_digest_226 : decode cX8_digest 226 = .ok (.invokevirtual 320, 3) := by decide +kernel
theorem dX8_digest_229 : decode cX8_digest 229 = .ok (.i2l, 1) := by decide +kernel
theorem dX8_digest_230 : decode cX8_digest 230 = .ok (.ladd, 1) := by decide +kernel
theorem dX8_digest_231 : decode cX8_digest 231 = .ok (.lstore_n 1, 1) := by decide +kernel
theorem dX8_digest_232 : decode cX8_digest 232 = .ok (.ldc2_w 290, 3) := by decide +kernel
theorem dX8_digest_235 : decode cX8_digest 235 = .ok (.lload_n 1, 1) := by decide +kernel
theorem dX8_digest_236 : decode cX8_digest 236 = .ok (.lmul, 1) := by decide +kernel
theorem dX8_digest_237 : decode cX8_digest 237 = .ok (.aload_n 0, 1) := by decide +kernel
theorem dX8_digest_238 : decode cX8_digest 238 = .ok (.iload 4, 2) := by decide +kernel
theorem dX8_digest_240 : decode cX8_digest 240 = .ok (.invokevirtual 323, 3) := by decide +kernel
theorem dX8_digest_243 : decode cX8_digest 243 = .ok (.i2l, 1) := by decide +kernel
theorem dX8_digest_244 : decode cX8_digest 244 = .ok (.ladd, 1) := by decide +kernel
theorem dX8_digest_245 : decode cX8_digest 245 = .ok (.lstore_n 1, 1) := by decide +kernel
theorem dX8_digest_246 : decode cX8_digest 246 = .ok (.ldc2_w 290, 3) := by decide +kernel
theorem dX8_digest_249 : decode cX8_digest 249 = .ok (.lload_n 1, 1) := by decide +kernel
theorem dX8_digest_250 : decode cX8_digest 250 = .ok (.lmul, 1) := by decide +kernel
theorem dX8_digest_251 : decode cX8_digest 251 = .ok (.aload_n 0, 1) := by decide +kernel
theorem dX8_digest_252 : decode cX8_digest 252 = .ok (.iload 4, 2) := by decide +kernel
theorem dX8_digest_254 : decode cX8_digest 254 = .ok (.bipush 20, 2) := by decide +kernel
theorem dX8_digest_256 : decode cX8_digest 256 = .ok (.iconst 0, 1) := by decide +kernel
theorem dX8_digest_257 : decode cX8_digest 257 = .ok (.invokevirtual 326, 3) := by decide +kernel
theorem dX8_digest_260 : decode cX8_digest 260 = .ok (.i2l, 1) := by decide +kernel
theorem dX8_digest_261 : decode cX8_digest 261 = .ok (.ladd, 1) := by decide +kernel
theorem dX8_digest_262 : decode cX8_digest 262 = .ok (.lstore_n 1, 1) := by decide +kernel
theorem dX8_digest_263 : decode cX8_digest 263 = .ok (.ldc2_w 290, 3) := by decide +kernel
theorem dX8_digest_266 : decode cX8_digest 266 = .ok (.lload_n 1, 1) := by decide +kernel
theorem dX8_digest_267 : decode cX8_digest 267 = .ok (.lmul, 1) := by decide +kernel
theorem dX8_digest_268 : decode cX8_digest 268 = .ok (.aload_n 0, 1) := by decide +kernel
theorem dX8_digest_269 : decode cX8_digest 269 = .ok (.iload 4, 2) := by decide +kernel
theorem dX8_digest_271 : decode cX8_digest 271 = .ok (.bipush 20, 2) := by decide +kernel
theorem dX8_digest_273 : decode cX8_digest 273 = .ok (.iconst 1, 1) := by decide +kernel
theorem dX8_digest_274 : decode cX8_digest 274 = .ok (.invokevirtual 326, 3) := by decide +kernel
theorem dX8_digest_277 : decode cX8_digest 277 = .ok (.i2l, 1) := by decide +kernel
theorem dX8_digest_278 : decode cX8_digest 278 = .ok (.ladd, 1) := by decide +kernel
theorem dX8_digest_279 : decode cX8_digest 279 = .ok (.lstore_n 1, 1) := by decide +kernel
theorem dX8_digest_280 : decode cX8_digest 280 = .ok (.ldc2_w 290, 3) := by decide +kernel
theorem dX8_digest_283 : decode cX8_digest 283 = .ok (.lload_n 1, 1) := by decide +kernel
theorem dX8_digest_284 : decode cX8_digest 284 = .ok (.lmul, 1) := by decide +kernel
theorem dX8_digest_285 : decode cX8_digest 285 = .ok (.aload_n 0, 1) := by decide +kernel
theorem dX8_digest_286 : decode cX8_digest 286 = .ok (.iload 4, 2) := by decide +kernel
theorem dX8_digest_288 : decode cX8_digest 288 = .ok (.invokevirtual 329, 3) := by decide +kernel
theorem dX8_digest_291 : decode cX8_digest 291 = .ok (.i2l, 1) := by decide +kernel
theorem dX8_digest_292 : decode cX8_digest 292 = .ok (.ladd, 1) := by decide +kernel
theorem dX8_digest_293 : decode cX8_digest 293 = .ok (.lstore_n 1, 1) := by decide +kernel
theorem dX8_digest_294 : decode cX8_digest 294 = .ok (.ldc2_w 290, 3) := by decide +kernel
theorem dX8_digest_297 : decode cX8_digest 297 = .ok (.lload_n 1, 1) := by decide +kernel
theorem dX8_digest_298 : decode cX8_digest 298 = .ok (.lmul, 1) := by decide +kernel
theorem dX8_digest_299 : decode cX8_digest 299 = .ok (.aload_n 0, 1) := by decide +kernel
theorem dX8_digest_300 : decode cX8_digest 300 = .ok (.iload 4, 2) := by decide +kernel
theorem dX8_digest_302 : decode cX8_digest 302 = .ok (.invokevirtual 332, 3) := by decide +kernel
theorem dX8_digest_305 : decode cX8_digest 305 = .ok (.i2l, 1) := by decide +kernel
theorem dX8_digest_306 : decode cX8_digest 306 = .ok (.ladd, 1) := by decide +kernel
theorem dX8_digest_307 : decode cX8_digest 307 = .ok (.lstore_n 1, 1) := by decide +kernel
theorem dX8_digest_308 : decode cX8_digest 308 = .ok (.ldc2_w 290, 3) := by decide +kernel
theorem dX8_digest_311 : decode cX8_digest 311 = .ok (.lload_n 1, 1) := by decide +kernel
theorem dX8_digest_312 : decode cX8_digest 312 = .ok (.lmul, 1) := by decide +kernel
theorem dX8_digest_313 : decode cX8_digest 313 = .ok (.aload_n 0, 1) := by decide +kernel
theorem dX8_digest_314 : decode cX8_digest 314 = .ok (.iload 4, 2) := by decide +kernel
theorem dX8_digest_316 : decode cX8_digest 316 = .ok (.invokevirtual 335, 3) := by decide +kernel
theorem dX8_digest_319 : decode cX8_digest 319 = .ok (.i2l, 1) := by decide +kernel
theorem dX8_digest_320 : decode cX8_digest 320 = .ok (.ladd, 1) := by decide +kernel
theorem dX8_digest_321 : decode cX8_digest 321 = .ok (.lstore_n 1, 1) := by decide +kernel
theorem dX8_digest_322 : decode cX8_digest 322 = .ok (.ldc2_w 290, 3) := by decide +kernel
theorem dX8_digest_325 : decode cX8_digest 325 = .ok (.lload_n 1, 1) := by decide +kernel
theorem dX8_digest_326 : decode cX8_digest 326 = .ok (.lmul, 1) := by decide +kernel
theorem dX8_digest_327 : decode cX8_digest 327 = .ok (.aload_n 0, 1) := by decide +kernel
theorem dX8_digest_328 : decode cX8_digest 328 = .ok (.iload 4, 2) := by decide +kernel
theorem dX8_digest_330 : decode cX8_digest 330 = .ok (.invokevirtual 338, 3) := by decide +kernel
theorem dX8_digest_333 : decode cX8_digest 333 = .ok (.i2l, 1) := by decide +kernel
theorem dX8_digest_334 : decode cX8_digest 334 = .ok (.ladd, 1) := by decide +kernel
theorem dX8_digest_335 : decode cX8_digest 335 = .ok (.lstore_n 1, 1) := by decide +kernel
theorem dX8_digest_336 : decode cX8_digest 336 = .ok (.ldc2_w 290, 3) := by decide +kernel
theorem dX8_digest_339 : decode cX8_digest 339 = .ok (.lload_n 1, 1) := by decide +kernel
theorem dX8_digest_340 : decode cX8_digest 340 = .ok (.lmul, 1) := by decide +kernel
theorem dX8_digest_341 : decode cX8_digest 341 = .ok (.aload_n 0, 1) := by decide +kernel
theorem dX8_digest_342 : decode cX8_digest 342 = .ok (.iload 4, 2) := by decide +kernel
theorem dX8_digest_344 : decode cX8_digest 344 = .ok (.iconst 0, 1) := by decide +kernel
theorem dX8_digest_345 : decode cX8_digest 345 = .ok (.invokevirtual 341, 3) := by decide +kernel
theorem dX8_digest_348 : decode cX8_digest 348 = .ok (.ladd, 1) := by decide +kernel
theorem dX8_digest_349 : decode cX8_digest 349 = .ok (.lstore_n 1, 1) := by decide +kernel
theorem dX8_digest_350 : decode cX8_digest 350 = .ok (.ldc2_w 290, 3) := by decide +kernel
theorem dX8_digest_353 : decode cX8_digest 353 = .ok (.lload_n 1, 1) := by decide +kernel
theorem dX8_digest_354 : decode cX8_digest 354 = .ok (.lmul, 1) := by decide +kernel
theorem dX8_digest_355 : decode cX8_digest 355 = .ok (.aload_n 0, 1) := by decide +kernel
theorem dX8_digest_356 : decode cX8_digest 356 = .ok (.iload 4, 2) := by decide +kernel
theorem dX8_digest_358 : decode cX8_digest 358 = .ok (.iconst 1, 1) := by decide +kernel
theorem dX8_digest_359 : decode cX8_digest 359 = .ok (.invokevirtual 341, 3) := by decide +kernel
theorem dX8_digest_362 : decode cX8_digest 362 = .ok (.ladd, 1) := by decide +kernel
theorem dX8_digest_363 : decode cX8_digest 363 = .ok (.lstore_n 1, 1) := by decide +kernel
theorem dX8_digest_364 : decode cX8_digest 364 = .ok (.ldc2_w 290, 3) := by decide +kernel
theorem dX8_digest_367 : decode cX8_digest 367 = .ok (.lload_n 1, 1) := by decide +kernel
theorem dX8_digest_368 : decode cX8_digest 368 = .ok (.lmul, 1) := by decide +kernel
theorem dX8_digest_369 : decode cX8_digest 369 = .ok (.aload_n 0, 1) := by decide +kernel
theorem dX8_digest_370 : decode cX8_digest 370 = .ok (.iload 4, 2) := by decide +kernel
theorem dX8_digest_372 : decode cX8_digest 372 = .ok (.bipush 30, 2) := by decide +kernel
theorem dX8_digest_374 : decode cX8_digest 374 = .ok (.invokevirtual 199, 3) := by decide +kernel
theorem dX8_digest_377 : decode cX8_digest 377 = .ok (.i2l, 1) := by decide +kernel
theorem dX8_digest_378 : decode cX8_digest 378 = .ok (.ladd, 1) := by decide +kernel
theorem dX8_digest_379 : decode cX8_digest 379 = .ok (.lstore_n 1, 1) := by decide +kernel
theorem dX8_digest_380 : decode cX8_digest 380 = .ok (.ldc2_w 290, 3) := by decide +kernel
theorem dX8_digest_383 : decode cX8_digest 383 = .ok (.lload_n 1, 1) := by decide +kernel
theorem dX8_digest_384 : decode cX8_digest 384 = .ok (.lmul, 1) := by decide +kernel
theorem dX8_digest_385 : decode cX8_digest 385 = .ok (.aload_n 0, 1) := by decide +kernel
theorem dX8_digest_386 : decode cX8_digest 386 = .ok (.iload 4, 2) := by decide +kernel
theorem dX8_digest_388 : decode cX8_digest 388 = .ok (.bipush 30, 2) := by decide +kernel
theorem dX8_digest_390 : decode cX8_digest 390 = .ok (.invokevirtual 345, 3) := by decide +kernel
theorem dX8_digest_393 : decode cX8_digest 393 = .ok (.i2l, 1) := by decide +kernel
theorem dX8_digest_394 : decode cX8_digest 394 = .ok (.ladd, 1) := by decide +kernel
theorem dX8_digest_395 : decode cX8_digest 395 = .ok (.lstore_n 1, 1) := by decide +kernel
theorem dX8_digest_396 : decode cX8_digest 396 = .ok (.ldc2_w 290, 3) := by decide +kernel
theorem dX8_digest_399 : decode cX8_digest 399 = .ok (.lload_n 1, 1) := by decide +kernel
theorem dX8_digest_400 : decode cX8_digest 400 = .ok (.lmul, 1) := by decide +kernel
theorem dX8_digest_401 : decode cX8_digest 401 = .ok (.aload_n 0, 1) := by decide +kernel
theorem dX8_digest_402 : decode cX8_digest 402 = .ok (.iload 4, 2) := by decide +kernel
theorem dX8_digest_404 : decode cX8_digest 404 = .ok (.bipush 30, 2) := by decide +kernel
theorem dX8_digest_406 : decode cX8_digest 406 = .ok (.iconst 0, 1) := by decide +kernel
theorem dX8_digest_407 : decode cX8_digest 407 = .ok (.invokevirtual 348, 3) := by decide +kernel
theorem dX8_digest_410 : decode cX8_digest 410 = .ok (.i2l, 1) := by decide +kernel
theorem dX8_digest_411 : decode cX8_digest 411 = .ok (.ladd, 1) := by decide +kernel
theorem dX8_digest_412 : decode cX8_digest 412 = .ok (.lstore_n 1, 1) := by decide +kernel
theorem dX8_digest_413 : decode cX8_digest 413 = .ok (.ldc2_w 290, 3) := by decide +kernel
theorem dX8_digest_416 : decode cX8_digest 416 = .ok (.lload_n 1, 1) := by decide +kernel
theorem dX8_digest_417 : decode cX8_digest 417 = .ok (.lmul, 1) := by decide +kernel
theorem dX8_digest_418 : decode cX8_digest 418 = .ok (.aload_n 0, 1) := by decide +kernel
theorem dX8_digest_419 : decode cX8_digest 419 = .ok (.iload 4, 2) := by decide +kernel
theorem dX8_digest_421 : decode cX8_digest 421 = .ok (.bipush 30, 2) := by decide +kernel
theorem dX8_digest_423 : decode cX8_digest 423 = .ok (.iconst 1, 1) := by decide +kernel
theorem dX8_digest_424 : decode cX8_digest 424 = .ok (.invokevirtual 348, 3) := by decide +kernel
theorem dX8_digest_427 : decode cX8_digest 427 = .ok (.i2l, 1) := by decide +kernel
theorem dX8_digest_428 : decode cX8_digest 428 = .ok (.ladd, 1) := by decide +kernel
theorem dX8_digest_429 : decode cX8_digest 429 = .ok (.lstore_n 1, 1) := by decide +kernel
theorem dX8_digest_430 : decode cX8_digest 430 = .ok (.ldc2_w 290, 3) := by decide +kernel
theorem dX8_digest_433 : decode cX8_digest 433 = .ok (.lload_n 1, 1) := by decide +kernel
theorem dX8_digest_434 : decode cX8_digest 434 = .ok (.lmul, 1) := by decide +kernel
theorem dX8_digest_435 : decode cX8_digest 435 = .ok (.aload_n 0, 1) := by decide +kernel
theorem dX8_digest_436 : decode cX8_digest 436 = .ok (.iload 4, 2) := by decide +kernel
theorem dX8_digest_438 : decode cX8_digest 438 = .ok (.bipush 30, 2) := by decide +kernel
theorem dX8_digest_440 : decode cX8_digest 440 = .ok (.invokevirtual 351, 3) := by decide +kernel
theorem dX8_digest_443 : decode cX8_digest 443 = .ok (.i2l, 1) := by decide +kernel
theorem dX8_digest_444 : decode cX8_digest 444 = .ok (.ladd, 1) := by decide +kernel
theorem dX8_digest_445 : decode cX8_digest 445 = .ok (.lstore_n 1, 1) := by decide +kernel
theorem dX8_digest_446 : decode cX8_digest 446 = .ok (.iinc 3 1, 3) := by decide +kernel
theorem dX8_digest_449 : decode cX8_digest 449 = .ok (.goto (-289), 3) := by decide +kernel
theorem dX8_digest_452 : decode cX8_digest 452 = .ok (.ldc2_w 290, 3) := by decide +kernel
theorem dX8_digest_455 : decode cX8_digest 455 = .ok (.lload_n 1, 1) := by decide +kernel
theorem dX8_digest_456 : decode cX8_digest 456 = .ok (.lmul, 1) := by decide +kernel
theorem dX8_digest_457 : decode cX8_digest 457 = .ok (.aload_n 0, 1) := by decide +kernel
theorem dX8_digest_458 : decode cX8_digest 458 = .ok (.invokevirtual 354, 3) := by decide +kernel
theorem dX8_digest_461 : decode cX8_digest 461 = .ok (.i2l, 1) := by decide +kernel
theorem dX8_digest_462 : decode cX8_digest 462 = .ok (.ladd, 1) := by decide +kernel
theorem dX8_digest_463 : decode cX8_digest 463 = .ok (.lstore_n 1, 1) := by decide +kernel
theorem dX8_digest_464 : decode cX8_digest 464 = .ok (.ldc2_w 290, 3) := by decide +kernel
theorem dX8_digest_467 : decode cX8_digest 467 = .ok (.lload_n 1, 1) := by decide +kernel
theorem dX8_digest_468 : decode cX8_digest 468 = .ok (.lmul, 1) := by decide +kernel
theorem dX8_digest_469 : decode cX8_digest 469 = .ok (.aload_n 0, 1) := by decide +kernel
theorem dX8_digest_470 : decode cX8_digest 470 = .ok (.bipush 7, 2) := by decide +kernel
theorem dX8_digest_472 : decode cX8_digest 472 = .ok (.iconst 5, 1) := by decide +kernel
theorem dX8_digest_473 : decode cX8_digest 473 = .ok (.invokevirtual 357, 3) := by decide +kernel
theorem dX8_digest_476 : decode cX8_digest 476 = .ok (.i2l, 1) := by decide +kernel
theorem dX8_digest_477 : decode cX8_digest 477 = .ok (.ladd, 1) := by decide +kernel
theorem dX8_digest_478 : decode cX8_digest 478 = .ok (.lreturn, 1) := by decide +kernel
theorem dX8_textOf_0 : decode cX8_textOf 0 = .ok (.iload_n 1, 1) := by decide +kernel
theorem dX8_textOf_1 : decode cX8_textOf 1 = .ok (.ifCond .ne 8, 3) := by decide +kernel
theorem dX8_textOf_4 : decode cX8_textOf 4 = .ok (.aload_n 0, 1) := by decide +kernel
theorem dX8_textOf_5 : decode cX8_textOf 5 = .ok (.getfield 14, 3) := by decide +kernel
theorem dX8_textOf_8 : decode cX8_textOf 8 = .ok (.areturn, 1) := by decide +kernel
theorem dX8_textOf_9 : decode cX8_textOf 9 = .ok (.iload_n 1, 1) := by decide +kernel
theorem dX8_textOf_10 : decode cX8_textOf 10 = .ok (.iconst 1, 1) := by decide +kernel
theorem dX8_textOf_11 : decode cX8_textOf 11 = .ok (.if_icmp .ne 10, 3) := by decide +kernel
theorem dX8_textOf_14 : decode cX8_textOf 14 = .ok (.aload_n 0, 1) := by decide +kernel
theorem dX8_textOf_15 : decode cX8_textOf 15 = .ok (.getfield 18, 3) := by decide +kernel
theorem dX8_textOf_18 : decode cX8_textOf 18 = .ok (.goto 4, 3) := by decide +kernel
theorem dX8_textOf_21 : decode cX8_textOf 21 = .ok (.aconst_null, 1) := by decide +kernel
theorem dX8_textOf_22 : decode cX8_textOf 22 = .ok (.areturn, 1) := by decide +kernel
theorem dX8_takeUpTexts_0 : decode cX8_takeUpTexts 0 = .ok (.aload_n 0, 1) := by decide +kernel
theorem dX8_takeUpTexts_1 : decode cX8_takeUpTexts 1 = .ok (.getfield 26, 3) := by decide +kernel
theorem dX8_takeUpTexts_4 : decode cX8_takeUpTexts 4 = .ok (.invokevirtual 360, 3) := by decide +kernel
theorem dX8_takeUpTexts_7 : decode cX8_takeUpTexts 7 = .ok (.aload_n 0, 1) := by decide +kernel
theorem dX8_takeUpTexts_8 : decode cX8_takeUpTexts 8 = .ok (.getfield 33, 3) := by decide +kernel
theorem dX8_takeUpTexts_11 : decode cX8_takeUpTexts 11 = .ok (.invokevirtual 363, 3) := by decide +kernel
theorem dX8_takeUpTexts_14 : decode cX8_takeUpTexts 14 = .ok (.return_, 1) := by decide +kernel
theorem dX8_sheetOf_0 : decode cX8_sheetOf 0 = .ok (.iload_n 1, 1) := by decide +kernel
theorem dX8_sheetOf_1 : decode cX8_sheetOf 1 = .ok (.ifCond .lt 21, 3) := by decide +kernel
theorem dX8_sheetOf_4 : decode cX8_sheetOf 4 = .ok (.iload_n 1, 1) := by decide +kernel
theorem dX8_sheetOf_5 : decode cX8_sheetOf 5 = .ok (.aload_n 0, 1) := by decide +kernel
theorem dX8_sheetOf_6 : decode cX8_sheetOf 6 = .ok (.getfield 69, 3) := by decide +kernel
theorem dX8_sheetOf_9 : decode cX8_sheetOf 9 = .ok (.arraylength, 1) := by decide +kernel
theorem dX8_sheetOf_10 : decode cX8_sheetOf 10 = .ok (.if_icmp .ge 12, 3) := by decide +kernel
theorem dX8_sheetOf_13 : decode cX8_sheetOf 13 = .ok (.aload_n 0, 1) := by decide +kernel
theorem dX8_sheetOf_14 : decode cX8_sheetOf 14 = .ok (.getfield 69, 3) := by decide +kernel
theorem dX8_sheetOf_17 : decode cX8_sheetOf 17 = .ok (.iload_n 1, 1) := by decide +kernel
theorem dX8_sheetOf_18 : decode cX8_sheetOf 18 = .ok (.aaload, 1) := by decide +kernel
theorem dX8_sheetOf_19 : decode cX8_sheetOf 19 = .ok (.goto 4, 3) := by decide +kernel
theorem dX8_sheetOf_22 : decode cX8_sheetOf 22 = .ok (.aconst_null, 1) := by decide +kernel
theorem dX8_sheetOf_23 : decode cX8_sheetOf 23 = .ok (.areturn, 1) := by decide +kernel
theorem dX8_isSwell_0 : decode cX8_isSwell 0 = .ok (.iload_n 1, 1) := by decide +kernel
theorem dX8_isSwell_1 : decode cX8_isSwell 1 = .ok (.ifCond .lt 18, 3) := by decide +kernel
theorem dX8_isSwell_4 : decode cX8_isSwell 4 = .ok (.iload_n 1, 1) := by decide +kernel
theorem dX8_isSwell_5 : decode cX8_isSwell 5 = .ok (.aload_n 0, 1) := by decide +kernel
theorem dX8_isSwell_6 : decode cX8_isSwell 6 = .ok (.getfield 14, 3) := by decide +kernel
theorem dX8_isSwell_9 : decode cX8_isSwell 9 = .ok (.getfield 113, 3) := by decide +kernel
theorem dX8_isSwell_12 : decode cX8_isSwell 12 = .ok (.if_icmp .ge 7, 3) := by decide +kernel
theorem dX8_isSwell_15 : decode cX8_isSwell 15 = .ok (.iconst 1, 1) := by decide +kernel
theorem dX8_isSwell_16 : decode cX8_isSwell 16 = .ok (.goto 4, 3) := by decide +kernel
theorem dX8_isSwell_19 : decode cX8_isSwell 19 = .ok (.iconst 0, 1) := by decide +kernel
theorem dX8_isSwell_20 : decode cX8_isSwell 20 = .ok (.ireturn, 1) := by decide +kernel
theorem dX8_isEither_0 : decode cX8_isEither 0 = .ok (.iload_n 0, 1) := by decide +kernel
theorem dX8_isEither_1 : decode cX8_isEither 1 = .ok (.ifCond .eq 8, 3) := by decide +kernel
theorem dX8_isEither_4 : decode cX8_isEither 4 = .ok (.iload_n 0, 1) := by decide +kernel
theorem dX8_isEither_5 : decode cX8_isEither 5 = .ok (.iconst 1, 1) := by decide +kernel
theorem dX8_isEither_6 : decode cX8_isEither 6 = .ok (.if_icmp .ne 7, 3) := by decide +kernel
theorem dX8_isEither_9 : decode cX8_isEither 9 = .ok (.iconst 1, 1) := by decide +kernel
theorem dX8_isEither_10 : decode cX8_isEither 10 = .ok (.goto 4, 3) := by decide +kernel
theorem dX8_isEither_13 : decode cX8_isEither 13 = .ok (.iconst 0, 1) := by decide +kernel
theorem dX8_isEither_14 : decode cX8_isEither 14 = .ok (.ireturn, 1) := by decide +kernel
theorem dX8_isTenth_0 : decode cX8_isTenth 0 = .ok (.iload_n 0, 1) := by decide +kernel
theorem dX8_isTenth_1 : decode cX8_isTenth 1 = .ok (.ifCond .lt 14, 3) := by decide +kernel
theorem dX8_isTenth_4 : decode cX8_isTenth 4 = .ok (.iload_n 0, 1) := by decide +kernel
theorem dX8_isTenth_5 : decode cX8_isTenth 5 = .ok (.sipush 399, 3) := by decide +kernel
theorem dX8_isTenth_8 : decode cX8_isTenth 8 = .ok (.if_icmp .gt 7, 3) := by decide +kernel
theorem dX8_isTenth_11 : decode cX8_isTenth 11 = .ok (.iconst 1, 1) := by decide +kernel
theorem dX8_isTenth_12 : decode cX8_isTenth 12 = .ok (.goto 4, 3) := by decide +kernel
theorem dX8_isTenth_15 : decode cX8_isTenth 15 = .ok (.iconst 0, 1) := by decide +kernel
theorem dX8_isTenth_16 : decode cX8_isTenth 16 = .ok (.ireturn, 1) := by decide +kernel
theorem dX8_isSpan_0 : decode cX8_isSpan 0 = .ok (.iload_n 0, 1) := by decide +kernel
theorem dX8_isSpan_1 : decode cX8_isSpan 1 = .ok (.iconst 1, 1) := by decide +kernel
theorem dX8_isSpan_2 : decode cX8_isSpan 2 = .ok (.if_icmp .lt 13, 3) := by decide +kernel
theorem dX8_isSpan_5 : decode cX8_isSpan 5 = .ok (.iload_n 0, 1) := by decide +kernel
theorem dX8_isSpan_6 : decode cX8_isSpan 6 = .ok (.bipush 100, 2) := by decide +kernel
theorem dX8_isSpan_8 : decode cX8_isSpan 8 = .ok (.if_icmp .gt 7, 3) := by decide +kernel
theorem dX8_isSpan_11 : decode cX8_isSpan 11 = .ok (.iconst 1, 1) := by decide +kernel
theorem dX8_isSpan_12 : decode cX8_isSpan 12 = .ok (.goto 4, 3) := by decide +kernel
theorem dX8_isSpan_15 : decode cX8_isSpan 15 = .ok (.iconst 0, 1) := by decide +kernel
theorem dX8_isSpan_16 : decode cX8_isSpan 16 = .ok (.ireturn, 1) := by decide +kernel
theorem dX8_isForm_0 : decode cX8_isForm 0 = .ok (.iload_n 0, 1) := by decide +kernel
theorem dX8_isForm_1 : decode cX8_isForm 1 = .ok (.ifCond .eq 13, 3) := by decide +kernel
theorem dX8_isForm_4 : decode cX8_isForm 4 = .ok (.iload_n 0, 1) := by decide +kernel
theorem dX8_isForm_5 : decode cX8_isForm 5 = .ok (.iconst 1, 1) := by decide +kernel
theorem dX8_isForm_6 : decode cX8_isForm 6 = .ok (.if_icmp .eq 8, 3) := by decide +kernel
theorem dX8_isForm_9 : decode cX8_isForm 9 = .ok (.iload_n 0, 1) := by decide +kernel
theorem dX8_isForm_10 : decode cX8_isForm 10 = .ok (.iconst 2, 1) := by decide +kernel
theorem dX8_isForm_11 : decode cX8_isForm 11 = .ok (.if_icmp .ne 7, 3) := by decide +kernel
theorem dX8_isForm_14 : decode cX8_isForm 14 = .ok (.iconst 1, 1) := by decide +kernel
theorem dX8_isForm_15 : decode cX8_isForm 15 = .ok (.goto 4, 3) := by decide +kernel
theorem dX8_isForm_18 : decode cX8_isForm 18 = .ok (.iconst 0, 1) := by decide +kernel
theorem dX8_isForm_19 : decode cX8_isForm 19 = .ok (.ireturn, 1) := by decide +kernel
theorem dX8_spanEnd_0 : decode cX8_spanEnd 0 = .ok (.sipush 400, 3) := by decide +kernel
theorem dX8_spanEnd_3 : decode cX8_spanEnd 3 = .ok (.iload_n 0, 1) := by decide +kernel
theorem dX8_spanEnd_4 : decode cX8_spanEnd 4 = .ok (.iload_n 1, 1) := by decide +kernel
theorem dX8_spanEnd_5 : decode cX8_spanEnd 5 = .ok (.iadd, 1) := by decide +kernel
theorem dX8_spanEnd_6 : decode cX8_spanEnd 6 = .ok (.invokestatic 212, 3) := by decide +kernel
theorem dX8_spanEnd_9 : decode cX8_spanEnd 9 = .ok (.ireturn, 1) := by decide +kernel
theorem dX8_find_0 : decode cX8_find 0 = .ok (.aload_n 0, 1) := by decide +kernel
theorem dX8_find_1 : decode cX8_find 1 = .ok (.iload_n 1, 1) := by decide +kernel
theorem dX8_find_2 : decode cX8_find 2 = .ok (.putfield 285, 3) := by decide +kernel
theorem dX8_find_5 : decode cX8_find 5 = .ok (.bipush (-10), 2) := by decide +kernel
theorem dX8_find_7 : decode cX8_find 7 = .ok (.iload_n 1, 1) := by decide +kernel
theorem dX8_find_8 : decode cX8_find 8 = .ok (.isub, 1) := by decide +kernel
theorem dX8_find_9 : decode cX8_find 9 = .ok (.ireturn, 1) := by decide +kernel
theorem dX8_stepAt_0 : decode cX8_stepAt 0 = .ok (.aload_n 0, 1) := by decide +kernel
theorem dX8_stepAt_1 : decode cX8_stepAt 1 = .ok (.getfield 40, 3) := by decide +kernel
theorem dX8_stepAt_4 : decode cX8_stepAt 4 = .ok (.iconst 0, 1) := by decide +kernel
theorem dX8_stepAt_5 : decode cX8_stepAt 5 = .ok (.invokevirtual 138, 3) := by decide +kernel
theorem dX8_stepAt_8 : decode cX8_stepAt 8 = .ok (.aload_n 0, 1) := by decide +kernel
theorem dX8_stepAt_9 : decode cX8_stepAt 9 = .ok (.getfield 26, 3) := by decide +kernel
theorem dX8_stepAt_12 : decode cX8_stepAt 12 = .ok (.iload_n 1, 1) := by decide +kernel
theorem dX8_stepAt_13 : decode cX8_stepAt 13 = .ok (.invokevirtual 144, 3) := by decide +kernel
theorem dX8_stepAt_16 : decode cX8_stepAt 16 = .ok (.isub, 1) := by decide +kernel
theorem dX8_stepAt_17 : decode cX8_stepAt 17 = .ok (.aload_n 0, 1) := by decide +kernel
theorem dX8_stepAt_18 : decode cX8_stepAt 18 = .ok (.getfield 40, 3) := by decide +kernel
theorem dX8_stepAt_21 : decode cX8_stepAt 21 = .ok (.iconst 3, 1) := by decide +kernel
theorem dX8_stepAt_22 : decode cX8_stepAt 22 = .ok (.invokevirtual 138, 3) := by decide +kernel
theorem dX8_stepAt_25 : decode cX8_stepAt 25 = .ok (.if_icmp .le 5, 3) := by decide +kernel
theorem dX8_stepAt_28 : decode cX8_stepAt 28 = .ok (.iconst 4, 1) := by decide +kernel
theorem dX8_stepAt_29 : decode cX8_stepAt 29 = .ok (.ireturn, 1) := by decide +kernel
theorem dX8_stepAt_30 : decode cX8_stepAt 30 = .ok (.aload_n 0, 1) := by decide +kernel
theorem dX8_stepAt_31 : decode cX8_stepAt 31 = .ok (.getfield 26, 3) := by decide +kernel
theorem dX8_stepAt_34 : decode cX8_stepAt 34 = .ok (.iload_n 1, 1) := by decide +kernel
theorem dX8_stepAt_35 : decode cX8_stepAt 35 = .ok (.invokevirtual 147, 3) := by decide +kernel
theorem dX8_stepAt_38 : decode cX8_stepAt 38 = .ok (.tableswitch 32 1 3 #[26, 28, 30], 26) := by decide +kernel
theorem dX8_stepAt_64 : decode cX8_stepAt 64 = .ok (.iconst 1, 1) := by decide +kernel
theorem dX8_stepAt_65 : decode cX8_stepAt 65 = .ok (.ireturn, 1) := by decide +kernel
theorem dX8_stepAt_66 : decode cX8_stepAt 66 = .ok (.iconst 2, 1) := by decide +kernel
theorem dX8_stepAt_67 : decode cX8_stepAt 67 = .ok (.ireturn, 1) := by decide +kernel
theorem dX8_stepAt_68 : decode cX8_stepAt 68 = .ok (.iconst 3, 1) := by decide +kernel
theorem dX8_stepAt_69 : decode cX8_stepAt 69 = .ok (.ireturn, 1) := by decide +kernel
theorem dX8_stepAt_70 : decode cX8_stepAt 70 = .ok (.iconst 0, 1) := by decide +kernel
theorem dX8_stepAt_71 : decode cX8_stepAt 71 = .ok (.ireturn, 1) := by decide +kernel
theorem dX8_oddsToFall_0 : decode cX8_oddsToFall 0 = .ok (.aload_n 0, 1) := by decide +kernel
theorem dX8_oddsToFall_1 : decode cX8_oddsToFall 1 = .ok (.iload_n 1, 1) := by decide +kernel
theorem dX8_oddsToFall_2 : decode cX8_oddsToFall 2 = .ok (.invokevirtual 171, 3) := by decide +kernel
theorem dX8_oddsToFall_5 : decode cX8_oddsToFall 5 = .ok (.tableswitch 71 1 4 #[34, 46, 58, 31], 31) := by decide +kernel
theorem dX8_oddsToFall_36 : decode cX8_oddsToFall 36 = .ok (.bipush 16, 2) := by decide +kernel
theorem dX8_oddsToFall_38 : decode cX8_oddsToFall 38 = .ok (.ireturn, 1) := by decide +kernel
theorem dX8_oddsToFall_39 : decode cX8_oddsToFall 39 = .ok (.aload_n 0, 1) := by decide +kernel
theorem dX8_oddsToFall_40 : decode cX8_oddsToFall 40 = .ok (.getfield 40, 3) := by decide +kernel
theorem dX8_oddsToFall_43 : decode cX8_oddsToFall 43 = .ok (.iconst 4, 1) := by decide +kernel
theorem dX8_oddsToFall_44 : decode cX8_oddsToFall 44 = .ok (.invokevirtual 138, 3) := by decide +kernel
theorem dX8_oddsToFall_47 : decode cX8_oddsToFall 47 = .ok (.istore_n 2, 1) := by decide +kernel
theorem dX8_oddsToFall_48 : decode cX8_oddsToFall 48 = .ok (.goto 38, 3) := by decide +kernel
theorem dX8_oddsToFall_51 : decode cX8_oddsToFall 51 = .ok (.aload_n 0, 1) := by decide +kernel
theorem dX8_oddsToFall_52 : decode cX8_oddsToFall 52 = .ok (.getfield 40, 3) := by decide +kernel
theorem dX8_oddsToFall_55 : decode cX8_oddsToFall 55 = .ok (.iconst 5, 1) := by decide +kernel
theorem dX8_oddsToFall_56 : decode cX8_oddsToFall 56 = .ok (.invokevirtual 138, 3) := by decide +kernel
theorem dX8_oddsToFall_59 : decode cX8_oddsToFall 59 = .ok (.istore_n 2, 1) := by decide +kernel
theorem dX8_oddsToFall_60 : decode cX8_oddsToFall 60 = .ok (.goto 26, 3) := by decide +kernel
theorem dX8_oddsToFall_63 : decode cX8_oddsToFall 63 = .ok (.aload_n 0, 1) := by decide +kernel
theorem dX8_oddsToFall_64 : decode cX8_oddsToFall 64 = .ok (.getfield 40, 3) := by decide +kernel
theorem dX8_oddsToFall_67 : decode cX8_oddsToFall 67 = .ok (.bipush 6, 2) := by decide +kernel
theorem dX8_oddsToFall_69 : decode cX8_oddsToFall 69 = .ok (.invokevirtual 138, 3) := by decide +kernel
theorem dX8_oddsToFall_72 : decode cX8_oddsToFall 72 = .ok (.istore_n 2, 1) := by decide +kernel
theorem dX8_oddsToFall_73 : decode cX8_oddsToFall 73 = .ok (.goto 13, 3) := by decide +kernel
theorem dX8_oddsToFall_76 : decode cX8_oddsToFall 76 = .ok (.aload_n 0, 1) := by decide +kernel
theorem dX8_oddsToFall_77 : decode cX8_oddsToFall 77 = .ok (.getfield 40, 3) := by decide +kernel
theorem dX8_oddsToFall_80 : decode cX8_oddsToFall 80 = .ok (.bipush 7, 2) := by decide +kernel
theorem dX8_oddsToFall_82 : decode cX8_oddsToFall 82 = .ok (.invokevirtual 138, 3) := by decide +kernel
theorem dX8_oddsToFall_85 : decode cX8_oddsToFall 85 = .ok (.istore_n 2, 1) := by decide +kernel
theorem dX8_oddsToFall_86 : decode cX8_oddsToFall 86 = .ok (.bipush 16, 2) := by decide +kernel
theorem dX8_oddsToFall_88 : decode cX8_oddsToFall 88 = .ok (.iload_n 2, 1) := by decide +kernel
theorem dX8_oddsToFall_89 : decode cX8_oddsToFall 89 = .ok (.aload_n 0, 1) := by decide +kernel
theorem dX8_oddsToFall_90 : decode cX8_oddsToFall 90 = .ok (.getfield 40, 3) := by decide +kernel
theorem dX8_oddsToFall_93 : decode cX8_oddsToFall 93 = .ok (.bipush 9, 2) := by decide +kernel
theorem dX8_oddsToFall_95 : decode cX8_oddsToFall 95 = .ok (.invokevirtual 138, 3) := by decide +kernel
theorem dX8_oddsToFall_98 : decode cX8_oddsToFall 98 = .ok (.iadd, 1) := by decide +kernel
theorem dX8_oddsToFall_99 : decode cX8_oddsToFall 99 = .ok (.invokestatic 212, 3) := by decide +kernel
theorem dX8_oddsToFall_102 : decode cX8_oddsToFall 102 = .ok (.ireturn, 1) := by decide +kernel
theorem dX8_chance_0 : decode cX8_chance 0 = .ok (.aload_n 0, 1) := by decide +kernel
theorem dX8_chance_1 : decode cX8_chance 1 = .ok (.getfield 49, 3) := by decide +kernel
theorem dX8_chance_4 : decode cX8_chance 4 = .ok (.iload_n 1, 1) := by decide +kernel
theorem dX8_chance_5 : decode cX8_chance 5 = .ok (.invokevirtual 177, 3) := by decide +kernel
theorem dX8_chance_8 : decode cX8_chance 8 = .ok (.aload_n 0, 1) := by decide +kernel
theorem dX8_chance_9 : decode cX8_chance 9 = .ok (.getfield 49, 3) := by decide +kernel
theorem dX8_chance_12 : decode cX8_chance 12 = .ok (.getfield 180, 3) := by decide +kernel
theorem dX8_chance_15 : decode cX8_chance 15 = .ok (.iconst (-1), 1) := by decide +kernel
theorem dX8_chance_16 : decode cX8_chance 16 = .ok (.if_icmp .ne 5, 3) := by decide +kernel
theorem dX8_chance_19 : decode cX8_chance 19 = .ok (.lconst 0, 1) := by decide +kernel
theorem dX8_chance_20 : decode cX8_chance 20 = .ok (.lreturn, 1) := by decide +kernel
theorem dX8_chance_21 : decode cX8_chance 21 = .ok (.bipush 16, 2) := by decide +kernel
theorem dX8_chance_23 : decode cX8_chance 23 = .ok (.aload_n 0, 1) := by decide +kernel
theorem dX8_chance_24 : decode cX8_chance 24 = .ok (.iload_n 1, 1) := by decide +kernel
theorem dX8_chance_25 : decode cX8_chance 25 = .ok (.invokevirtual 174, 3) := by decide +kernel
theorem dX8_chance_28 : decode cX8_chance 28 = .ok (.isub, 1) := by decide +kernel
theorem dX8_chance_29 : decode cX8_chance 29 = .ok (.i2l, 1) := by decide +kernel
theorem dX8_chance_30 : decode cX8_chance 30 = .ok (.lstore_n 2, 1) := by decide +kernel
theorem dX8_chance_31 : decode cX8_chance 31 = .ok (.bipush 16, 2) := by decide +kernel
theorem dX8_chance_33 : decode cX8_chance 33 = .ok (.aload_n 0, 1) := by decide +kernel
theorem dX8_chance_34 : decode cX8_chance 34 = .ok (.getfield 40, 3) := by decide +kernel
theorem dX8_chance_37 : decode cX8_chance 37 = .ok (.bipush 8, 2) := by decide +kernel
theorem dX8_chance_39 : decode cX8_chance 39 = .ok (.invokevirtual 138, 3) := by decide +kernel
theorem dX8_chance_42 : decode cX8_chance 42 = .ok (.isub, 1) := by decide +kernel
theorem dX8_chance_43 : decode cX8_chance 43 = .ok (.istore 4, 2) := by decide +kernel
theorem dX8_chance_45 : decode cX8_chance 45 = .ok (.iconst 0, 1) := by decide +kernel
theorem dX8_chance_46 : decode cX8_chance 46 = .ok (.istore 5, 2) := by decide +kernel
theorem dX8_chance_48 : decode cX8_chance 48 = .ok (.iload 5, 2) := by decide +kernel
theorem dX8_chance_50 : decode cX8_chance 50 = .ok (.bipush 12, 2) := by decide +kernel
theorem dX8_chance_52 : decode cX8_chance 52 = .ok (.if_icmp .ge 33, 3) := by decide +kernel
theorem dX8_chance_55 : decode cX8_chance 55 = .ok (.lload_n 2, 1) := by decide +kernel
theorem dX8_chance_56 : decode cX8_chance 56 = .ok (.iload 5, 2) := by decide +kernel
theorem dX8_chance_58 : decode cX8_chance 58 = .ok (.aload_n 0, 1) := by decide +kernel
theorem dX8_chance_59 : decode cX8_chance 59 = .ok (.getfield 49, 3) := by decide +kernel
theorem dX8_chance_62 : decode cX8_chance 62 = .ok (.getfield 183, 3) := by decide +kernel
theorem dX8_chance_65 : decode cX8_chance 65 = .ok (.if_icmp .ge 9, 3) := by decide +kernel
theorem dX8_chance_68 : decode cX8_chance 68 = .ok (.iload 4, 2) := by decide +kernel
theorem dX8_chance_70 : decode cX8_chance 70 = .ok (.i2l, 1) := by decide +kernel
theorem dX8_chance_71 : decode cX8_chance 71 = .ok (.goto 6, 3) := by decide +kernel
theorem dX8_chance_74 : decode cX8_chance 74 = .ok (.ldc2_w 364, 3) := by decide +kernel
theorem dX8_chance_77 : decode cX8_chance 77 = .ok (.lmul, 1) := by decide +kernel
theorem dX8_chance_78 : decode cX8_chance 78 = .ok (.lstore_n 2, 1) := by decide +kernel
theorem dX8_chance_79 : decode cX8_chance 79 = .ok (.iinc 5 1, 3) := by decide +kernel
theorem dX8_chance_82 : decode cX8_chance 82 = .ok (.goto (-34), 3) := by decide +kernel
theorem dX8_chance_85 : decode cX8_chance 85 = .ok (.lload_n 2, 1) := by decide +kernel
theorem dX8_chance_86 : decode cX8_chance 86 = .ok (.lreturn, 1) := by decide +kernel
theorem dX8_distanceToFoot_0 : decode cX8_distanceToFoot 0 = .ok (.aload_n 0, 1) := by decide +kernel
theorem dX8_distanceToFoot_1 : decode cX8_distanceToFoot 1 = .ok (.getfield 26, 3) := by decide +kernel
theorem dX8_distanceToFoot_4 : decode cX8_distanceToFoot 4 = .ok (.iload_n 1, 1) := by decide +kernel
theorem dX8_distanceToFoot_5 : decode cX8_distanceToFoot 5 = .ok (.invokevirtual 144, 3) := by decide +kernel
theorem dX8_distanceToFoot_8 : decode cX8_distanceToFoot 8 = .ok (.aload_n 0, 1) := by decide +kernel
theorem dX8_distanceToFoot_9 : decode cX8_distanceToFoot 9 = .ok (.getfield 40, 3) := by decide +kernel
theorem dX8_distanceToFoot_12 : decode cX8_distanceToFoot 12 = .ok (.iconst 0, 1) := by decide +kernel
theorem dX8_distanceToFoot_13 : decode cX8_distanceToFoot 13 = .ok (.invokevirtual 138, 3) := by decide +kernel
theorem dX8_distanceToFoot_16 : decode cX8_distanceToFoot 16 = .ok (.isub, 1) := by decide +kernel
theorem dX8_distanceToFoot_17 : decode cX8_distanceToFoot 17 = .ok (.invokestatic 366, 3) := by decide +kernel
theorem dX8_distanceToFoot_20 : decode cX8_distanceToFoot 20 = .ok (.ireturn, 1) := by decide +kernel
theorem dX8_allSeenComesOut_0 : decode cX8_allSeenComesOut 0 = .ok (.iconst 0, 1) := by decide +kernel
theorem dX8_allSeenComesOut_1 : decode cX8_allSeenComesOut 1 = .ok (.istore_n 3, 1) := by decide +kernel
theorem dX8_allSeenComesOut_2 : decode cX8_allSeenComesOut 2 = .ok (.iload_n 3, 1) := by decide +kernel
theorem dX8_allSeenComesOut_3 : decode cX8_allSeenComesOut 3 = .ok (.aload_n 0, 1) := by decide +kernel
theorem dX8_allSeenComesOut_4 : decode cX8_allSeenComesOut 4 = .ok (.getfield 56, 3) := by decide +kernel
theorem dX8_allSeenComesOut_7 : decode cX8_allSeenComesOut 7 = .ok (.getfield 220, 3) := by decide +kernel
theorem dX8_allSeenComesOut_10 : decode cX8_allSeenComesOut 10 = .ok (.if_icmp .ge 39, 3) := by decide +kernel
theorem dX8_allSeenComesOut_13 : decode cX8_allSeenComesOut 13 = .ok (.aload_n 0, 1) := by decide +kernel
theorem dX8_allSeenComesOut_14 : decode cX8_allSeenComesOut 14 = .ok (.getfield 26, 3) := by decide +kernel
theorem dX8_allSeenComesOut_17 : decode cX8_allSeenComesOut 17 = .ok (.iload_n 1, 1) := by decide +kernel
theorem dX8_allSeenComesOut_18 : decode cX8_allSeenComesOut 18 = .ok (.iload_n 2, 1) := by decide +kernel
theorem dX8_allSeenComesOut_19 : decode cX8_allSeenComesOut 19 = .ok (.aload_n 0, 1) := by decide +kernel
theorem dX8_allSeenComesOut_20 : decode cX8_allSeenComesOut 20 = .ok (.getfield 56, 3) := by decide +kernel
theorem dX8_allSeenComesOut_23 : decode cX8_allSeenComesOut 23 = .ok (.iload_n 3, 1) := by decide +kernel
theorem dX8_allSeenComesOut_24 : decode cX8_allSeenComesOut 24 = .ok (.invokevirtual 369, 3) := by decide +kernel
theorem dX8_allSeenComesOut_27 : decode cX8_allSeenComesOut 27 = .ok (.invokevirtual 372, 3) := by decide +kernel
theorem dX8_allSeenComesOut_30 : decode cX8_allSeenComesOut 30 = .ok (.aload_n 0, 1) := by decide +kernel
theorem dX8_allSeenComesOut_31 : decode cX8_allSeenComesOut 31 = .ok (.getfield 56, 3) := by decide +kernel
theorem dX8_allSeenComesOut_34 : decode cX8_allSeenComesOut 34 = .ok (.iload_n 3, 1) := by decide +kernel
theorem dX8_allSeenComesOut_35 : decode cX8_allSeenComesOut 35 = .ok (.invokevirtual 375, 3) := by decide +kernel
theorem dX8_allSeenComesOut_38 : decode cX8_allSeenComesOut 38 = .ok (.if_icmp .eq 5, 3) := by decide +kernel
theorem dX8_allSeenComesOut_41 : decode cX8_allSeenComesOut 41 = .ok (.iconst 0, 1) := by decide +kernel
theorem dX8_allSeenComesOut_42 : decode cX8_allSeenComesOut 42 = .ok (.ireturn, 1) := by decide +kernel
theorem dX8_allSeenComesOut_43 : decode cX8_allSeenComesOut 43 = .ok (.iinc 3 1, 3) := by decide +kernel
theorem dX8_allSeenComesOut_46 : decode cX8_allSeenComesOut 46 = .ok (.goto (-44), 3) := by decide +kernel
theorem dX8_allSeenComesOut_49 : decode cX8_allSeenComesOut 49 = .ok (.iconst 1, 1) := by decide +kernel
theorem dX8_allSeenComesOut_50 : decode cX8_allSeenComesOut 50 = .ok (.ireturn, 1) := by decide +kernel
theorem dX8_nextStep_0 : decode cX8_nextStep 0 = .ok (.aload_n 0, 1) := by decide +kernel
theorem dX8_nextStep_1 : decode cX8_nextStep 1 = .ok (.getfield 26, 3) := by decide +kernel
theorem dX8_nextStep_4 : decode cX8_nextStep 4 = .ok (.iload_n 1, 1) := by decide +kernel
theorem dX8_nextStep_5 : decode cX8_nextStep 5 = .ok (.iconst 1, 1) := by decide +kernel
theorem dX8_nextStep_6 : decode cX8_nextStep 6 = .ok (.invokevirtual 153, 3) := by decide +kernel
theorem dX8_nextStep_9 : decode cX8_nextStep 9 = .ok (.istore_n 2, 1) := by decide +kernel
theorem dX8_nextStep_10 : decode cX8_nextStep 10 = .ok (.iload_n 2, 1) := by decide +kernel
theorem dX8_nextStep_11 : decode cX8_nextStep 11 = .ok (.iconst (-1), 1) := by decide +kernel
theorem dX8_nextStep_12 : decode cX8_nextStep 12 = .ok (.if_icmp .ne 5, 3) := by decide +kernel
theorem dX8_nextStep_15 : decode cX8_nextStep 15 = .ok (.iconst (-1), 1) := by decide +kernel
theorem dX8_nextStep_16 : decode cX8_nextStep 16 = .ok (.ireturn, 1) := by decide +kernel
theorem dX8_nextStep_17 : decode cX8_nextStep 17 = .ok (.iload_n 2, 1) := by decide +kernel
theorem dX8_nextStep_18 : decode cX8_nextStep 18 = .ok (.aload_n 0, 1) := by decide +kernel
theorem dX8_nextStep_19 : decode cX8_nextStep 19 = .ok (.getfield 63, 3) := by decide +kernel
theorem dX8_nextStep_22 : decode cX8_nextStep 22 = .ok (.iconst 3, 1) := by decide +kernel
theorem dX8_nextStep_23 : decode cX8_nextStep 23 = .ok (.invokevirtual 376, 3) := by decide +kernel
theorem dX8_nextStep_26 : decode cX8_nextStep 26 = .ok (.iadd, 1) := by decide +kernel
theorem dX8_nextStep_27 : decode cX8_nextStep 27 = .ok (.istore_n 3, 1) := by decide +kernel
theorem dX8_nextStep_28 : decode cX8_nextStep 28 = .ok (.iload_n 3, 1) := by decide +kernel
theorem dX8_nextStep_29 : decode cX8_nextStep 29 = .ok (.sipush 399, 3) := by decide +kernel
theorem dX8_nextStep_32 : decode cX8_nextStep 32 = .ok (.if_icmp .le 7, 3) := by decide +kernel
theorem dX8_nextStep_35 : decode cX8_nextStep 35 = .ok (.iconst (-1), 1) := by decide +kernel
theorem dX8_nextStep_36 : decode cX8_nextStep 36 = .ok (.goto 4, 3) := by decide +kernel
theorem dX8_nextStep_39 : decode cX8_nextStep 39 = .ok (.iload_n 3, 1) := by decide +kernel
theorem dX8_nextStep_40 : decode cX8_nextStep 40 = .ok (.ireturn, 1) := by decide +kernel
theorem dX8_getsUp_0 : decode cX8_getsUp 0 = .ok (.aload_n 0, 1) := by decide +kernel
theorem dX8_getsUp_1 : decode cX8_getsUp 1 = .ok (.getfield 63, 3) := by decide +kernel
theorem dX8_getsUp_4 : decode cX8_getsUp 4 = .ok (.bipush 16, 2) := by decide +kernel
theorem dX8_getsUp_6 : decode cX8_getsUp 6 = .ok (.invokevirtual 376, 3) := by decide +kernel
theorem dX8_getsUp_9 : decode cX8_getsUp 9 = .ok (.aload_n 0, 1) := by decide +kernel
theorem dX8_getsUp_10 : decode cX8_getsUp 10 = .ok (.iload_n 1, 1) := by decide +kernel
theorem dX8_getsUp_11 : decode cX8_getsUp 11 = .ok (.invokevirtual 174, 3) := by decide +kernel
theorem dX8_getsUp_14 : decode cX8_getsUp 14 = .ok (.if_icmp .ge 5, 3) := by decide +kernel
theorem dX8_getsUp_17 : decode cX8_getsUp 17 = .ok (.iconst 0, 1) := by decide +kernel
theorem dX8_getsUp_18 : decode cX8_getsUp 18 = .ok (.ireturn, 1) := by decide +kernel
theorem dX8_getsUp_19 : decode cX8_getsUp 19 = .ok (.aload_n 0, 1) := by decide +kernel
theorem dX8_getsUp_20 : decode cX8_getsUp 20 = .ok (.getfield 49, 3) := by decide +kernel
theorem dX8_getsUp_23 : decode cX8_getsUp 23 = .ok (.iload_n 1, 1) := by decide +kernel
theorem dX8_getsUp_24 : decode cX8_getsUp 24 = .ok (.invokevirtual 177, 3) := by decide +kernel
theorem dX8_getsUp_27 : decode cX8_getsUp 27 = .ok (.iconst 0, 1) := by decide +kernel
theorem dX8_getsUp_28 : decode cX8_getsUp 28 = .ok (.istore_n 2, 1) := by decide +kernel
theorem dX8_getsUp_29 : decode cX8_getsUp 29 = .ok (.iload_n 2, 1) := by decide +kernel
theorem dX8_getsUp_30 : decode cX8_getsUp 30 = .ok (.aload_n 0, 1) := by decide +kernel
theorem dX8_getsUp_31 : decode cX8_getsUp 31 = .ok (.getfield 49, 3) := by decide +kernel
theorem dX8_getsUp_34 : decode cX8_getsUp 34 = .ok (.getfield 183, 3) := by decide +kernel
theorem dX8_getsUp_37 : decode cX8_getsUp 37 = .ok (.if_icmp .ge 32, 3) := by decide +kernel
theorem dX8_getsUp_40 : decode cX8_getsUp 40 = .ok (.aload_n 0, 1) := by decide +kernel
theorem dX8_getsUp_41 : decode cX8_getsUp 41 = .ok (.getfield 63, 3) := by decide +kernel
theorem dX8_getsUp_44 : decode cX8_getsUp 44 = .ok (.bipush 16, 2) := by decide +kernel
theorem dX8_getsUp_46 : decode cX8_getsUp 46 = .ok (.invokevirtual 376, 3) := by decide +kernel
theorem dX8_getsUp_49 : decode cX8_getsUp 49 = .ok (.aload_n 0, 1) := by decide +kernel
theorem dX8_getsUp_50 : decode cX8_getsUp 50 = .ok (.getfield 40, 3) := by decide +kernel
theorem dX8_getsUp_53 : decode cX8_getsUp 53 = .ok (.bipush 8, 2) := by decide +kernel
theorem dX8_getsUp_55 : decode cX8_getsUp 55 = .ok (.invokevirtual 138, 3) := by decide +kernel
theorem dX8_getsUp_58 : decode cX8_getsUp 58 = .ok (.if_icmp .ge 5, 3) := by decide +kernel
theorem dX8_getsUp_61 : decode cX8_getsUp 61 = .ok (.iconst 0, 1) := by decide +kernel
theorem dX8_getsUp_62 : decode cX8_getsUp 62 = .ok (.ireturn, 1) := by decide +kernel
theorem dX8_getsUp_63 : decode cX8_getsUp 63 = .ok (.iinc 2 1, 3) := by decide +kernel
theorem dX8_getsUp_66 : decode cX8_getsUp 66 = .ok (.goto (-37), 3) := by decide +kernel
theorem dX8_getsUp_69 : decode cX8_getsUp 69 = .ok (.aload_n 0, 1) := by decide +kernel
theorem dX8_getsUp_70 : decode cX8_getsUp 70 = .ok (.getfield 49, 3) := by decide +kernel
theorem dX8_getsUp_73 : decode cX8_getsUp 73 = .ok (.getfield 180, 3) := by decide +kernel
theorem dX8_getsUp_76 : decode cX8_getsUp 76 = .ok (.iconst (-1), 1) := by decide +kernel
theorem dX8_getsUp_77 : decode cX8_getsUp 77 = .ok (.if_icmp .eq 7, 3) := by decide +kernel
theorem dX8_getsUp_80 : decode cX8_getsUp 80 = .ok (.iconst 1, 1) := by decide +kernel
theorem dX8_getsUp_81 : decode cX8_getsUp 81 = .ok (.goto 4, 3) := by decide +kernel
theorem dX8_getsUp_84 : decode cX8_getsUp 84 = .ok (.iconst 0, 1) := by decide +kernel
theorem dX8_getsUp_85 : decode cX8_getsUp 85 = .ok (.ireturn, 1) := by decide +kernel
