theorem dX9_init_0 : decode cX9_init 0 = .ok (.aload_n 0, 1) := by decide +kernel
theorem dX9_init_1 : decode cX9_init 1 = .ok (.invokespecial 1, 3) := by decide +kernel
theorem dX9_init_4 : decode cX9_init 4 = .ok (.aload_n 0, 1) := by decide +kernel
theorem dX9_init_5 : decode cX9_init 5 = .ok (.iconst 2, 1) := by decide +kernel
theorem dX9_init_6 : decode cX9_init 6 = .ok (.newarray .int, 2) := by decide +kernel
theorem dX9_init_8 : decode cX9_init 8 = .ok (.putfield 7, 3) := by decide +kernel
theorem dX9_init_11 : decode cX9_init 11 = .ok (.aload_n 0, 1) := by decide +kernel
theorem dX9_init_12 : decode cX9_init 12 = .ok (.bipush 46, 2) := by decide +kernel
theorem dX9_init_14 : decode cX9_init 14 = .ok (.newarray .int, 2) := by decide +kernel
theorem dX9_init_16 : decode cX9_init 16 = .ok (.putfield 13, 3) := by decide +kernel
theorem dX9_init_19 : decode cX9_init 19 = .ok (.aload_n 0, 1) := by decide +kernel
theorem dX9_init_20 : decode cX9_init 20 = .ok (.bipush 8, 2) := by decide +kernel
theorem dX9_init_22 : decode cX9_init 22 = .ok (.newarray .int, 2) := by decide +kernel
theorem dX9_init_24 : decode cX9_init 24 = .ok (.putfield 16, 3) := by decide +kernel
theorem dX9_init_27 : decode cX9_init 27 = .ok (.aload_n 0, 1) := by decide +kernel
theorem dX9_init_28 : decode cX9_init 28 = .ok (.bipush 8, 2) := by decide +kernel
theorem dX9_init_30 : decode cX9_init 30 = .ok (.newarray .int, 2) := by decide +kernel
theorem dX9_init_32 : decode cX9_init 32 = .ok (.putfield 19, 3) := by decide +kernel
theorem dX9_init_35 : decode cX9_init 35 = .ok (.aload_n 0, 1) := by decide +kernel
theorem dX9_init_36 : decode cX9_init 36 = .ok (.bipush 6, 2) := by decide +kernel
theorem dX9_init_38 : decode cX9_init 38 = .ok (.newarray .int, 2) := by decide +kernel
theorem dX9_init_40 : decode cX9_init 40 = .ok (.putfield 22, 3) := by decide +kernel
theorem dX9_init_43 : decode cX9_init 43 = .ok (.aload_n 0, 1) := by decide +kernel
theorem dX9_init_44 : decode cX9_init 44 = .ok (.bipush 12, 2) := by decide +kernel
theorem dX9_init_46 : decode cX9_init 46 = .ok (.newarray .int, 2) := by decide +kernel
theorem dX9_init_48 : decode cX9_init 48 = .ok (.putfield 25, 3) := by decide +kernel
theorem dX9_init_51 : decode cX9_init 51 = .ok (.aload_n 0, 1) := by decide +kernel
theorem dX9_init_52 : decode cX9_init 52 = .ok (.sipush 400, 3) := by decide +kernel
theorem dX9_init_55 : decode cX9_init 55 = .ok (.newarray .int, 2) := by decide +kernel
theorem dX9_init_57 : decode cX9_init 57 = .ok (.putfield 28, 3) := by decide +kernel
theorem dX9_init_60 : decode cX9_init 60 = .ok (.aload_n 0, 1) := by decide +kernel
theorem dX9_init_61 : decode cX9_init 61 = .ok (.bipush 8, 2) := by decide +kernel
theorem dX9_init_63 : decode cX9_init 63 = .ok (.newarray .int, 2) := by decide +kernel
theorem dX9_init_65 : decode cX9_init 65 = .ok (.putfield 31, 3) := by decide +kernel
theorem dX9_init_68 : decode cX9_init 68 = .ok (.aload_n 0, 1) := by decide +kernel
theorem dX9_init_69 : decode cX9_init 69 = .ok (.bipush 8, 2) := by decide +kernel
theorem dX9_init_71 : decode cX9_init 71 = .ok (.newarray .int, 2) := by decide +kernel
theorem dX9_init_73 : decode cX9_init 73 = .ok (.putfield 34, 3) := by decide +kernel
theorem dX9_init_76 : decode cX9_init 76 = .ok (.aload_n 0, 1) := by decide +kernel
theorem dX9_init_77 : decode cX9_init 77 = .ok (.iconst 4, 1) := by decide +kernel
theorem dX9_init_78 : decode cX9_init 78 = .ok (.newarray .boolean, 2) := by decide +kernel
theorem dX9_init_80 : decode cX9_init 80 = .ok (.putfield 37, 3) := by decide +kernel
theorem dX9_init_83 : decode cX9_init 83 = .ok (.aload_n 0, 1) := by decide +kernel
theorem dX9_init_84 : decode cX9_init 84 = .ok (.iconst 4, 1) := by decide +kernel
theorem dX9_init_85 : decode cX9_init 85 = .ok (.newarray .int, 2) := by decide +kernel
theorem dX9_init_87 : decode cX9_init 87 = .ok (.putfield 41, 3) := by decide +kernel
theorem dX9_init_90 : decode cX9_init 90 = .ok (.aload_n 0, 1) := by decide +kernel
theorem dX9_init_91 : decode cX9_init 91 = .ok (.iconst 4, 1) := by decide +kernel
theorem dX9_init_92 : decode cX9_init 92 = .ok (.newarray .int, 2) := by decide +kernel
theorem dX9_init_94 : decode cX9_init 94 = .ok (.putfield 44, 3) := by decide +kernel
theorem dX9_init_97 : decode cX9_init 97 = .ok (.aload_n 0, 1) := by decide +kernel
theorem dX9_init_98 : decode cX9_init 98 = .ok (.sipush 192, 3) := by decide +kernel
theorem dX9_init_101 : decode cX9_init 101 = .ok (.newarray .int, 2) := by decide +kernel
theorem dX9_init_103 : decode cX9_init 103 = .ok (.putfield 47, 3) := by decide +kernel
theorem dX9_init_106 : decode cX9_init 106 = .ok (.aload_n 0, 1) := by decide +kernel
theorem dX9_init_107 : decode cX9_init 107 = .ok (.bipush 48, 2) := by decide +kernel
theorem dX9_init_109 : decode cX9_init 109 = .ok (.newarray .int, 2) := by decide +kernel
theorem dX9_init_111 : decode cX9_init 111 = .ok (.putfield 50, 3) := by decide +kernel
theorem dX9_init_114 : decode cX9_init 114 = .ok (.aload_n 0, 1) := by decide +kernel
theorem dX9_init_115 : decode cX9_init 115 = .ok (.getfield 25, 3) := by decide +kernel
theorem dX9_init_118 : decode cX9_init 118 = .ok (.iconst 0, 1) := by decide +kernel
theorem dX9_init_119 : decode cX9_init 119 = .ok (.bipush 20, 2) := by decide +kernel
theorem dX9_init_121 : decode cX9_init 121 = .ok (.iastore, 1) := by decide +kernel
theorem dX9_init_122 : decode cX9_init 122 = .ok (.aload_n 0, 1) := by decide +kernel
theorem dX9_init_123 : decode cX9_init 123 = .ok (.getfield 25, 3) := by decide +kernel
theorem dX9_init_126 : decode cX9_init 126 = .ok (.iconst 1, 1) := by decide +kernel
theorem dX9_init_127 : decode cX9_init 127 = .ok (.bipush 9, 2) := by decide +kernel
theorem dX9_init_129 : decode cX9_init 129 = .ok (.iastore, 1) := by decide +kernel
theorem dX9_init_130 : decode cX9_init 130 = .ok (.aload_n 0, 1) := by decide +kernel
theorem dX9_init_131 : decode cX9_init 131 = .ok (.getfield 25, 3) := by decide +kernel
theorem dX9_init_134 : decode cX9_init 134 = .ok (.iconst 2, 1) := by decide +kernel
theorem dX9_init_135 : decode cX9_init 135 = .ok (.iconst 3, 1) := by decide +kernel
theorem dX9_init_136 : decode cX9_init 136 = .ok (.iastore, 1) := by decide +kernel
theorem dX9_init_137 : decode cX9_init 137 = .ok (.aload_n 0, 1) := by decide +kernel
theorem dX9_init_138 : decode cX9_init 138 = .ok (.getfield 25, 3) := by decide +kernel
theorem dX9_init_141 : decode cX9_init 141 = .ok (.iconst 3, 1) := by decide +kernel
theorem dX9_init_142 : decode cX9_init 142 = .ok (.iconst 5, 1) := by decide +kernel
theorem dX9_init_143 : decode cX9_init 143 = .ok (.iastore, 1) := by decide +kernel
theorem dX9_init_144 : decode cX9_init 144 = .ok (.aload_n 0, 1) := by decide +kernel
theorem dX9_init_145 : decode cX9_init 145 = .ok (.getfield 25, 3) := by decide +kernel
theorem dX9_init_148 : decode cX9_init 148 = .ok (.iconst 5, 1) := by decide +kernel
theorem dX9_init_149 : decode cX9_init 149 = .ok (.iconst 2, 1) := by decide +kernel
theorem dX9_init_150 : decode cX9_init 150 = .ok (.iastore, 1) := by decide +kernel
theorem dX9_init_151 : decode cX9_init 151 = .ok (.aload_n 0, 1) := by decide +kernel
theorem dX9_init_152 : decode cX9_init 152 = .ok (.getfield 25, 3) := by decide +kernel
theorem dX9_init_155 : decode cX9_init 155 = .ok (.bipush 6, 2) := by decide +kernel
theorem dX9_init_157 : decode cX9_init 157 = .ok (.iconst 3, 1) := by decide +kernel
theorem dX9_init_158 : decode cX9_init 158 = .ok (.iastore, 1) := by decide +kernel
theorem dX9_init_159 : decode cX9_init 159 = .ok (.aload_n 0, 1) := by decide +kernel
theorem dX9_init_160 : decode cX9_init 160 = .ok (.getfield 25, 3) := by decide +kernel
theorem dX9_init_163 : decode cX9_init 163 = .ok (.bipush 7, 2) := by decide +kernel
theorem dX9_init_165 : decode cX9_init 165 = .ok (.iconst 1, 1) := by decide +kernel
theorem dX9_init_166 : decode cX9_init 166 = .ok (.iastore, 1) := by decide +kernel
theorem dX9_init_167 : decode cX9_init 167 = .ok (.aload_n 0, 1) := by decide +kernel
theorem dX9_init_168 : decode cX9_init 168 = .ok (.getfield 25, 3) := by decide +kernel
theorem dX9_init_171 : decode cX9_init 171 = .ok (.bipush 8, 2) := by decide +kernel
theorem dX9_init_173 : decode cX9_init 173 = .ok (.iconst 1, 1) := by decide +kernel
theorem dX9_init_174 : decode cX9_init 174 = .ok (.iastore, 1) := by decide +kernel
theorem dX9_init_175 : decode cX9_init 175 = .ok (.aload_n 0, 1) := by decide +kernel
theorem dX9_init_176 : decode cX9_init 176 = .ok (.getfield 25, 3) := by decide +kernel
theorem dX9_init_179 : decode cX9_init 179 = .ok (.bipush 9, 2) := by decide +kernel
theorem dX9_init_181 : decode cX9_init 181 = .ok (.iconst 1, 1) := by decide +kernel
theorem dX9_init_182 : decode cX9_init 182 = .ok (.iastore, 1) := by decide +kernel
theorem dX9_init_183 : decode cX9_init 183 = .ok (.aload_n 0, 1) := by decide +kernel
theorem dX9_init_184 : decode cX9_init 184 = .ok (.getfield 25, 3) := by decide +kernel
theorem dX9_init_187 : decode cX9_init 187 = .ok (.bipush 10, 2) := by decide +kernel
theorem dX9_init_189 : decode cX9_init 189 = .ok (.iconst 2, 1) := by decide +kernel
theorem dX9_init_190 : decode cX9_init 190 = .ok (.iastore, 1) := by decide +kernel
theorem dX9_init_191 : decode cX9_init 191 = .ok (.aload_n 0, 1) := by decide +kernel
theorem dX9_init_192 : decode cX9_init 192 = .ok (.getfield 25, 3) := by decide +kernel
theorem dX9_init_195 : decode cX9_init 195 = .ok (.bipush 11, 2) := by decide +kernel
theorem dX9_init_197 : decode cX9_init 197 = .ok (.iconst 1, 1) := by decide +kernel
theorem dX9_init_198 : decode cX9_init 198 = .ok (.iastore, 1) := by decide +kernel
theorem dX9_init_199 : decode cX9_init 199 = .ok (.return_, 1) := by decide +kernel
theorem dX9_in_0 : decode cX9_in 0 = .ok (.iload_n 0, 1) := by decide +kernel
theorem dX9_in_1 : decode cX9_in 1 = .ok (.iload_n 1, 1) := by decide +kernel
theorem dX9_in_2 : decode cX9_in 2 = .ok (.if_icmp .lt 12, 3) := by decide +kernel
theorem dX9_in_5 : decode cX9_in 5 = .ok (.iload_n 0, 1) := by decide +kernel
theorem dX9_in_6 : decode cX9_in 6 = .ok (.iload_n 2, 1) := by decide +kernel
theorem dX9_in_7 : decode cX9_in 7 = .ok (.if_icmp .gt 7, 3) := by decide +kernel
theorem dX9_in_10 : decode cX9_in 10 = .ok (.iconst 1, 1) := by decide +kernel
theorem dX9_in_11 : decode cX9_in 11 = .ok (.goto 4, 3) := by decide +kernel
theorem dX9_in_14 : decode cX9_in 14 = .ok (.iconst 0, 1) := by decide +kernel
theorem dX9_in_15 : decode cX9_in 15 = .ok (.ireturn, 1) := by decide +kernel
theorem dX9_no_0 : decode cX9_no 0 = .ok (.ldc2_w 53, 3) := by decide +kernel
theorem dX9_no_3 : decode cX9_no 3 = .ok (.iload_n 0, 1) := by decide +kernel
theorem dX9_no_4 : decode cX9_no 4 = .ok (.i2l, 1) := by decide +kernel
theorem dX9_no_5 : decode cX9_no 5 = .ok (.lsub, 1) := by decide +kernel
theorem dX9_no_6 : decode cX9_no 6 = .ok (.lreturn, 1) := by decide +kernel
theorem dX9_lowest_0 : decode cX9_lowest 0 = .ok (.lload_n 0, 1) := by decide +kernel
theorem dX9_lowest_1 : decode cX9_lowest 1 = .ok (.lstore 5, 2) := by decide +kernel
theorem dX9_lowest_3 : decode cX9_lowest 3 = .ok (.lload_n 2, 1) := by decide +kernel
theorem dX9_lowest_4 : decode cX9_lowest 4 = .ok (.lstore 7, 2) := by decide +kernel
theorem dX9_lowest_6 : decode cX9_lowest 6 = .ok (.lload 7, 2) := by decide +kernel
theorem dX9_lowest_8 : decode cX9_lowest 8 = .ok (.lconst 0, 1) := by decide +kernel
theorem dX9_lowest_9 : decode cX9_lowest 9 = .ok (.lcmp, 1) := by decide +kernel
theorem dX9_lowest_10 : decode cX9_lowest 10 = .ok (.ifCond .eq 21, 3) := by decide +kernel
theorem dX9_lowest_13 : decode cX9_lowest 13 = .ok (.lload 5, 2) := by decide +kernel
theorem dX9_lowest_15 : decode cX9_lowest 15 = .ok (.lload 7, 2) := by decide +kernel
theorem dX9_lowest_17 : decode cX9_lowest 17 = .ok (.lrem, 1) := by decide +kernel
theorem dX9_lowest_18 : decode cX9_lowest 18 = .ok (.lstore 9, 2) := by decide +kernel
theorem dX9_lowest_20 : decode cX9_lowest 20 = .ok (.lload 7, 2) := by decide +kernel
theorem dX9_lowest_22 : decode cX9_lowest 22 = .ok (.lstore 5, 2) := by decide +kernel
theorem dX9_lowest_24 : decode cX9_lowest 24 = .ok (.lload 9, 2) := by decide +kernel
theorem dX9_lowest_26 : decode cX9_lowest 26 = .ok (.lstore 7, 2) := by decide +kernel
theorem dX9_lowest_28 : decode cX9_lowest 28 = .ok (.goto (-22), 3) := by decide +kernel
theorem dX9_lowest_31 : decode cX9_lowest 31 = .ok (.iload 4, 2) := by decide +kernel
theorem dX9_lowest_33 : decode cX9_lowest 33 = .ok (.ifCond .ne 10, 3) := by decide +kernel
theorem dX9_lowest_36 : decode cX9_lowest 36 = .ok (.lload_n 0, 1) := by decide +kernel
theorem dX9_lowest_37 : decode cX9_lowest 37 = .ok (.lload 5, 2) := by decide +kernel
theorem dX9_lowest_39 : decode cX9_lowest 39 = .ok (.ldiv, 1) := by decide +kernel
theorem dX9_lowest_40 : decode cX9_lowest 40 = .ok (.goto 7, 3) := by decide +kernel
theorem dX9_lowest_43 : decode cX9_lowest 43 = .ok (.lload_n 2, 1) := by decide +kernel
theorem dX9_lowest_44 : decode cX9_lowest 44 = .ok (.lload 5, 2) := by decide +kernel
theorem dX9_lowest_46 : decode cX9_lowest 46 = .ok (.ldiv, 1) := by decide +kernel
theorem dX9_lowest_47 : decode cX9_lowest 47 = .ok (.lreturn, 1) := by decide +kernel
theorem dX9_isText_0 : decode cX9_isText 0 = .ok (.iload_n 0, 1) := by decide +kernel
theorem dX9_isText_1 : decode cX9_isText 1 = .ok (.iconst 0, 1) := by decide +kernel
theorem dX9_isText_2 : decode cX9_isText 2 = .ok (.iconst 1, 1) := by decide +kernel
theorem dX9_isText_3 : decode cX9_isText 3 = .ok (.invokestatic 55, 3) := by decide +kernel
theorem dX9_isText_6 : decode cX9_isText 6 = .ok (.ireturn, 1) := by decide +kernel
theorem dX9_isTenth_0 : decode cX9_isTenth 0 = .ok (.iload_n 0, 1) := by decide +kernel
theorem dX9_isTenth_1 : decode cX9_isTenth 1 = .ok (.iconst 0, 1) := by decide +kernel
theorem dX9_isTenth_2 : decode cX9_isTenth 2 = .ok (.sipush 399, 3) := by decide +kernel
theorem dX9_isTenth_5 : decode cX9_isTenth 5 = .ok (.invokestatic 55, 3) := by decide +kernel
theorem dX9_isTenth_8 : decode cX9_isTenth 8 = .ok (.ireturn, 1) := by decide +kernel
theorem dX9_type_0 : decode cX9_type 0 = .ok (.iload_n 1, 1) := by decide +kernel
theorem dX9_type_1 : decode cX9_type 1 = .ok (.invokestatic 59, 3) := by decide +kernel
theorem dX9_type_4 : decode cX9_type 4 = .ok (.ifCond .eq 14, 3) := by decide +kernel
theorem dX9_type_7 : decode cX9_type 7 = .ok (.iload_n 2, 1) := by decide +kernel
theorem dX9_type_8 : decode cX9_type 8 = .ok (.iconst 0, 1) := by decide +kernel
theorem dX9_type_9 : decode cX9_type 9 = .ok (.sipush 255, 3) := by decide +kernel
theorem dX9_type_12 : decode cX9_type 12 = .ok (.invokestatic 55, 3) := by decide +kernel
theorem dX9_type_15 : decode cX9_type 15 = .ok (.ifCond .ne 6, 3) := by decide +kernel
theorem dX9_type_18 : decode cX9_type 18 = .ok (.bipush (-2), 2) := by decide +kernel
theorem dX9_type_20 : decode cX9_type 20 = .ok (.ireturn, 1) := by decide +kernel
theorem dX9_type_21 : decode cX9_type 21 = .ok (.aload_n 0, 1) := by decide +kernel
theorem dX9_type_22 : decode cX9_type 22 = .ok (.getfield 7, 3) := by decide +kernel
theorem dX9_type_25 : decode cX9_type 25 = .ok (.iload_n 1, 1) := by decide +kernel
theorem dX9_type_26 : decode cX9_type 26 = .ok (.iaload, 1) := by decide +kernel
theorem dX9_type_27 : decode cX9_type 27 = .ok (.iload_n 1, 1) := by decide +kernel
theorem dX9_type_28 : decode cX9_type 28 = .ok (.ifCond .ne 8, 3) := by decide +kernel
theorem dX9_type_31 : decode cX9_type 31 = .ok (.bipush 23, 2) := by decide +kernel
theorem dX9_type_33 : decode cX9_type 33 = .ok (.goto 4, 3) := by decide +kernel
theorem dX9_type_36 : decode cX9_type 36 = .ok (.iconst 3, 1) := by decide +kernel
theorem dX9_type_37 : decode cX9_type 37 = .ok (.if_icmp .ne 6, 3) := by decide +kernel
theorem dX9_type_40 : decode cX9_type 40 = .ok (.bipush (-4), 2) := by decide +kernel
theorem dX9_type_42 : decode cX9_type 42 = .ok (.ireturn, 1) := by decide +kernel
theorem dX9_type_43 : decode cX9_type 43 = .ok (.aload_n 0, 1) := by decide +kernel
theorem dX9_type_44 : decode cX9_type 44 = .ok (.getfield 13, 3) := by decide +kernel
theorem dX9_type_47 : decode cX9_type 47 = .ok (.bipush 23, 2) := by decide +kernel
theorem dX9_type_49 : decode cX9_type 49 = .ok (.iload_n 1, 1) := by decide +kernel
theorem dX9_type_50 : decode cX9_type 50 = .ok (.imul, 1) := by decide +kernel
theorem dX9_type_51 : decode cX9_type 51 = .ok (.aload_n 0, 1) := by decide +kernel
theorem dX9_type_52 : decode cX9_type 52 = .ok (.getfield 7, 3) := by decide +kernel
theorem dX9_type_55 : decode cX9_type 55 = .ok (.iload_n 1, 1) := by decide +kernel
theorem dX9_type_56 : decode cX9_type 56 = .ok (.iaload, 1) := by decide +kernel
theorem dX9_type_57 : decode cX9_type 57 = .ok (.iadd, 1) := by decide +kernel
theorem dX9_type_58 : decode cX9_type 58 = .ok (.iload_n 2, 1) := by decide +kernel
theorem dX9_type_59 : decode cX9_type 59 = .ok (.iastore, 1) := by decide +kernel
theorem dX9_type_60 : decode cX9_type 60 = .ok (.aload_n 0, 1) := by decide +kernel
theorem dX9_type_61 : decode cX9_type 61 = .ok (.getfield 7, 3) := by decide +kernel
theorem dX9_type_64 : decode cX9_type 64 = .ok (.iload_n 1, 1) := by decide +kernel
theorem dX9_type_65 : decode cX9_type 65 = .ok (.dup2, 1) := by decide +kernel
theorem dX9_type_66 : decode cX9_type 66 = .ok (.iaload, 1) := by decide +kernel
theorem dX9_type_67 : decode cX9_type 67 = .ok (.iconst 1, 1) := by decide +kernel
theorem dX9_type_68 : decode cX9_type 68 = .ok (.iadd, 1) := by decide +kernel
theorem dX9_type_69 : decode cX9_type 69 = .ok (.iastore, 1) := by decide +kernel
theorem dX9_type_70 : decode cX9_type 70 = .ok (.aload_n 0, 1) := by decide +kernel
theorem dX9_type_71 : decode cX9_type 71 = .ok (.getfield 7, 3) := by decide +kernel
theorem dX9_type_74 : decode cX9_type 74 = .ok (.iload_n 1, 1) := by decide +kernel
theorem dX9_type_75 : decode cX9_type 75 = .ok (.iaload, 1) := by decide +kernel
theorem dX9_type_76 : decode cX9_type 76 = .ok (.ireturn, 1) := by decide +kernel
theorem dX9_wipe_0 : decode cX9_wipe 0 = .ok (.iload_n 1, 1) := by decide +kernel
theorem dX9_wipe_1 : decode cX9_wipe 1 = .ok (.invokestatic 59, 3) := by decide +kernel
theorem dX9_wipe_4 : decode cX9_wipe 4 = .ok (.ifCond .ne 6, 3) := by decide +kernel
theorem dX9_wipe_7 : decode cX9_wipe 7 = .ok (.bipush (-2), 2) := by decide +kernel
theorem dX9_wipe_9 : decode cX9_wipe 9 = .ok (.ireturn, 1) := by decide +kernel
theorem dX9_wipe_10 : decode cX9_wipe 10 = .ok (.aload_n 0, 1) := by decide +kernel
theorem dX9_wipe_11 : decode cX9_wipe 11 = .ok (.getfield 7, 3) := by decide +kernel
theorem dX9_wipe_14 : decode cX9_wipe 14 = .ok (.iload_n 1, 1) := by decide +kernel
theorem dX9_wipe_15 : decode cX9_wipe 15 = .ok (.iaload, 1) := by decide +kernel
theorem dX9_wipe_16 : decode cX9_wipe 16 = .ok (.istore_n 2, 1) := by decide +kernel
theorem dX9_wipe_17 : decode cX9_wipe 17 = .ok (.aload_n 0, 1) := by decide +kernel
theorem dX9_wipe_18 : decode cX9_wipe 18 = .ok (.getfield 7, 3) := by decide +kernel
theorem dX9_wipe_21 : decode cX9_wipe 21 = .ok (.iload_n 1, 1) := by decide +kernel
theorem dX9_wipe_22 : decode cX9_wipe 22 = .ok (.iconst 0, 1) := by decide +kernel
theorem dX9_wipe_23 : decode cX9_wipe 23 = .ok (.iastore, 1) := by decide +kernel
theorem dX9_wipe_24 : decode cX9_wipe 24 = .ok (.iload_n 2, 1) := by decide +kernel
theorem dX9_wipe_25 : decode cX9_wipe 25 = .ok (.ireturn, 1) := by decide +kernel
theorem dX9_undo_0 : decode cX9_undo 0 = .ok (.iload_n 1, 1) := by decide +kernel
theorem dX9_undo_1 : decode cX9_undo 1 = .ok (.invokestatic 59, 3) := by decide +kernel
theorem dX9_undo_4 : decode cX9_undo 4 = .ok (.ifCond .ne 6, 3) := by decide +kernel
theorem dX9_undo_7 : decode cX9_undo 7 = .ok (.bipush (-2), 2) := by decide +kernel
theorem dX9_undo_9 : decode cX9_undo 9 = .ok (.ireturn, 1) := by decide +kernel
theorem dX9_undo_10 : decode cX9_undo 10 = .ok (.aload_n 0, 1) := by decide +kernel
theorem dX9_undo_11 : decode cX9_undo 11 = .ok (.getfield 7, 3) := by decide +kernel
theorem dX9_undo_14 : decode cX9_undo 14 = .ok (.iload_n 1, 1) := by decide +kernel
theorem dX9_undo_15 : decode cX9_undo 15 = .ok (.iaload, 1) := by decide +kernel
theorem dX9_undo_16 : decode cX9_undo 16 = .ok (.ifCond .ne 6, 3) := by decide +kernel
theorem dX9_undo_19 : decode cX9_undo 19 = .ok (.bipush (-3), 2) := by decide +kernel
theorem dX9_undo_21 : decode cX9_undo 21 = .ok (.ireturn, 1) := by decide +kernel
theorem dX9_undo_22 : decode cX9_undo 22 = .ok (.aload_n 0, 1) := by decide +kernel
theorem dX9_undo_23 : decode cX9_undo 23 = .ok (.getfield 7, 3) := by decide +kernel
theorem dX9_undo_26 : decode cX9_undo 26 = .ok (.iload_n 1, 1) := by decide +kernel
theorem dX9_undo_27 : decode cX9_undo 27 = .ok (.dup2, 1) := by decide +kernel
theorem dX9_undo_28 : decode cX9_undo 28 = .ok (.iaload, 1) := by decide +kernel
theorem dX9_undo_29 : decode cX9_undo 29 = .ok (.iconst 1, 1) := by decide +kernel
theorem dX9_undo_30 : decode cX9_undo 30 = .ok (.isub, 1) := by decide +kernel
theorem dX9_undo_31 : decode cX9_undo 31 = .ok (.iastore, 1) := by decide +kernel
theorem dX9_undo_32 : decode cX9_undo 32 = .ok (.aload_n 0, 1) := by decide +kernel
theorem dX9_undo_33 : decode cX9_undo 33 = .ok (.getfield 7, 3) := by decide +kernel
theorem dX9_undo_36 : decode cX9_undo 36 = .ok (.iload_n 1, 1) := by decide +kernel
theorem dX9_undo_37 : decode cX9_undo 37 = .ok (.iaload, 1) := by decide +kernel
theorem dX9_undo_38 : decode cX9_undo 38 = .ok (.ireturn, 1) := by decide +kernel
theorem dX9_figureAt_0 : decode cX9_figureAt 0 = .ok (.iload_n 2, 1) := by decide +kernel
theorem dX9_figureAt_1 : decode cX9_figureAt 1 = .ok (.aload_n 0, 1) := by decide +kernel
theorem dX9_figureAt_2 : decode cX9_figureAt 2 = .ok (.getfield 7, 3) := by decide +kernel
theorem dX9_figureAt_5 : decode cX9_figureAt 5 = .ok (.iload_n 1, 1) := by decide +kernel
theorem dX9_figureAt_6 : decode cX9_figureAt 6 = .ok (.iaload, 1) := by decide +kernel
theorem dX9_figureAt_7 : decode cX9_figureAt 7 = .ok (.if_icmp .ge 20, 3) := by decide +kernel
theorem dX9_figureAt_10 : decode cX9_figureAt 10 = .ok (.aload_n 0, 1) := by decide +kernel
theorem dX9_figureAt_11 : decode cX9_figureAt 11 = .ok (.getfield 13, 3) := by decide +kernel
theorem dX9_figureAt_14 : decode cX9_figureAt 14 = .ok (.bipush 23, 2) := by decide +kernel
theorem dX9_figureAt_16 : decode cX9_figureAt 16 = .ok (.iload_n 1, 1) := by decide +kernel
theorem dX9_figureAt_17 : decode cX9_figureAt 17 = .ok (.imul, 1) := by decide +kernel
theorem dX9_figureAt_18 : decode cX9_figureAt 18 = .ok (.iload_n 2, 1) := by decide +kernel
theorem dX9_figureAt_19 : decode cX9_figureAt 19 = .ok (.iadd, 1) := by decide +kernel
theorem dX9_figureAt_20 : decode cX9_figureAt 20 = .ok (.iaload, 1) := by decide +kernel
theorem dX9_figureAt_21 : decode cX9_figureAt 21 = .ok (.bipush 48, 2) := by decide +kernel
theorem dX9_figureAt_23 : decode cX9_figureAt 23 = .ok (.isub, 1) := by decide +kernel
theorem dX9_figureAt_24 : decode cX9_figureAt 24 = .ok (.goto 4, 3) := by decide +kernel
theorem dX9_figureAt_27 : decode cX9_figureAt 27 = .ok (.iconst (-1), 1) := by decide +kernel
theorem dX9_figureAt_28 : decode cX9_figureAt 28 = .ok (.istore_n 3, 1) := by decide +kernel
theorem dX9_figureAt_29 : decode cX9_figureAt 29 = .ok (.iload_n 3, 1) := by decide +kernel
theorem dX9_figureAt_30 : decode cX9_figureAt 30 = .ok (.iconst 0, 1) := by decide +kernel
theorem dX9_figureAt_31 : decode cX9_figureAt 31 = .ok (.bipush 9, 2) := by decide +kernel
theorem dX9_figureAt_33 : decode cX9_figureAt 33 = .ok (.invokestatic 55, 3) := by decide +kernel
theorem dX9_figureAt_36 : decode cX9_figureAt 36 = .ok (.ifCond .eq 7, 3) := by decide +kernel
theorem dX9_figureAt_39 : decode cX9_figureAt 39 = .ok (.iload_n 3, 1) := by decide +kernel
theorem dX9_figureAt_40 : decode cX9_figureAt 40 = .ok (.goto 4, 3) := by decide +kernel
theorem dX9_figureAt_43 : decode cX9_figureAt 43 = .ok (.iconst (-1), 1) := by decide +kernel
theorem dX9_figureAt_44 : decode cX9_figureAt 44 = .ok (.ireturn, 1) := by decide +kernel
theorem dX9_readsText_0 : decode cX9_readsText 0 = .ok (.iload_n 1, 1) := by decide +kernel
theorem dX9_readsText_1 : decode cX9_readsText 1 = .ok (.ifCond .ne 8, 3) := by decide +kernel
theorem dX9_readsText_4 : decode cX9_readsText 4 = .ok (.bipush 6, 2) := by decide +kernel
theorem dX9_readsText_6 : decode cX9_readsText 6 = .ok (.goto 4, 3) := by decide +kernel
theorem dX9_readsText_9 : decode cX9_readsText 9 = .ok (.iconst 1, 1) := by decide +kernel
theorem dX9_readsText_10 : decode cX9_readsText 10 = .ok (.istore_n 2, 1) := by decide +kernel
theorem dX9_readsText_11 : decode cX9_readsText 11 = .ok (.iconst 0, 1) := by decide +kernel
theorem dX9_readsText_12 : decode cX9_readsText 12 = .ok (.istore_n 3, 1) := by decide +kernel
theorem dX9_readsText_13 : decode cX9_readsText 13 = .ok (.iconst 0, 1) := by decide +kernel
theorem dX9_readsText_14 : decode cX9_readsText 14 = .ok (.istore 4, 2) := by decide +kernel
theorem dX9_readsText_16 : decode cX9_readsText 16 = .ok (.aload_n 0, 1) := by decide +kernel
theorem dX9_readsText_17 : decode cX9_readsText 17 = .ok (.iload_n 1, 1) := by decide +kernel
theorem dX9_readsText_18 : decode cX9_readsText 18 = .ok (.ifCond .ne 7, 3) := by decide +kernel
theorem dX9_readsText_21 : decode cX9_readsText 21 = .ok (.iconst 0, 1) := by decide +kernel
theorem dX9_readsText_22 : decode cX9_readsText 22 = .ok (.goto 7, 3) := by decide +kernel
theorem dX9_readsText_25 : decode cX9_readsText 25 = .ok (.aload_n 0, 1) := by decide +kernel
theorem dX9_readsText_26 : decode cX9_readsText 26 = .ok (.getfield 63, 3) := by decide +kernel
theorem dX9_readsText_29 : decode cX9_readsText 29 = .ok (.putfield 63, 3) := by decide +kernel
theorem dX9_readsText_32 : decode cX9_readsText 32 = .ok (.aload_n 0, 1) := by decide +kernel
theorem dX9_readsText_33 : decode cX9_readsText 33 = .ok (.iload_n 1, 1) := by decide +kernel
theorem dX9_readsText_34 : decode cX9_readsText 34 = .ok (.iconst 1, 1) := by decide +kernel
theorem dX9_readsText_35 : decode cX9_readsText 35 = .ok (.if_icmp .ne 7, 3) := by decide +kernel
theorem dX9_readsText_38 : decode cX9_readsText 38 = .ok (.iconst 0, 1) := by decide +kernel
theorem dX9_readsText_39 : decode cX9_readsText 39 = .ok (.goto 7, 3) := by decide +kernel
theorem dX9_readsText_42 : decode cX9_readsText 42 = .ok (.aload_n 0, 1) := by decide +kernel
theorem dX9_readsText_43 : decode cX9_readsText 43 = .ok (.getfield 67, 3) := by decide +kernel
theorem dX9_readsText_46 : decode cX9_readsText 46 = .ok (.putfield 67, 3) := by decide +kernel
theorem dX9_readsText_49 : decode cX9_readsText 49 = .ok (.iload 4, 2) := by decide +kernel
theorem dX9_readsText_51 : decode cX9_readsText 51 = .ok (.aload_n 0, 1) := by decide +kernel
theorem dX9_readsText_52 : decode cX9_readsText 52 = .ok (.getfield 7, 3) := by decide +kernel
theorem dX9_readsText_55 : decode cX9_readsText 55 = .ok (.iload_n 1, 1) := by decide +kernel
theorem dX9_readsText_56 : decode cX9_readsText 56 = .ok (.iaload, 1) := by decide +kernel
theorem dX9_readsText_57 : decode cX9_readsText 57 = .ok (.if_icmp .lt 8, 3) := by decide +kernel
theorem dX9_readsText_60 : decode cX9_readsText 60 = .ok (.iload 4, 2) := by decide +kernel
theorem dX9_readsText_62 : decode cX9_readsText 62 = .ok (.ifCond .le 216, 3) := by decide +kernel
theorem dX9_readsText_65 : decode cX9_readsText 65 = .ok (.iconst 0, 1) := by decide +kernel
theorem dX9_readsText_66 : decode cX9_readsText 66 = .ok (.istore 5, 2) := by decide +kernel
theorem dX9_readsText_68 : decode cX9_readsText 68 = .ok (.iload_n 3, 1) := by decide +kernel
theorem dX9_readsText_69 : decode cX9_readsText 69 = .ok (.iload_n 2, 1) := by decide +kernel
theorem dX9_readsText_70 : decode cX9_readsText 70 = .ok (.if_icmp .ge 29, 3) := by decide +kernel
theorem dX9_readsText_73 : decode cX9_readsText 73 = .ok (.iload 5, 2) := by decide +kernel
theorem dX9_readsText_75 : decode cX9_readsText 75 = .ok (.iconst 3, 1) := by decide +kernel
theorem dX9_readsText_76 : decode cX9_readsText 76 = .ok (.if_icmp .ge 23, 3) := by decide +kernel
theorem dX9_readsText_79 : decode cX9_readsText 79 = .ok (.aload_n 0, 1) := by decide +kernel
theorem dX9_readsText_80 : decode cX9_readsText 80 = .ok (.iload_n 1, 1) := by decide +kernel
theorem dX9_readsText_81 : decode cX9_readsText 81 = .ok (.iload 4, 2) := by decide +kernel
theorem dX9_readsText_83 : decode cX9_readsText 83 = .ok (.iload 5, 2) := by decide +kernel
theorem dX9_readsText_85 : decode cX9_readsText 85 = .ok (.iadd, 1) := by decide +kernel
theorem dX9_readsText_86 : decode cX9_readsText 86 = .ok (.invokevirtual 70, 3) := by decide +kernel
theorem dX9_readsText_89 : decode cX9_readsText 89 = .ok (.iconst (-1), 1) := by decide +kernel
theorem dX9_readsText_90 : decode cX9_readsText 90 = .ok (.if_icmp .eq 9, 3) := by decide +kernel
theorem dX9_readsText_93 : decode cX9_readsText 93 = .ok (.iinc 5 1, 3) := by decide +kernel
theorem dX9_readsText_96 : decode cX9_readsText 96 = .ok (.goto (-28), 3) := by decide +kernel
theorem dX9_readsText_99 : decode cX9_readsText 99 = .ok (.iload 5, 2) := by decide +kernel
theorem dX9_readsText_101 : decode cX9_readsText 101 = .ok (.iconst 3, 1) := by decide +kernel
theorem dX9_readsText_102 : decode cX9_readsText 102 = .ok (.if_icmp .ne 28, 3) := by decide +kernel
theorem dX9_readsText_105 : decode cX9_readsText 105 = .ok (.bipush 10, 2) := by decide +kernel
theorem dX9_readsText_107 : decode cX9_readsText 107 = .ok (.aload_n 0, 1) := by decide +kernel
theorem dX9_readsText_108 : decode cX9_readsText 108 = .ok (.iload_n 1, 1) := by decide +kernel
theorem dX9_readsText_109 : decode cX9_readsText 109 = .ok (.iload 4, 2) := by decide +kernel
theorem dX9_readsText_111 : decode cX9_readsText 111 = .ok (.iconst 1, 1) := by decide +kernel
theorem dX9_readsText_112 : decode cX9_readsText 112 = .ok (.iadd, 1) := by decide +kernel
theorem dX9_readsText_113 : decode cX9_readsText 113 = .ok (.invokevirtual 70, 3) := by decide +kernel
theorem dX9_readsText_116 : decode cX9_readsText 116 = .ok (.imul, 1) := by decide +kernel
theorem dX9_readsText_117 : decode cX9_readsText 117 = .ok (.aload_n 0, 1) := by decide +kernel
theorem dX9_readsText_118 : decode cX9_readsText 118 = .ok (.iload_n 1, 1) := by decide +kernel
theorem dX9_readsText_119 : decode cX9_readsText 119 = .ok (.iload 4, 2) := by decide +kernel
theorem dX9_readsText_121 : decode cX9_readsText 121 = .ok (.iconst 2, 1) := by decide +kernel
theorem dX9_readsText_122 : decode cX9_readsText 122 = .ok (.iadd, 1) := by decide +kernel
theorem dX9_readsText_123 : decode cX9_readsText 123 = .ok (.invokevirtual 70, 3) := by decide +kernel
theorem dX9_readsText_126 : decode cX9_readsText 126 = .ok (.iadd, 1) := by decide +kernel
theorem dX9_readsText_127 : decode cX9_readsText 127 = .ok (.goto 4, 3) := by decide +kernel
theorem dX9_readsText_130 : decode cX9_readsText 130 = .ok (.iconst 0, 1) := by decide +kernel
theorem dX9_readsText_131 : decode cX9_readsText 131 = .ok (.istore 6, 2) := by decide +kernel
theorem dX9_readsText_133 : decode cX9_readsText 133 = .ok (.iload 5, 2) := by decide +kernel
theorem dX9_readsText_135 : decode cX9_readsText 135 = .ok (.iconst 3, 1) := by decide +kernel
theorem dX9_readsText_136 : decode cX9_readsText 136 = .ok (.if_icmp .lt 9, 3) := by decide +kernel
theorem dX9_readsText_139 : decode cX9_readsText 139 = .ok (.iload 6, 2) := by decide +kernel
theorem dX9_readsText_141 : decode cX9_readsText 141 = .ok (.iconst 2, 1) := by decide +kernel
theorem dX9_readsText_142 : decode cX9_readsText 142 = .ok (.if_icmp .ge 19, 3) := by decide +kernel
theorem dX9_readsText_145 : decode cX9_readsText 145 = .ok (.iload 4, 2) := by decide +kernel
theorem dX9_readsText_147 : decode cX9_readsText 147 = .ok (.iload 5, 2) := by decide +kernel
theorem dX9_readsText_149 : decode cX9_readsText 149 = .ok (.iconst 3, 1) := by decide +kernel
theorem dX9_readsText_150 : decode cX9_readsText 150 = .ok (.if_icmp .ge 8, 3) := by decide +kernel
theorem dX9_readsText_153 : decode cX9_readsText 153 = .ok (.iload 5, 2) := by decide +kernel
theorem dX9_readsText_155 : decode cX9_readsText 155 = .ok (.goto 4, 3) := by decide +kernel
theorem dX9_readsText_158 : decode cX9_readsText 158 = .ok (.iconst 2, 1) := by decide +kernel
theorem dX9_readsText_159 : decode cX9_readsText 159 = .ok (.iadd, 1) := by decide +kernel
theorem dX9_readsText_160 : decode cX9_readsText 160 = .ok (.ireturn, 1) := by decide +kernel
theorem dX9_readsText_161 : decode cX9_readsText 161 = .ok (.aload_n 0, 1) := by decide +kernel
theorem dX9_readsText_162 : decode cX9_readsText 162 = .ok (.getfield 16, 3) := by decide +kernel
theorem dX9_readsText_165 : decode cX9_readsText 165 = .ok (.iload_n 1, 1) := by decide +kernel
theorem dX9_readsText_166 : decode cX9_readsText 166 = .ok (.ifCond .ne 7, 3) := by decide +kernel
theorem dX9_readsText_169 : decode cX9_readsText 169 = .ok (.iload_n 3, 1) := by decide +kernel
theorem dX9_readsText_170 : decode cX9_readsText 170 = .ok (.goto 5, 3) := by decide +kernel
theorem dX9_readsText_173 : decode cX9_readsText 173 = .ok (.bipush 6, 2) := by decide +kernel
theorem dX9_readsText_175 : decode cX9_readsText 175 = .ok (.aload_n 0, 1) := by decide +kernel
theorem dX9_readsText_176 : decode cX9_readsText 176 = .ok (.iload_n 1, 1) := by decide +kernel
theorem dX9_readsText_177 : decode cX9_readsText 177 = .ok (.iload 4, 2) := by decide +kernel
theorem dX9_readsText_179 : decode cX9_readsText 179 = .ok (.invokevirtual 70, 3) := by decide +kernel
theorem dX9_readsText_182 : decode cX9_readsText 182 = .ok (.iastore, 1) := by decide +kernel
theorem dX9_readsText_183 : decode cX9_readsText 183 = .ok (.aload_n 0, 1) := by decide +kernel
theorem dX9_readsText_184 : decode cX9_readsText 184 = .ok (.getfield 19, 3) := by decide +kernel
theorem dX9_readsText_187 : decode cX9_readsText 187 = .ok (.iload_n 1, 1) := by decide +kernel
theorem dX9_readsText_188 : decode cX9_readsText 188 = .ok (.ifCond .ne 7, 3) := by decide +kernel
theorem dX9_readsText_191 : decode cX9_readsText 191 = .ok (.iload_n 3, 1) := by decide +kernel
theorem dX9_readsText_192 : decode cX9_readsText 192 = .ok (.goto 5, 3) := by decide +kernel
theorem dX9_readsText_195 : decode cX9_readsText 195 = .ok (.bipush 6, 2) := by decide +kernel
theorem dX9_readsText_197 : decode cX9_readsText 197 = .ok (.iload 6, 2) := by decide +kernel
theorem dX9_readsText_199 : decode cX9_readsText 199 = .ok (.iastore, 1) := by decide +kernel
theorem dX9_readsText_200 : decode cX9_readsText 200 = .ok (.iinc 3 1, 3) := by decide +kernel
theorem dX9_readsText_203 : decode cX9_readsText 203 = .ok (.iinc 4 3, 3) := by decide +kernel
theorem dX9_readsText_206 : decode cX9_readsText 206 = .ok (.iload 4, 2) := by decide +kernel
theorem dX9_readsText_208 : decode cX9_readsText 208 = .ok (.aload_n 0, 1) := by decide +kernel
theorem dX9_readsText_209 : decode cX9_readsText 209 = .ok (.getfield 7, 3) := by decide +kernel
theorem dX9_readsText_212 : decode cX9_readsText 212 = .ok (.iload_n 1, 1) := by decide +kernel
theorem dX9_readsText_213 : decode cX9_readsText 213 = .ok (.iaload, 1) := by decide +kernel
theorem dX9_readsText_214 : decode cX9_readsText 214 = .ok (.if_icmp .ne 38, 3) := by decide +kernel
theorem dX9_readsText_217 : decode cX9_readsText 217 = .ok (.aload_n 0, 1) := by decide +kernel
theorem dX9_readsText_218 : decode cX9_readsText 218 = .ok (.iload_n 1, 1) := by decide +kernel
theorem dX9_readsText_219 : decode cX9_readsText 219 = .ok (.ifCond .ne 7, 3) := by decide +kernel
theorem dX9_readsText_222 : decode cX9_readsText 222 = .ok (.iload_n 3, 1) := by decide +kernel
theorem dX9_readsText_223 : decode cX9_readsText 223 = .ok (.goto 7, 3) := by decide +kernel
theorem dX9_readsText_226 : decode cX9_readsText 226 = .ok (.aload_n 0, 1) := by decide +kernel
theorem dX9_readsText_227 : decode cX9_readsText 227 = .ok (.getfield 63, 3) := by decide +kernel
theorem dX9_readsText_230 : decode cX9_readsText 230 = .ok (.putfield 63, 3) := by decide +kernel
theorem dX9_readsText_233 : decode cX9_readsText 233 = .ok (.aload_n 0, 1) := by decide +kernel
theorem dX9_readsText_234 : decode cX9_readsText 234 = .ok (.iload_n 1, 1) := by decide +kernel
theorem dX9_readsText_235 : decode cX9_readsText 235 = .ok (.iconst 1, 1) := by decide +kernel
theorem dX9_readsText_236 : decode cX9_readsText 236 = .ok (.if_icmp .ne 7, 3) := by decide +kernel
theorem dX9_readsText_239 : decode cX9_readsText 239 = .ok (.iload_n 3, 1) := by decide +kernel
theorem dX9_readsText_240 : decode cX9_readsText 240 = .ok (.goto 7, 3) := by decide +kernel
theorem dX9_readsText_243 : decode cX9_readsText 243 = .ok (.aload_n 0, 1) := by decide +kernel
theorem dX9_readsText_244 : decode cX9_readsText 244 = .ok (.getfield 67, 3) := by decide +kernel
theorem dX9_readsText_247 : decode cX9_readsText 247 = .ok (.putfield 67, 3) := by decide +kernel
theorem dX9_readsText_250 : decode cX9_readsText 250 = .ok (.iconst (-1), 1) := by decide +kernel
theorem dX9_readsText_251 : decode cX9_readsText 251 = .ok (.ireturn, 1) := by decide +kernel
theorem dX9_readsText_252 : decode cX9_readsText 252 = .ok (.aload_n 0, 1) := by decide +kernel
theorem dX9_readsText_253 : decode cX9_readsText 253 = .ok (.getfield 13, 3) := by decide +kernel
theorem dX9_readsText_256 : decode cX9_readsText 256 = .ok (.bipush 23, 2) := by decide +kernel
theorem dX9_readsText_258 : decode cX9_readsText 258 = .ok (.iload_n 1, 1) := by decide +kernel
theorem dX9_readsText_259 : decode cX9_readsText 259 = .ok (.imul, 1) := by decide +kernel
theorem dX9_readsText_260 : decode cX9_readsText 260 = .ok (.iload 4, 2) := by decide +kernel
theorem dX9_readsText_262 : decode cX9_readsText 262 = .ok (.iadd, 1) := by decide +kernel
theorem dX9_readsText_263 : decode cX9_readsText 263 = .ok (.iaload, 1) := by decide +kernel
theorem dX9_readsText_264 : decode cX9_readsText 264 = .ok (.bipush 59, 2) := by decide +kernel
theorem dX9_readsText_266 : decode cX9_readsText 266 = .ok (.if_icmp .eq 6, 3) := by decide +kernel
theorem dX9_readsText_269 : decode cX9_readsText 269 = .ok (.iload 4, 2) := by decide +kernel
theorem dX9_readsText_271 : decode cX9_readsText 271 = .ok (.ireturn, 1) := by decide +kernel
theorem dX9_readsText_272 : decode cX9_readsText 272 = .ok (.iinc 4 1, 3) := by decide +kernel
theorem dX9_readsText_275 : decode cX9_readsText 275 = .ok (.goto (-226), 3) := by decide +kernel
theorem dX9_readsText_278 : decode cX9_readsText 278 = .ok (.iconst (-1), 1) := by decide +kernel
theorem dX9_readsText_279 : decode cX9_readsText 279 = .ok (.ireturn, 1) := by decide +kernel
theorem dX9_faultOf_0 : decode cX9_faultOf 0 = .ok (.aload_n 0, 1) := by decide +kernel
theorem dX9_faultOf_1 : decode cX9_faultOf 1 = .ok (.iconst 0, 1) := by decide +kernel
theorem dX9_faultOf_2 : decode cX9_faultOf 2 = .ok (.invokevirtual 74, 3) := by decide +kernel
theorem dX9_faultOf_5 : decode cX9_faultOf 5 = .ok (.istore_n 2, 1) := by decide +kernel
theorem dX9_faultOf_6 : decode cX9_faultOf 6 = .ok (.aload_n 0, 1) := by decide +kernel
theorem dX9_faultOf_7 : decode cX9_faultOf 7 = .ok (.iconst 1, 1) := by decide +kernel
theorem dX9_faultOf_8 : decode cX9_faultOf 8 = .ok (.invokevirtual 74, 3) := by decide +kernel
theorem dX9_faultOf_11 : decode cX9_faultOf 11 = .ok (.istore_n 3, 1) := by decide +kernel
theorem dX9_faultOf_12 : decode cX9_faultOf 12 = .ok (.iload_n 1, 1) := by decide +kernel
theorem dX9_faultOf_13 : decode cX9_faultOf 13 = .ok (.ifCond .ne 7, 3) := by decide +kernel
theorem dX9_faultOf_16 : decode cX9_faultOf 16 = .ok (.iload_n 2, 1) := by decide +kernel
theorem dX9_faultOf_17 : decode cX9_faultOf 17 = .ok (.goto 4, 3) := by decide +kernel
theorem dX9_faultOf_20 : decode cX9_faultOf 20 = .ok (.iload_n 3, 1) := by decide +kernel
theorem dX9_faultOf_21 : decode cX9_faultOf 21 = .ok (.ireturn, 1) := by decide +kernel
theorem dX9_reads_0 : decode cX9_reads 0 = .ok (.aload_n 0, 1) := by decide +kernel
theorem dX9_reads_1 : decode cX9_reads 1 = .ok (.iconst 0, 1) := by decide +kernel
theorem dX9_reads_2 : decode cX9_reads 2 = .ok (.invokevirtual 78, 3) := by decide +kernel
theorem dX9_reads_5 : decode cX9_reads 5 = .ok (.istore_n 1, 1) := by decide +kernel
theorem dX9_reads_6 : decode cX9_reads 6 = .ok (.return_, 1) := by decide +kernel
theorem dX9_fault_0 : decode cX9_fault 0 = .ok (.iload_n 1, 1) := by decide +kernel
theorem dX9_fault_1 : decode cX9_fault 1 = .ok (.invokestatic 59, 3) := by decide +kernel
theorem dX9_fault_4 : decode cX9_fault 4 = .ok (.ifCond .eq 11, 3) := by decide +kernel
theorem dX9_fault_7 : decode cX9_fault 7 = .ok (.aload_n 0, 1) := by decide +kernel
theorem dX9_fault_8 : decode cX9_fault 8 = .ok (.iload_n 1, 1) := by decide +kernel
theorem dX9_fault_9 : decode cX9_fault 9 = .ok (.invokevirtual 78, 3) := by decide +kernel
theorem dX9_fault_12 : decode cX9_fault 12 = .ok (.goto 5, 3) := by decide +kernel
theorem dX9_fault_15 : decode cX9_fault 15 = .ok (.bipush (-2), 2) := by decide +kernel
theorem dX9_fault_17 : decode cX9_fault 17 = .ok (.ireturn, 1) := by decide +kernel
theorem dX9_isSwell_0 : decode cX9_isSwell 0 = .ok (.aload_n 0, 1) := by decide +kernel
theorem dX9_isSwell_1 : decode cX9_isSwell 1 = .ok (.invokevirtual 81, 3) := by decide +kernel
theorem dX9_isSwell_4 : decode cX9_isSwell 4 = .ok (.iload_n 1, 1) := by decide +kernel
theorem dX9_isSwell_5 : decode cX9_isSwell 5 = .ok (.iconst 0, 1) := by decide +kernel
theorem dX9_isSwell_6 : decode cX9_isSwell 6 = .ok (.aload_n 0, 1) := by decide +kernel
theorem dX9_isSwell_7 : decode cX9_isSwell 7 = .ok (.getfield 63, 3) := by decide +kernel
theorem dX9_isSwell_10 : decode cX9_isSwell 10 = .ok (.iconst 1, 1) := by decide +kernel
theorem dX9_isSwell_11 : decode cX9_isSwell 11 = .ok (.isub, 1) := by decide +kernel
theorem dX9_isSwell_12 : decode cX9_isSwell 12 = .ok (.invokestatic 55, 3) := by decide +kernel
theorem dX9_isSwell_15 : decode cX9_isSwell 15 = .ok (.ireturn, 1) := by decide +kernel
theorem dX9_swell_0 : decode cX9_swell 0 = .ok (.aload_n 0, 1) := by decide +kernel
theorem dX9_swell_1 : decode cX9_swell 1 = .ok (.iload_n 1, 1) := by decide +kernel
theorem dX9_swell_2 : decode cX9_swell 2 = .ok (.invokevirtual 84, 3) := by decide +kernel
theorem dX9_swell_5 : decode cX9_swell 5 = .ok (.ifCond .eq 34, 3) := by decide +kernel
theorem dX9_swell_8 : decode cX9_swell 8 = .ok (.iload_n 2, 1) := by decide +kernel
theorem dX9_swell_9 : decode cX9_swell 9 = .ok (.iconst 0, 1) := by decide +kernel
theorem dX9_swell_10 : decode cX9_swell 10 = .ok (.iconst 1, 1) := by decide +kernel
theorem dX9_swell_11 : decode cX9_swell 11 = .ok (.invokestatic 55, 3) := by decide +kernel
theorem dX9_swell_14 : decode cX9_swell 14 = .ok (.ifCond .eq 25, 3) := by decide +kernel
theorem dX9_swell_17 : decode cX9_swell 17 = .ok (.iload_n 2, 1) := by decide +kernel
theorem dX9_swell_18 : decode cX9_swell 18 = .ok (.ifCond .ne 12, 3) := by decide +kernel
theorem dX9_swell_21 : decode cX9_swell 21 = .ok (.aload_n 0, 1) := by decide +kernel
theorem dX9_swell_22 : decode cX9_swell 22 = .ok (.getfield 16, 3) := by decide +kernel
theorem dX9_swell_25 : decode cX9_swell 25 = .ok (.iload_n 1, 1) := by decide +kernel
theorem dX9_swell_26 : decode cX9_swell 26 = .ok (.iaload, 1) := by decide +kernel
theorem dX9_swell_27 : decode cX9_swell 27 = .ok (.goto 14, 3) := by decide +kernel
theorem dX9_swell_30 : decode cX9_swell 30 = .ok (.aload_n 0, 1) := by decide +kernel
theorem dX9_swell_31 : decode cX9_swell 31 = .ok (.getfield 19, 3) := by decide +kernel
theorem dX9_swell_34 : decode cX9_swell 34 = .ok (.iload_n 1, 1) := by decide +kernel
theorem dX9_swell_35 : decode cX9_swell 35 = .ok (.iaload, 1) := by decide +kernel
theorem dX9_swell_36 : decode cX9_swell 36 = .ok (.goto 5, 3) := by decide +kernel
theorem dX9_swell_39 : decode cX9_swell 39 = .ok (.bipush (-2), 2) := by decide +kernel
theorem dX9_swell_41 : decode cX9_swell 41 = .ok (.ireturn, 1) := by decide +kernel
theorem dX9_rollOf_0 : decode cX9_rollOf 0 = .ok (.aload_n 0, 1) := by decide +kernel
theorem dX9_rollOf_1 : decode cX9_rollOf 1 = .ok (.invokevirtual 81, 3) := by decide +kernel
theorem dX9_rollOf_4 : decode cX9_rollOf 4 = .ok (.aload_n 0, 1) := by decide +kernel
theorem dX9_rollOf_5 : decode cX9_rollOf 5 = .ok (.getfield 67, 3) := by decide +kernel
theorem dX9_rollOf_8 : decode cX9_rollOf 8 = .ok (.ifCond .ne 7, 3) := by decide +kernel
theorem dX9_rollOf_11 : decode cX9_rollOf 11 = .ok (.iconst (-1), 1) := by decide +kernel
theorem dX9_rollOf_12 : decode cX9_rollOf 12 = .ok (.goto 24, 3) := by decide +kernel
theorem dX9_rollOf_15 : decode cX9_rollOf 15 = .ok (.iload_n 1, 1) := by decide +kernel
theorem dX9_rollOf_16 : decode cX9_rollOf 16 = .ok (.ifCond .ne 13, 3) := by decide +kernel
theorem dX9_rollOf_19 : decode cX9_rollOf 19 = .ok (.aload_n 0, 1) := by decide +kernel
theorem dX9_rollOf_20 : decode cX9_rollOf 20 = .ok (.getfield 16, 3) := by decide +kernel
theorem dX9_rollOf_23 : decode cX9_rollOf 23 = .ok (.bipush 6, 2) := by decide +kernel
theorem dX9_rollOf_25 : decode cX9_rollOf 25 = .ok (.iaload, 1) := by decide +kernel
theorem dX9_rollOf_26 : decode cX9_rollOf 26 = .ok (.goto 10, 3) := by decide +kernel
theorem dX9_rollOf_29 : decode cX9_rollOf 29 = .ok (.aload_n 0, 1) := by decide +kernel
theorem dX9_rollOf_30 : decode cX9_rollOf 30 = .ok (.getfield 19, 3) := by decide +kernel
theorem dX9_rollOf_33 : decode cX9_rollOf 33 = .ok (.bipush 6, 2) := by decide +kernel
theorem dX9_rollOf_35 : decode cX9_rollOf 35 = .ok (.iaload, 1) := by decide +kernel
theorem dX9_rollOf_36 : decode cX9_rollOf 36 = .ok (.ireturn, 1) := by decide +kernel
theorem dX9_roll_0 : decode cX9_roll 0 = .ok (.iload_n 1, 1) := by decide +kernel
theorem dX9_roll_1 : decode cX9_roll 1 = .ok (.iconst 0, 1) := by decide +kernel
theorem dX9_roll_2 : decode cX9_roll 2 = .ok (.iconst 1, 1) := by decide +kernel
theorem dX9_roll_3 : decode cX9_roll 3 = .ok (.invokestatic 55, 3) := by decide +kernel
theorem dX9_roll_6 : decode cX9_roll 6 = .ok (.ifCond .eq 11, 3) := by decide +kernel
theorem dX9_roll_9 : decode cX9_roll 9 = .ok (.aload_n 0, 1) := by decide +kernel
theorem dX9_roll_10 : decode cX9_roll 10 = .ok (.iload_n 1, 1) := by decide +kernel
theorem dX9_roll_11 : decode cX9_roll 11 = .ok (.invokevirtual 87, 3) := by decide +kernel
theorem dX9_roll_14 : decode cX9_roll 14 = .ok (.goto 5, 3) := by decide +kernel
theorem dX9_roll_17 : decode cX9_roll 17 = .ok (.bipush (-2), 2) := by decide +kernel
theorem dX9_roll_19 : decode cX9_roll 19 = .ok (.ireturn, 1) := by decide +kernel
theorem dX9_begins_0 : decode cX9_begins 0 = .ok (.iload_n 1, 1) := by decide +kernel
theorem dX9_begins_1 : decode cX9_begins 1 = .ok (.iconst 0, 1) := by decide +kernel
theorem dX9_begins_2 : decode cX9_begins 2 = .ok (.iconst 5, 1) := by decide +kernel
theorem dX9_begins_3 : decode cX9_begins 3 = .ok (.invokestatic 55, 3) := by decide +kernel
theorem dX9_begins_6 : decode cX9_begins 6 = .ok (.ifCond .eq 13, 3) := by decide +kernel
theorem dX9_begins_9 : decode cX9_begins 9 = .ok (.iload_n 2, 1) := by decide +kernel
theorem dX9_begins_10 : decode cX9_begins 10 = .ok (.iconst 0, 1) := by decide +kernel
theorem dX9_begins_11 : decode cX9_begins 11 = .ok (.bipush 98, 2) := by decide +kernel
theorem dX9_begins_13 : decode cX9_begins 13 = .ok (.invokestatic 55, 3) := by decide +kernel
theorem dX9_begins_16 : decode cX9_begins 16 = .ok (.ifCond .ne 6, 3) := by decide +kernel
theorem dX9_begins_19 : decode cX9_begins 19 = .ok (.bipush (-2), 2) := by decide +kernel
theorem dX9_begins_21 : decode cX9_begins 21 = .ok (.ireturn, 1) := by decide +kernel
theorem dX9_begins_22 : decode cX9_begins 22 = .ok (.aload_n 0, 1) := by decide +kernel
theorem dX9_begins_23 : decode cX9_begins 23 = .ok (.getfield 22, 3) := by decide +kernel
theorem dX9_begins_26 : decode cX9_begins 26 = .ok (.iload_n 1, 1) := by decide +kernel
theorem dX9_begins_27 : decode cX9_begins 27 = .ok (.iaload, 1) := by decide +kernel
theorem dX9_begins_28 : decode cX9_begins 28 = .ok (.istore_n 3, 1) := by decide +kernel
theorem dX9_begins_29 : decode cX9_begins 29 = .ok (.aload_n 0, 1) := by decide +kernel
theorem dX9_begins_30 : decode cX9_begins 30 = .ok (.getfield 22, 3) := by decide +kernel
theorem dX9_begins_33 : decode cX9_begins 33 = .ok (.iload_n 1, 1) := by decide +kernel
theorem dX9_begins_34 : decode cX9_begins 34 = .ok (.iload_n 2, 1) := by decide +kernel
theorem dX9_begins_35 : decode cX9_begins 35 = .ok (.iastore, 1) := by decide +kernel
theorem dX9_begins_36 : decode cX9_begins 36 = .ok (.iload_n 3, 1) := by decide +kernel
theorem dX9_begins_37 : decode cX9_begins 37 = .ok (.ireturn, 1) := by decide +kernel
theorem dX9_lee_0 : decode cX9_lee 0 = .ok (.iload_n 1, 1) := by decide +kernel
theorem dX9_lee_1 : decode cX9_lee 1 = .ok (.iconst 0, 1) := by decide +kernel
theorem dX9_lee_2 : decode cX9_lee 2 = .ok (.iconst 1, 1) := by decide +kernel
theorem dX9_lee_3 : decode cX9_lee 3 = .ok (.invokestatic 55, 3) := by decide +kernel
theorem dX9_lee_6 : decode cX9_lee 6 = .ok (.ifCond .eq 10, 3) := by decide +kernel
theorem dX9_lee_9 : decode cX9_lee 9 = .ok (.iload_n 2, 1) := by decide +kernel
theorem dX9_lee_10 : decode cX9_lee 10 = .ok (.invokestatic 90, 3) := by decide +kernel
theorem dX9_lee_13 : decode cX9_lee 13 = .ok (.ifCond .ne 6, 3) := by decide +kernel
theorem dX9_lee_16 : decode cX9_lee 16 = .ok (.bipush (-2), 2) := by decide +kernel
theorem dX9_lee_18 : decode cX9_lee 18 = .ok (.ireturn, 1) := by decide +kernel
theorem dX9_lee_19 : decode cX9_lee 19 = .ok (.iload_n 1, 1) := by decide +kernel
theorem dX9_lee_20 : decode cX9_lee 20 = .ok (.ifCond .ne 10, 3) := by decide +kernel
theorem dX9_lee_23 : decode cX9_lee 23 = .ok (.aload_n 0, 1) := by decide +kernel
theorem dX9_lee_24 : decode cX9_lee 24 = .ok (.getfield 93, 3) := by decide +kernel
theorem dX9_lee_27 : decode cX9_lee 27 = .ok (.goto 7, 3) := by decide +kernel
theorem dX9_lee_30 : decode cX9_lee 30 = .ok (.aload_n 0, 1) := by decide +kernel
theorem dX9_lee_31 : decode cX9_lee 31 = .ok (.getfield 96, 3) := by decide +kernel
theorem dX9_lee_34 : decode cX9_lee 34 = .ok (.istore_n 3, 1) := by decide +kernel
theorem dX9_lee_35 : decode cX9_lee 35 = .ok (.aload_n 0, 1) := by decide +kernel
theorem dX9_lee_36 : decode cX9_lee 36 = .ok (.iload_n 1, 1) := by decide +kernel
theorem dX9_lee_37 : decode cX9_lee 37 = .ok (.ifCond .ne 7, 3) := by decide +kernel
theorem dX9_lee_40 : decode cX9_lee 40 = .ok (.iload_n 2, 1) := by decide +kernel
theorem dX9_lee_41 : decode cX9_lee 41 = .ok (.goto 7, 3) := by decide +kernel
theorem dX9_lee_44 : decode cX9_lee 44 = .ok (.aload_n 0, 1) := by decide +kernel
theorem dX9_lee_45 : decode cX9_lee 45 = .ok (.getfield 93, 3) := by decide +kernel
theorem dX9_lee_48 : decode cX9_lee 48 = .ok (.putfield 93, 3) := by decide +kernel
theorem dX9_lee_51 : decode cX9_lee 51 = .ok (.aload_n 0, 1) := by decide +kernel
theorem dX9_lee_52 : decode cX9_lee 52 = .ok (.iload_n 1, 1) := by decide +kernel
theorem dX9_lee_53 : decode cX9_lee 53 = .ok (.iconst 1, 1) := by decide +kernel
theorem dX9_lee_54 : decode cX9_lee 54 = .ok (.if_icmp .ne 7, 3) := by decide +kernel
theorem dX9_lee_57 : decode cX9_lee 57 = .ok (.iload_n 2, 1) := by decide +kernel
theorem dX9_lee_58 : decode cX9_lee 58 = .ok (.goto 7, 3) := by decide +kernel
theorem dX9_lee_61 : decode cX9_lee 61 = .ok (.aload_n 0, 1) := by decide +kernel
theorem dX9_lee_62 : decode cX9_lee 62 = .ok (.getfield 96, 3) := by decide +kernel
theorem dX9_lee_65 : decode cX9_lee 65 = .ok (.putfield 96, 3) := by decide +kernel
theorem dX9_lee_68 : decode cX9_lee 68 = .ok (.iload_n 3, 1) := by decide +kernel
theorem dX9_lee_69 : decode cX9_lee 69 = .ok (.ireturn, 1) := by decide +kernel
theorem dX9_lowOf_0 : decode cX9_lowOf 0 = .ok (.iload_n 0, 1) := by decide +kernel
theorem dX9_lowOf_1 : decode cX9_lowOf 1 = .ok (.iconst 1, 1) := by decide +kernel
theorem dX9_lowOf_2 : decode cX9_lowOf 2 = .ok (.if_icmp .eq 14, 3) := by decide +kernel
theorem dX9_lowOf_5 : decode cX9_lowOf 5 = .ok (.iload_n 0, 1) := by decide +kernel
theorem dX9_lowOf_6 : decode cX9_lowOf 6 = .ok (.iconst 2, 1) := by decide +kernel
theorem dX9_lowOf_7 : decode cX9_lowOf 7 = .ok (.if_icmp .eq 9, 3) := by decide +kernel
theorem dX9_lowOf_10 : decode cX9_lowOf 10 = .ok (.iload_n 0, 1) := by decide +kernel
theorem dX9_lowOf_11 : decode cX9_lowOf 11 = .ok (.bipush 10, 2) := by decide +kernel
theorem dX9_lowOf_13 : decode cX9_lowOf 13 = .ok (.if_icmp .ne 7, 3) := by decide +kernel
theorem dX9_lowOf_16 : decode cX9_lowOf 16 = .ok (.iconst 1, 1) := by decide +kernel
theorem dX9_lowOf_17 : decode cX9_lowOf 17 = .ok (.goto 4, 3) := by decide +kernel
theorem dX9_lowOf_20 : decode cX9_lowOf 20 = .ok (.iconst 0, 1) := by decide +kernel
theorem dX9_lowOf_21 : decode cX9_lowOf 21 = .ok (.ireturn, 1) := by decide +kernel
theorem dX9_highOf_0 : decode cX9_highOf 0 = .ok (.iload_n 0, 1) := by decide +kernel
theorem dX9_highOf_1 : decode cX9_highOf 1 = .ok (.ifCond .ne 9, 3) := by decide +kernel
theorem dX9_highOf_4 : decode cX9_highOf 4 = .ok (.sipush 999, 3) := by decide +kernel
theorem dX9_highOf_7 : decode cX9_highOf 7 = .ok (.goto 46, 3) := by decide +kernel
theorem dX9_highOf_10 : decode cX9_highOf 10 = .ok (.iload_n 0, 1) := by decide +kernel
theorem dX9_highOf_11 : decode cX9_highOf 11 = .ok (.iconst 1, 1) := by decide +kernel
theorem dX9_highOf_12 : decode cX9_highOf 12 = .ok (.if_icmp .ne 8, 3) := by decide +kernel
theorem dX9_highOf_15 : decode cX9_highOf 15 = .ok (.bipush 12, 2) := by decide +kernel
theorem dX9_highOf_17 : decode cX9_highOf 17 = .ok (.goto 36, 3) := by decide +kernel
theorem dX9_highOf_20 : decode cX9_highOf 20 = .ok (.iload_n 0, 1) := by decide +kernel
theorem dX9_highOf_21 : decode cX9_highOf 21 = .ok (.iconst 2, 1) := by decide +kernel
theorem dX9_highOf_22 : decode cX9_highOf 22 = .ok (.if_icmp .ne 8, 3) := by decide +kernel
theorem dX9_highOf_25 : decode cX9_highOf 25 = .ok (.bipush 30, 2) := by decide +kernel
theorem dX9_highOf_27 : decode cX9_highOf 27 = .ok (.goto 26, 3) := by decide +kernel
theorem dX9_highOf_30 : decode cX9_highOf 30 = .ok (.iload_n 0, 1) := by decide +kernel
theorem dX9_highOf_31 : decode cX9_highOf 31 = .ok (.iconst 3, 1) := by decide +kernel
theorem dX9_highOf_32 : decode cX9_highOf 32 = .ok (.if_icmp .ne 8, 3) := by decide +kernel
theorem dX9_highOf_35 : decode cX9_highOf 35 = .ok (.bipush 99, 2) := by decide +kernel
theorem dX9_highOf_37 : decode cX9_highOf 37 = .ok (.goto 16, 3) := by decide +kernel
theorem dX9_highOf_40 : decode cX9_highOf 40 = .ok (.iload_n 0, 1) := by decide +kernel
theorem dX9_highOf_41 : decode cX9_highOf 41 = .ok (.bipush 10, 2) := by decide +kernel
theorem dX9_highOf_43 : decode cX9_highOf 43 = .ok (.if_icmp .ge 8, 3) := by decide +kernel
theorem dX9_highOf_46 : decode cX9_highOf 46 = .ok (.bipush 16, 2) := by decide +kernel
theorem dX9_highOf_48 : decode cX9_highOf 48 = .ok (.goto 5, 3) := by decide +kernel
theorem dX9_highOf_51 : decode cX9_highOf 51 = .ok (.bipush 9, 2) := by decide +kernel
theorem dX9_highOf_53 : decode cX9_highOf 53 = .ok (.ireturn, 1) := by decide +kernel
theorem dX9_set_0 : decode cX9_set 0 = .ok (.iload_n 1, 1) := by decide +kernel
theorem dX9_set_1 : decode cX9_set 1 = .ok (.iconst 0, 1) := by decide +kernel
theorem dX9_set_2 : decode cX9_set 2 = .ok (.bipush 11, 2) := by decide +kernel
theorem dX9_set_4 : decode cX9_set 4 = .ok (.invokestatic 55, 3) := by decide +kernel
theorem dX9_set_7 : decode cX9_set 7 = .ok (.ifCond .eq 18, 3) := by decide +kernel
theorem dX9_set_10 : decode cX9_set 10 = .ok (.iload_n 2, 1) := by decide +kernel
theorem dX9_set_11 : decode cX9_set 11 = .ok (.iload_n 1, 1) := by decide +kernel
theorem dX9_set_12 : decode cX9_set 12 = .ok (.invokestatic 99, 3) := by decide +kernel
theorem dX9_set_15 : decode cX9_set 15 = .ok (.iload_n 1, 1) := by decide +kernel
theorem dX9_set_16 : decode cX9_set 16 = .ok (.invokestatic 102, 3) := by decide +kernel
theorem dX9_set_19 : decode cX9_set 19 = .ok (.invokestatic 55, 3) := by decide +kernel
theorem dX9_set_22 : decode cX9_set 22 = .ok (.ifCond .ne 6, 3) := by decide +kernel
theorem dX9_set_25 : decode cX9_set 25 = .ok (.bipush (-2), 2) := by decide +kernel
theorem dX9_set_27 : decode cX9_set 27 = .ok (.ireturn, 1) := by decide +kernel
theorem dX9_set_28 : decode cX9_set 28 = .ok (.aload_n 0, 1) := by decide +kernel
theorem dX9_set_29 : decode cX9_set 29 = .ok (.getfield 25, 3) := by decide +kernel
theorem dX9_set_32 : decode cX9_set 32 = .ok (.iload_n 1, 1) := by decide +kernel
theorem dX9_set_33 : decode cX9_set 33 = .ok (.iaload, 1) := by decide +kernel
theorem dX9_set_34 : decode cX9_set 34 = .ok (.istore_n 3, 1) := by decide +kernel
theorem dX9_set_35 : decode cX9_set 35 = .ok (.aload_n 0, 1) := by decide +kernel
theorem dX9_set_36 : decode cX9_set 36 = .ok (.getfield 25, 3) := by decide +kernel
theorem dX9_set_39 : decode cX9_set 39 = .ok (.iload_n 1, 1) := by decide +kernel
theorem dX9_set_40 : decode cX9_set 40 = .ok (.iload_n 2, 1) := by decide +kernel
theorem dX9_set_41 : decode cX9_set 41 = .ok (.iastore, 1) := by decide +kernel
theorem dX9_set_42 : decode cX9_set 42 = .ok (.iload_n 3, 1) := by decide +kernel
theorem dX9_set_43 : decode cX9_set 43 = .ok (.ireturn, 1) := by decide +kernel
theorem dX9_isLee_0 : decode cX9_isLee 0 = .ok (.iload_n 1, 1) := by decide +kernel
theorem dX9_isLee_1 : decode cX9_isLee 1 = .ok (.aload_n 0, 1) := by decide +kernel
theorem dX9_isLee_2 : decode cX9_isLee 2 = .ok (.getfield 93, 3) := by decide +kernel
theorem dX9_isLee_5 : decode cX9_isLee 5 = .ok (.if_icmp .lt 20, 3) := by decide +kernel
theorem dX9_isLee_8 : decode cX9_isLee 8 = .ok (.iload_n 1, 1) := by decide +kernel
theorem dX9_isLee_9 : decode cX9_isLee 9 = .ok (.aload_n 0, 1) := by decide +kernel
theorem dX9_isLee_10 : decode cX9_isLee 10 = .ok (.getfield 93, 3) := by decide +kernel
theorem dX9_isLee_13 : decode cX9_isLee 13 = .ok (.aload_n 0, 1) := by decide +kernel
theorem dX9_isLee_14 : decode cX9_isLee 14 = .ok (.getfield 96, 3) := by decide +kernel
theorem dX9_isLee_17 : decode cX9_isLee 17 = .ok (.iadd, 1) := by decide +kernel
theorem dX9_isLee_18 : decode cX9_isLee 18 = .ok (.if_icmp .ge 7, 3) := by decide +kernel
theorem dX9_isLee_21 : decode cX9_isLee 21 = .ok (.iconst 1, 1) := by decide +kernel
theorem dX9_isLee_22 : decode cX9_isLee 22 = .ok (.goto 4, 3) := by decide +kernel
theorem dX9_isLee_25 : decode cX9_isLee 25 = .ok (.iconst 0, 1) := by decide +kernel
theorem dX9_isLee_26 : decode cX9_isLee 26 = .ok (.ireturn, 1) := by decide +kernel
theorem dX9_rawHigh_0 : decode cX9_rawHigh 0 = .ok (.iconst 0, 1) := by decide +kernel
theorem dX9_rawHigh_1 : decode cX9_rawHigh 1 = .ok (.istore_n 2, 1) := by decide +kernel
theorem dX9_rawHigh_2 : decode cX9_rawHigh 2 = .ok (.iconst 0, 1) := by decide +kernel
theorem dX9_rawHigh_3 : decode cX9_rawHigh 3 = .ok (.istore_n 3, 1) := by decide +kernel
theorem dX9_rawHigh_4 : decode cX9_rawHigh 4 = .ok (.iload_n 3, 1) := by decide +kernel
theorem dX9_rawHigh_5 : decode cX9_rawHigh 5 = .ok (.aload_n 0, 1) := by decide +kernel
theorem dX9_rawHigh_6 : decode cX9_rawHigh 6 = .ok (.getfield 63, 3) := by decide +kernel
theorem dX9_rawHigh_9 : decode cX9_rawHigh 9 = .ok (.if_icmp .ge 63, 3) := by decide +kernel
theorem dX9_rawHigh_12 : decode cX9_rawHigh 12 = .ok (.iload_n 1, 1) := by decide +kernel
theorem dX9_rawHigh_13 : decode cX9_rawHigh 13 = .ok (.aload_n 0, 1) := by decide +kernel
theorem dX9_rawHigh_14 : decode cX9_rawHigh 14 = .ok (.getfield 22, 3) := by decide +kernel
theorem dX9_rawHigh_17 : decode cX9_rawHigh 17 = .ok (.iload_n 3, 1) := by decide +kernel
theorem dX9_rawHigh_18 : decode cX9_rawHigh 18 = .ok (.iaload, 1) := by decide +kernel
theorem dX9_rawHigh_19 : decode cX9_rawHigh 19 = .ok (.iadd, 1) := by decide +kernel
theorem dX9_rawHigh_20 : decode cX9_rawHigh 20 = .ok (.aload_n 0, 1) := by decide +kernel
theorem dX9_rawHigh_21 : decode cX9_rawHigh 21 = .ok (.getfield 19, 3) := by decide +kernel
theorem dX9_rawHigh_24 : decode cX9_rawHigh 24 = .ok (.iload_n 3, 1) := by decide +kernel
theorem dX9_rawHigh_25 : decode cX9_rawHigh 25 = .ok (.iaload, 1) := by decide +kernel
theorem dX9_rawHigh_26 : decode cX9_rawHigh 26 = .ok (.irem, 1) := by decide +kernel
theorem dX9_rawHigh_27 : decode cX9_rawHigh 27 = .ok (.istore 4, 2) := by decide +kernel
theorem dX9_rawHigh_29 : decode cX9_rawHigh 29 = .ok (.iload_n 2, 1) := by decide +kernel
theorem dX9_rawHigh_30 : decode cX9_rawHigh 30 = .ok (.aload_n 0, 1) := by decide +kernel
theorem dX9_rawHigh_31 : decode cX9_rawHigh 31 = .ok (.getfield 16, 3) := by decide +kernel
theorem dX9_rawHigh_34 : decode cX9_rawHigh 34 = .ok (.iload_n 3, 1) := by decide +kernel
theorem dX9_rawHigh_35 : decode cX9_rawHigh 35 = .ok (.iaload, 1) := by decide +kernel
theorem dX9_rawHigh_36 : decode cX9_rawHigh 36 = .ok (.iconst 2, 1) := by decide +kernel
theorem dX9_rawHigh_37 : decode cX9_rawHigh 37 = .ok (.iload 4, 2) := by decide +kernel
theorem dX9_rawHigh_39 : decode cX9_rawHigh 39 = .ok (.imul, 1) := by decide +kernel
theorem dX9_rawHigh_40 : decode cX9_rawHigh 40 = .ok (.aload_n 0, 1) := by decide +kernel
theorem dX9_rawHigh_41 : decode cX9_rawHigh 41 = .ok (.getfield 19, 3) := by decide +kernel
theorem dX9_rawHigh_44 : decode cX9_rawHigh 44 = .ok (.iload_n 3, 1) := by decide +kernel
theorem dX9_rawHigh_45 : decode cX9_rawHigh 45 = .ok (.iaload, 1) := by decide +kernel
theorem dX9_rawHigh_46 : decode cX9_rawHigh 46 = .ok (.if_icmp .ge 8, 3) := by decide +kernel
theorem dX9_rawHigh_49 : decode cX9_rawHigh 49 = .ok (.iload 4, 2) := by decide +kernel
theorem dX9_rawHigh_51 : decode cX9_rawHigh 51 = .ok (.goto 12, 3) := by decide +kernel
theorem dX9_rawHigh_54 : decode cX9_rawHigh 54 = .ok (.aload_n 0, 1) := by decide +kernel
theorem dX9_rawHigh_55 : decode cX9_rawHigh 55 = .ok (.getfield 19, 3) := by decide +kernel
theorem dX9_rawHigh_58 : decode cX9_rawHigh 58 = .ok (.iload_n 3, 1) := by decide +kernel
theorem dX9_rawHigh_59 : decode cX9_rawHigh 59 = .ok (.iaload, 1) := by decide +kernel
theorem dX9_rawHigh_60 : decode cX9_rawHigh 60 = .ok (.iload 4, 2) := by decide +kernel
theorem dX9_rawHigh_62 : decode cX9_rawHigh 62 = .ok (.isub, 1) := by decide +kernel
theorem dX9_rawHigh_63 : decode cX9_rawHigh 63 = .ok (.imul, 1) := by decide +kernel
theorem dX9_rawHigh_64 : decode cX9_rawHigh 64 = .ok (.iadd, 1) := by decide +kernel
theorem dX9_rawHigh_65 : decode cX9_rawHigh 65 = .ok (.istore_n 2, 1) := by decide +kernel
theorem dX9_rawHigh_66 : decode cX9_rawHigh 66 = .ok (.iinc 3 1, 3) := by decide +kernel
theorem dX9_rawHigh_69 : decode cX9_rawHigh 69 = .ok (.goto (-65), 3) := by decide +kernel
theorem dX9_rawHigh_72 : decode cX9_rawHigh 72 = .ok (.iload_n 2, 1) := by decide +kernel
theorem dX9_rawHigh_73 : decode cX9_rawHigh 73 = .ok (.ireturn, 1) := by decide +kernel
theorem dX9_highBy_0 : decode cX9_highBy 0 = .ok (.aload_n 0, 1) := by decide +kernel
theorem dX9_highBy_1 : decode cX9_highBy 1 = .ok (.iload_n 1, 1) := by decide +kernel
theorem dX9_highBy_2 : decode cX9_highBy 2 = .ok (.invokevirtual 105, 3) := by decide +kernel
theorem dX9_highBy_5 : decode cX9_highBy 5 = .ok (.ifCond .eq 13, 3) := by decide +kernel
theorem dX9_highBy_8 : decode cX9_highBy 8 = .ok (.aload_n 0, 1) := by decide +kernel
theorem dX9_highBy_9 : decode cX9_highBy 9 = .ok (.iload_n 1, 1) := by decide +kernel
theorem dX9_highBy_10 : decode cX9_highBy 10 = .ok (.invokevirtual 108, 3) := by decide +kernel
theorem dX9_highBy_13 : decode cX9_highBy 13 = .ok (.iconst 2, 1) := by decide +kernel
theorem dX9_highBy_14 : decode cX9_highBy 14 = .ok (.idiv, 1) := by decide +kernel
theorem dX9_highBy_15 : decode cX9_highBy 15 = .ok (.goto 8, 3) := by decide +kernel
theorem dX9_highBy_18 : decode cX9_highBy 18 = .ok (.aload_n 0, 1) := by decide +kernel
theorem dX9_highBy_19 : decode cX9_highBy 19 = .ok (.iload_n 1, 1) := by decide +kernel
theorem dX9_highBy_20 : decode cX9_highBy 20 = .ok (.invokevirtual 108, 3) := by decide +kernel
theorem dX9_highBy_23 : decode cX9_highBy 23 = .ok (.ireturn, 1) := by decide +kernel
theorem dX9_lays_0 : decode cX9_lays 0 = .ok (.aload_n 0, 1) := by decide +kernel
theorem dX9_lays_1 : decode cX9_lays 1 = .ok (.invokevirtual 81, 3) := by decide +kernel
theorem dX9_lays_4 : decode cX9_lays 4 = .ok (.iconst 0, 1) := by decide +kernel
theorem dX9_lays_5 : decode cX9_lays 5 = .ok (.istore_n 1, 1) := by decide +kernel
theorem dX9_lays_6 : decode cX9_lays 6 = .ok (.iload_n 1, 1) := by decide +kernel
theorem dX9_lays_7 : decode cX9_lays 7 = .ok (.sipush 400, 3) := by decide +kernel
theorem dX9_lays_10 : decode cX9_lays 10 = .ok (.if_icmp .ge 20, 3) := by decide +kernel
theorem dX9_lays_13 : decode cX9_lays 13 = .ok (.aload_n 0, 1) := by decide +kernel
theorem dX9_lays_14 : decode cX9_lays 14 = .ok (.getfield 28, 3) := by decide +kernel
theorem dX9_lays_17 : decode cX9_lays 17 = .ok (.iload_n 1, 1) := by decide +kernel
theorem dX9_lays_18 : decode cX9_lays 18 = .ok (.aload_n 0, 1) := by decide +kernel
theorem dX9_lays_19 : decode cX9_lays 19 = .ok (.iload_n 1, 1) := by decide +kernel
theorem dX9_lays_20 : decode cX9_lays 20 = .ok (.invokevirtual 111, 3) := by decide +kernel
theorem dX9_lays_23 : decode cX9_lays 23 = .ok (.iastore, 1) := by decide +kernel
theorem dX9_lays_24 : decode cX9_lays 24 = .ok (.iinc 1 1, 3) := by decide +kernel
theorem dX9_lays_27 : decode cX9_lays 27 = .ok (.goto (-21), 3) := by decide +kernel
theorem dX9_lays_30 : decode cX9_lays 30 = .ok (.return_, 1) := by decide +kernel
theorem dX9_highOfTenth_0 : decode cX9_highOfTenth 0 = .ok (.aload_n 0, 1) := by decide +kernel
theorem dX9_highOfTenth_1 : decode cX9_highOfTenth 1 = .ok (.invokevirtual 81, 3) := by decide +kernel
theorem dX9_highOfTenth_4 : decode cX9_highOfTenth 4 = .ok (.aload_n 0, 1) := by decide +kernel
theorem dX9_highOfTenth_5 : decode cX9_highOfTenth 5 = .ok (.iload_n 1, 1) := by decide +kernel
theorem dX9_highOfTenth_6 : decode cX9_highOfTenth 6 = .ok (.invokevirtual 111, 3) := by decide +kernel
theorem dX9_highOfTenth_9 : decode cX9_highOfTenth 9 = .ok (.ireturn, 1) := by decide +kernel
theorem dX9_high_0 : decode cX9_high 0 = .ok (.iload_n 1, 1) := by decide +kernel
theorem dX9_high_1 : decode cX9_high 1 = .ok (.invokestatic 90, 3) := by decide +kernel
theorem dX9_high_4 : decode cX9_high 4 = .ok (.ifCond .eq 11, 3) := by decide +kernel
theorem dX9_high_7 : decode cX9_high 7 = .ok (.aload_n 0, 1) := by decide +kernel
theorem dX9_high_8 : decode cX9_high 8 = .ok (.iload_n 1, 1) := by decide +kernel
theorem dX9_high_9 : decode cX9_high 9 = .ok (.invokevirtual 114, 3) := by decide +kernel
theorem dX9_high_12 : decode cX9_high 12 = .ok (.goto 5, 3) := by decide +kernel
theorem dX9_high_15 : decode cX9_high 15 = .ok (.bipush (-2), 2) := by decide +kernel
theorem dX9_high_17 : decode cX9_high 17 = .ok (.ireturn, 1) := by decide +kernel
theorem dX9_doesNow_0 : decode cX9_doesNow 0 = .ok (.iload_n 1, 1) := by decide +kernel
theorem dX9_doesNow_1 : decode cX9_doesNow 1 = .ok (.ifCond .eq 10, 3) := by decide +kernel
theorem dX9_doesNow_4 : decode cX9_doesNow 4 = .ok (.iload_n 1, 1) := by decide +kernel
theorem dX9_doesNow_5 : decode cX9_doesNow 5 = .ok (.sipush 399, 3) := by decide +kernel
theorem dX9_doesNow_8 : decode cX9_doesNow 8 = .ok (.if_icmp .ne 5, 3) := by decide +kernel
theorem dX9_doesNow_11 : decode cX9_doesNow 11 = .ok (.iconst 0, 1) := by decide +kernel
theorem dX9_doesNow_12 : decode cX9_doesNow 12 = .ok (.ireturn, 1) := by decide +kernel
theorem dX9_doesNow_13 : decode cX9_doesNow 13 = .ok (.aload_n 0, 1) := by decide +kernel
theorem dX9_doesNow_14 : decode cX9_doesNow 14 = .ok (.getfield 28, 3) := by decide +kernel
theorem dX9_doesNow_17 : decode cX9_doesNow 17 = .ok (.iload_n 1, 1) := by decide +kernel
theorem dX9_doesNow_18 : decode cX9_doesNow 18 = .ok (.iconst 1, 1) := by decide +kernel
theorem dX9_doesNow_19 : decode cX9_doesNow 19 = .ok (.isub, 1) := by decide +kernel
theorem dX9_doesNow_20 : decode cX9_doesNow 20 = .ok (.iaload, 1) := by decide +kernel
theorem dX9_doesNow_21 : decode cX9_doesNow 21 = .ok (.aload_n 0, 1) := by decide +kernel
theorem dX9_doesNow_22 : decode cX9_doesNow 22 = .ok (.getfield 28, 3) := by decide +kernel
theorem dX9_doesNow_25 : decode cX9_doesNow 25 = .ok (.iload_n 1, 1) := by decide +kernel
theorem dX9_doesNow_26 : decode cX9_doesNow 26 = .ok (.iaload, 1) := by decide +kernel
theorem dX9_doesNow_27 : decode cX9_doesNow 27 = .ok (.if_icmp .gt 22, 3) := by decide +kernel
theorem dX9_doesNow_30 : decode cX9_doesNow 30 = .ok (.aload_n 0, 1) := by decide +kernel
theorem dX9_doesNow_31 : decode cX9_doesNow 31 = .ok (.getfield 28, 3) := by decide +kernel
theorem dX9_doesNow_34 : decode cX9_doesNow 34 = .ok (.iload_n 1, 1) := by decide +kernel
theorem dX9_doesNow_35 : decode cX9_doesNow 35 = .ok (.iconst 1, 1) := by decide +kernel
theorem dX9_doesNow_36 : decode cX9_doesNow 36 = .ok (.iadd, 1) := by decide +kernel
theorem dX9_doesNow_37 : decode cX9_doesNow 37 = .ok (.iaload, 1) := by decide +kernel
theorem dX9_doesNow_38 : decode cX9_doesNow 38 = .ok (.aload_n 0, 1) := by decide +kernel
theorem dX9_doesNow_39 : decode cX9_doesNow 39 = .ok (.getfield 28, 3) := by decide +kernel
theorem dX9_doesNow_42 : decode cX9_doesNow 42 = .ok (.iload_n 1, 1) := by decide +kernel
theorem dX9_doesNow_43 : decode cX9_doesNow 43 = .ok (.iaload, 1) := by decide +kernel
theorem dX9_doesNow_44 : decode cX9_doesNow 44 = .ok (.if_icmp .ge 5, 3) := by decide +kernel
theorem dX9_doesNow_47 : decode cX9_doesNow 47 = .ok (.iconst 1, 1) := by decide +kernel
theorem dX9_doesNow_48 : decode cX9_doesNow 48 = .ok (.ireturn, 1) := by decide +kernel
theorem dX9_doesNow_49 : decode cX9_doesNow 49 = .ok (.aload_n 0, 1) := by decide +kernel
theorem dX9_doesNow_50 : decode cX9_doesNow 50 = .ok (.getfield 28, 3) := by decide +kernel
theorem dX9_doesNow_53 : decode cX9_doesNow 53 = .ok (.iload_n 1, 1) := by decide +kernel
theorem dX9_doesNow_54 : decode cX9_doesNow 54 = .ok (.iconst 1, 1) := by decide +kernel
theorem dX9_doesNow_55 : decode cX9_doesNow 55 = .ok (.iadd, 1) := by decide +kernel
theorem dX9_doesNow_56 : decode cX9_doesNow 56 = .ok (.iaload, 1) := by decide +kernel
theorem dX9_doesNow_57 : decode cX9_doesNow 57 = .ok (.aload_n 0, 1) := by decide +kernel
theorem dX9_doesNow_58 : decode cX9_doesNow 58 = .ok (.getfield 28, 3) := by decide +kernel
theorem dX9_doesNow_61 : decode cX9_doesNow 61 = .ok (.iload_n 1, 1) := by decide +kernel
theorem dX9_doesNow_62 : decode cX9_doesNow 62 = .ok (.iaload, 1) := by decide +kernel
theorem dX9_doesNow_63 : decode cX9_doesNow 63 = .ok (.if_icmp .le 7, 3) := by decide +kernel
theorem dX9_doesNow_66 : decode cX9_doesNow 66 = .ok (.iconst 2, 1) := by decide +kernel
theorem dX9_doesNow_67 : decode cX9_doesNow 67 = .ok (.goto 25, 3) := by decide +kernel
theorem dX9_doesNow_70 : decode cX9_doesNow 70 = .ok (.aload_n 0, 1) := by decide +kernel
theorem dX9_doesNow_71 : decode cX9_doesNow 71 = .ok (.getfield 28, 3) := by decide +kernel
theorem dX9_doesNow_74 : decode cX9_doesNow 74 = .ok (.iload_n 1, 1) := by decide +kernel
theorem dX9_doesNow_75 : decode cX9_doesNow 75 = .ok (.iconst 1, 1) := by decide +kernel
theorem dX9_doesNow_76 : decode cX9_doesNow 76 = .ok (.iadd, 1) := by decide +kernel
theorem dX9_doesNow_77 : decode cX9_doesNow 77 = .ok (.iaload, 1) := by decide +kernel
theorem dX9_doesNow_78 : decode cX9_doesNow 78 = .ok (.aload_n 0, 1) := by decide +kernel
theorem dX9_doesNow_79 : decode cX9_doesNow 79 = .ok (.getfield 28, 3) := by decide +kernel
theorem dX9_doesNow_82 : decode cX9_doesNow 82 = .ok (.iload_n 1, 1) := by decide +kernel
theorem dX9_doesNow_83 : decode cX9_doesNow 83 = .ok (.iaload, 1) := by decide +kernel
theorem dX9_doesNow_84 : decode cX9_doesNow 84 = .ok (.if_icmp .ge 7, 3) := by decide +kernel
theorem dX9_doesNow_87 : decode cX9_doesNow 87 = .ok (.iconst 3, 1) := by decide +kernel
theorem dX9_doesNow_88 : decode cX9_doesNow 88 = .ok (.goto 4, 3) := by decide +kernel
theorem dX9_doesNow_91 : decode cX9_doesNow 91 = .ok (.iconst 0, 1) := by decide +kernel
theorem dX9_doesNow_92 : decode cX9_doesNow 92 = .ok (.ireturn, 1) := by decide +kernel
theorem dX9_doesOf_0 : decode cX9_doesOf 0 = .ok (.aload_n 0, 1) := by decide +kernel
theorem dX9_doesOf_1 : decode cX9_doesOf 1 = .ok (.invokevirtual 117, 3) := by decide +kernel
theorem dX9_doesOf_4 : decode cX9_doesOf 4 = .ok (.aload_n 0, 1) := by decide +kernel
theorem dX9_doesOf_5 : decode cX9_doesOf 5 = .ok (.iload_n 1, 1) := by decide +kernel
theorem dX9_doesOf_6 : decode cX9_doesOf 6 = .ok (.invokevirtual 120, 3) := by decide +kernel
theorem dX9_doesOf_9 : decode cX9_doesOf 9 = .ok (.ireturn, 1) := by decide +kernel
theorem dX9_does_0 : decode cX9_does 0 = .ok (.iload_n 1, 1) := by decide +kernel
theorem dX9_does_1 : decode cX9_does 1 = .ok (.invokestatic 90, 3) := by decide +kernel
theorem dX9_does_4 : decode cX9_does 4 = .ok (.ifCond .eq 11, 3) := by decide +kernel
theorem dX9_does_7 : decode cX9_does 7 = .ok (.aload_n 0, 1) := by decide +kernel
theorem dX9_does_8 : decode cX9_does 8 = .ok (.iload_n 1, 1) := by decide +kernel
theorem dX9_does_9 : decode cX9_does 9 = .ok (.invokevirtual 123, 3) := by decide +kernel
theorem dX9_does_12 : decode cX9_does 12 = .ok (.goto 5, 3) := by decide +kernel
theorem dX9_does_15 : decode cX9_does 15 = .ok (.bipush (-2), 2) := by decide +kernel
theorem dX9_does_17 : decode cX9_does 17 = .ok (.ireturn, 1) := by decide +kernel
theorem dX9_leansNow_0 : decode cX9_leansNow 0 = .ok (.aload_n 0, 1) := by decide +kernel
theorem dX9_leansNow_1 : decode cX9_leansNow 1 = .ok (.getfield 67, 3) := by decide +kernel
theorem dX9_leansNow_4 : decode cX9_leansNow 4 = .ok (.ifCond .eq 13, 3) := by decide +kernel
theorem dX9_leansNow_7 : decode cX9_leansNow 7 = .ok (.aload_n 0, 1) := by decide +kernel
theorem dX9_leansNow_8 : decode cX9_leansNow 8 = .ok (.getfield 16, 3) := by decide +kernel
theorem dX9_leansNow_11 : decode cX9_leansNow 11 = .ok (.bipush 6, 2) := by decide +kernel
theorem dX9_leansNow_13 : decode cX9_leansNow 13 = .ok (.iaload, 1) := by decide +kernel
theorem dX9_leansNow_14 : decode cX9_leansNow 14 = .ok (.ifCond .ne 5, 3) := by decide +kernel
theorem dX9_leansNow_17 : decode cX9_leansNow 17 = .ok (.iconst 0, 1) := by decide +kernel
theorem dX9_leansNow_18 : decode cX9_leansNow 18 = .ok (.ireturn, 1) := by decide +kernel
theorem dX9_leansNow_19 : decode cX9_leansNow 19 = .ok (.iconst 4, 1) := by decide +kernel
theorem dX9_leansNow_20 : decode cX9_leansNow 20 = .ok (.iload_n 1, 1) := by decide +kernel
theorem dX9_leansNow_21 : decode cX9_leansNow 21 = .ok (.aload_n 0, 1) := by decide +kernel
theorem dX9_leansNow_22 : decode cX9_leansNow 22 = .ok (.getfield 19, 3) := by decide +kernel
theorem dX9_leansNow_25 : decode cX9_leansNow 25 = .ok (.bipush 6, 2) := by decide +kernel
theorem dX9_leansNow_27 : decode cX9_leansNow 27 = .ok (.iaload, 1) := by decide +kernel
theorem dX9_leansNow_28 : decode cX9_leansNow 28 = .ok (.irem, 1) := by decide +kernel
theorem dX9_leansNow_29 : decode cX9_leansNow 29 = .ok (.imul, 1) := by decide +kernel
theorem dX9_leansNow_30 : decode cX9_leansNow 30 = .ok (.istore_n 2, 1) := by decide +kernel
theorem dX9_leansNow_31 : decode cX9_leansNow 31 = .ok (.iload_n 2, 1) := by decide +kernel
theorem dX9_leansNow_32 : decode cX9_leansNow 32 = .ok (.aload_n 0, 1) := by decide +kernel
theorem dX9_leansNow_33 : decode cX9_leansNow 33 = .ok (.getfield 19, 3) := by decide +kernel
theorem dX9_leansNow_36 : decode cX9_leansNow 36 = .ok (.bipush 6, 2) := by decide +kernel
theorem dX9_leansNow_38 : decode cX9_leansNow 38 = .ok (.iaload, 1) := by decide +kernel
theorem dX9_leansNow_39 : decode cX9_leansNow 39 = .ok (.if_icmp .lt 16, 3) := by decide +kernel
theorem dX9_leansNow_42 : decode cX9_leansNow 42 = .ok (.iload_n 2, 1) := by decide +kernel
theorem dX9_leansNow_43 : decode cX9_leansNow 43 = .ok (.iconst 3, 1) := by decide +kernel
theorem dX9_leansNow_44 : decode cX9_leansNow 44 = .ok (.aload_n 0, 1) := by decide +kernel
theorem dX9_leansNow_45 : decode cX9_leansNow 45 = .ok (.getfield 19, 3) := by decide +kernel
theorem dX9_leansNow_48 : decode cX9_leansNow 48 = .ok (.bipush 6, 2) := by decide +kernel
theorem dX9_leansNow_50 : decode cX9_leansNow 50 = .ok (.iaload, 1) := by decide +kernel
theorem dX9_leansNow_51 : decode cX9_leansNow 51 = .ok (.imul, 1) := by decide +kernel
theorem dX9_leansNow_52 : decode cX9_leansNow 52 = .ok (.if_icmp .lt 7, 3) := by decide +kernel
theorem dX9_leansNow_55 : decode cX9_leansNow 55 = .ok (.iconst 1, 1) := by decide +kernel
theorem dX9_leansNow_56 : decode cX9_leansNow 56 = .ok (.goto 4, 3) := by decide +kernel
theorem dX9_leansNow_59 : decode cX9_leansNow 59 = .ok (.iconst 2, 1) := by decide +kernel
theorem dX9_leansNow_60 : decode cX9_leansNow 60 = .ok (.ireturn, 1) := by decide +kernel
theorem dX9_leansOf_0 : decode cX9_leansOf 0 = .ok (.aload_n 0, 1) := by decide +kernel
theorem dX9_leansOf_1 : decode cX9_leansOf 1 = .ok (.invokevirtual 81, 3) := by decide +kernel
theorem dX9_leansOf_4 : decode cX9_leansOf 4 = .ok (.aload_n 0, 1) := by decide +kernel
theorem dX9_leansOf_5 : decode cX9_leansOf 5 = .ok (.iload_n 1, 1) := by decide +kernel
theorem dX9_leansOf_6 : decode cX9_leansOf 6 = .ok (.invokevirtual 126, 3) := by decide +kernel
theorem dX9_leansOf_9 : decode cX9_leansOf 9 = .ok (.ireturn, 1) := by decide +kernel
theorem dX9_leans_0 : decode cX9_leans 0 = .ok (.iload_n 1, 1) := by decide +kernel
theorem dX9_leans_1 : decode cX9_leans 1 = .ok (.invokestatic 90, 3) := by decide +kernel
theorem dX9_leans_4 : decode cX9_leans 4 = .ok (.ifCond .eq 11, 3) := by decide +kernel
theorem dX9_leans_7 : decode cX9_leans 7 = .ok (.aload_n 0, 1) := by decide +kernel
theorem dX9_leans_8 : decode cX9_leans 8 = .ok (.iload_n 1, 1) := by decide +kernel
theorem dX9_leans_9 : decode cX9_leans 9 = .ok (.invokevirtual 129, 3) := by decide +kernel
theorem dX9_leans_12 : decode cX9_leans 12 = .ok (.goto 5, 3) := by decide +kernel
theorem dX9_leans_15 : decode cX9_leans 15 = .ok (.bipush (-2), 2) := by decide +kernel
theorem dX9_leans_17 : decode cX9_leans 17 = .ok (.ireturn, 1) := by decide +kernel
theorem dX9_nextCrest_0 : decode cX9_nextCrest 0 = .ok (.iload_n 1, 1) := by decide +kernel
theorem dX9_nextCrest_1 : decode cX9_nextCrest 1 = .ok (.istore_n 2, 1) := by decide +kernel
theorem dX9_nextCrest_2 : decode cX9_nextCrest 2 = .ok (.iload_n 2, 1) := by decide +kernel
theorem dX9_nextCrest_3 : decode cX9_nextCrest 3 = .ok (.sipush 400, 3) := by decide +kernel
theorem dX9_nextCrest_6 : decode cX9_nextCrest 6 = .ok (.if_icmp .ge 20, 3) := by decide +kernel
theorem dX9_nextCrest_9 : decode cX9_nextCrest 9 = .ok (.aload_n 0, 1) := by decide +kernel
theorem dX9_nextCrest_10 : decode cX9_nextCrest 10 = .ok (.iload_n 2, 1) := by decide +kernel
theorem dX9_nextCrest_11 : decode cX9_nextCrest 11 = .ok (.invokevirtual 120, 3) := by decide +kernel
theorem dX9_nextCrest_14 : decode cX9_nextCrest 14 = .ok (.iconst 1, 1) := by decide +kernel
theorem dX9_nextCrest_15 : decode cX9_nextCrest 15 = .ok (.if_icmp .ne 5, 3) := by decide +kernel
theorem dX9_nextCrest_18 : decode cX9_nextCrest 18 = .ok (.iload_n 2, 1) := by decide +kernel
theorem dX9_nextCrest_19 : decode cX9_nextCrest 19 = .ok (.ireturn, 1) := by decide +kernel
theorem dX9_nextCrest_20 : decode cX9_nextCrest 20 = .ok (.iinc 2 1, 3) := by decide +kernel
theorem dX9_nextCrest_23 : decode cX9_nextCrest 23 = .ok (.goto (-21), 3) := by decide +kernel
theorem dX9_nextCrest_26 : decode cX9_nextCrest 26 = .ok (.iconst (-1), 1) := by decide +kernel
theorem dX9_nextCrest_27 : decode cX9_nextCrest 27 = .ok (.ireturn, 1) := by decide +kernel
theorem dX9_crestOf_0 : decode cX9_crestOf 0 = .ok (.aload_n 0, 1) := by decide +kernel
theorem dX9_crestOf_1 : decode cX9_crestOf 1 = .ok (.invokevirtual 117, 3) := by decide +kernel
theorem dX9_crestOf_4 : decode cX9_crestOf 4 = .ok (.aload_n 0, 1) := by decide +kernel
theorem dX9_crestOf_5 : decode cX9_crestOf 5 = .ok (.iload_n 1, 1) := by decide +kernel
theorem dX9_crestOf_6 : decode cX9_crestOf 6 = .ok (.invokevirtual 132, 3) := by decide +kernel
theorem dX9_crestOf_9 : decode cX9_crestOf 9 = .ok (.istore_n 3, 1) := by decide +kernel
theorem dX9_crestOf_10 : decode cX9_crestOf 10 = .ok (.iconst 1, 1) := by decide +kernel
theorem dX9_crestOf_11 : decode cX9_crestOf 11 = .ok (.istore 4, 2) := by decide +kernel
theorem dX9_crestOf_13 : decode cX9_crestOf 13 = .ok (.iload 4, 2) := by decide +kernel
theorem dX9_crestOf_15 : decode cX9_crestOf 15 = .ok (.iload_n 2, 1) := by decide +kernel
theorem dX9_crestOf_16 : decode cX9_crestOf 16 = .ok (.if_icmp .ge 22, 3) := by decide +kernel
theorem dX9_crestOf_19 : decode cX9_crestOf 19 = .ok (.iload_n 3, 1) := by decide +kernel
theorem dX9_crestOf_20 : decode cX9_crestOf 20 = .ok (.iconst (-1), 1) := by decide +kernel
theorem dX9_crestOf_21 : decode cX9_crestOf 21 = .ok (.if_icmp .eq 17, 3) := by decide +kernel
theorem dX9_crestOf_24 : decode cX9_crestOf 24 = .ok (.aload_n 0, 1) := by decide +kernel
theorem dX9_crestOf_25 : decode cX9_crestOf 25 = .ok (.iload_n 3, 1) := by decide +kernel
theorem dX9_crestOf_26 : decode cX9_crestOf 26 = .ok (.iconst 1, 1) := by decide +kernel
theorem dX9_crestOf_27 : decode cX9_crestOf 27 = .ok (.iadd, 1) := by decide +kernel
theorem dX9_crestOf_28 : decode cX9_crestOf 28 = .ok (.invokevirtual 132, 3) := by decide +kernel
theorem dX9_crestOf_31 : decode cX9_crestOf 31 = .ok (.istore_n 3, 1) := by decide +kernel
theorem dX9_crestOf_32 : decode cX9_crestOf 32 = .ok (.iinc 4 1, 3) := by decide +kernel
theorem dX9_crestOf_35 : decode cX9_crestOf 35 = .ok (.goto (-22), 3) := by decide +kernel
theorem dX9_crestOf_38 : decode cX9_crestOf 38 = .ok (.iload_n 3, 1) := by decide +kernel
theorem dX9_crestOf_39 : decode cX9_crestOf 39 = .ok (.ireturn, 1) := by decide +kernel
theorem dX9_crest_0 : decode cX9_crest 0 = .ok (.iload_n 1, 1) := by decide +kernel
theorem dX9_crest_1 : decode cX9_crest 1 = .ok (.invokestatic 90, 3) := by decide +kernel
theorem dX9_crest_4 : decode cX9_crest 4 = .ok (.ifCond .eq 22, 3) := by decide +kernel
theorem dX9_crest_7 : decode cX9_crest 7 = .ok (.iload_n 2, 1) := by decide +kernel
theorem dX9_crest_8 : decode cX9_crest 8 = .ok (.iconst 1, 1) := by decide +kernel
theorem dX9_crest_9 : decode cX9_crest 9 = .ok (.bipush 99, 2) := by decide +kernel
theorem dX9_crest_11 : decode cX9_crest 11 = .ok (.invokestatic 55, 3) := by decide +kernel
theorem dX9_crest_14 : decode cX9_crest 14 = .ok (.ifCond .eq 12, 3) := by decide +kernel
theorem dX9_crest_17 : decode cX9_crest 17 = .ok (.aload_n 0, 1) := by decide +kernel
theorem dX9_crest_18 : decode cX9_crest 18 = .ok (.iload_n 1, 1) := by decide +kernel
theorem dX9_crest_19 : decode cX9_crest 19 = .ok (.iload_n 2, 1) := by decide +kernel
theorem dX9_crest_20 : decode cX9_crest 20 = .ok (.invokevirtual 135, 3) := by decide +kernel
theorem dX9_crest_23 : decode cX9_crest 23 = .ok (.goto 5, 3) := by decide +kernel
theorem dX9_crest_26 : decode cX9_crest 26 = .ok (.bipush (-2), 2) := by decide +kernel
theorem dX9_crest_28 : decode cX9_crest 28 = .ok (.ireturn, 1) := by decide +kernel
theorem dX9_seventhOf_0 : decode cX9_seventhOf 0 = .ok (.aload_n 0, 1) := by decide +kernel
theorem dX9_seventhOf_1 : decode cX9_seventhOf 1 = .ok (.invokevirtual 117, 3) := by decide +kernel
theorem dX9_seventhOf_4 : decode cX9_seventhOf 4 = .ok (.iconst (-1), 1) := by decide +kernel
theorem dX9_seventhOf_5 : decode cX9_seventhOf 5 = .ok (.istore_n 2, 1) := by decide +kernel
theorem dX9_seventhOf_6 : decode cX9_seventhOf 6 = .ok (.iconst 0, 1) := by decide +kernel
theorem dX9_seventhOf_7 : decode cX9_seventhOf 7 = .ok (.istore_n 3, 1) := by decide +kernel
theorem dX9_seventhOf_8 : decode cX9_seventhOf 8 = .ok (.aload_n 0, 1) := by decide +kernel
theorem dX9_seventhOf_9 : decode cX9_seventhOf 9 = .ok (.iload_n 1, 1) := by decide +kernel
theorem dX9_seventhOf_10 : decode cX9_seventhOf 10 = .ok (.invokevirtual 132, 3) := by decide +kernel
theorem dX9_seventhOf_13 : decode cX9_seventhOf 13 = .ok (.istore 4, 2) := by decide +kernel
theorem dX9_seventhOf_15 : decode cX9_seventhOf 15 = .ok (.iconst 1, 1) := by decide +kernel
theorem dX9_seventhOf_16 : decode cX9_seventhOf 16 = .ok (.istore 5, 2) := by decide +kernel
theorem dX9_seventhOf_18 : decode cX9_seventhOf 18 = .ok (.iload 5, 2) := by decide +kernel
theorem dX9_seventhOf_20 : decode cX9_seventhOf 20 = .ok (.bipush 8, 2) := by decide +kernel
theorem dX9_seventhOf_22 : decode cX9_seventhOf 22 = .ok (.if_icmp .ge 77, 3) := by decide +kernel
theorem dX9_seventhOf_25 : decode cX9_seventhOf 25 = .ok (.iload 4, 2) := by decide +kernel
theorem dX9_seventhOf_27 : decode cX9_seventhOf 27 = .ok (.iconst (-1), 1) := by decide +kernel
theorem dX9_seventhOf_28 : decode cX9_seventhOf 28 = .ok (.if_icmp .eq 71, 3) := by decide +kernel
theorem dX9_seventhOf_31 : decode cX9_seventhOf 31 = .ok (.iload_n 2, 1) := by decide +kernel
theorem dX9_seventhOf_32 : decode cX9_seventhOf 32 = .ok (.iconst (-1), 1) := by decide +kernel
theorem dX9_seventhOf_33 : decode cX9_seventhOf 33 = .ok (.if_icmp .eq 14, 3) := by decide +kernel
theorem dX9_seventhOf_36 : decode cX9_seventhOf 36 = .ok (.aload_n 0, 1) := by decide +kernel
theorem dX9_seventhOf_37 : decode cX9_seventhOf 37 = .ok (.getfield 28, 3) := by decide +kernel
theorem dX9_seventhOf_40 : decode cX9_seventhOf 40 = .ok (.iload 4, 2) := by decide +kernel
theorem dX9_seventhOf_42 : decode cX9_seventhOf 42 = .ok (.iaload, 1) := by decide +kernel
theorem dX9_seventhOf_43 : decode cX9_seventhOf 43 = .ok (.iload_n 3, 1) := by decide +kernel
theorem dX9_seventhOf_44 : decode cX9_seventhOf 44 = .ok (.if_icmp .le 7, 3) := by decide +kernel
theorem dX9_seventhOf_47 : decode cX9_seventhOf 47 = .ok (.iconst 1, 1) := by decide +kernel
theorem dX9_seventhOf_48 : decode cX9_seventhOf 48 = .ok (.goto 4, 3) := by decide +kernel
theorem dX9_seventhOf_51 : decode cX9_seventhOf 51 = .ok (.iconst 0, 1) := by decide +kernel
theorem dX9_seventhOf_52 : decode cX9_seventhOf 52 = .ok (.istore 6, 2) := by decide +kernel
theorem dX9_seventhOf_54 : decode cX9_seventhOf 54 = .ok (.iload 6, 2) := by decide +kernel
theorem dX9_seventhOf_56 : decode cX9_seventhOf 56 = .ok (.ifCond .eq 8, 3) := by decide +kernel
theorem dX9_seventhOf_59 : decode cX9_seventhOf 59 = .ok (.iload 5, 2) := by decide +kernel
theorem dX9_seventhOf_61 : decode cX9_seventhOf 61 = .ok (.goto 4, 3) := by decide +kernel
theorem dX9_seventhOf_64 : decode cX9_seventhOf 64 = .ok (.iload_n 2, 1) := by decide +kernel
theorem dX9_seventhOf_65 : decode cX9_seventhOf 65 = .ok (.istore_n 2, 1) := by decide +kernel
theorem dX9_seventhOf_66 : decode cX9_seventhOf 66 = .ok (.iload 6, 2) := by decide +kernel
theorem dX9_seventhOf_68 : decode cX9_seventhOf 68 = .ok (.ifCond .eq 13, 3) := by decide +kernel
theorem dX9_seventhOf_71 : decode cX9_seventhOf 71 = .ok (.aload_n 0, 1) := by decide +kernel
theorem dX9_seventhOf_72 : decode cX9_seventhOf 72 = .ok (.getfield 28, 3) := by decide +kernel
theorem dX9_seventhOf_75 : decode cX9_seventhOf 75 = .ok (.iload 4, 2) := by decide +kernel
theorem dX9_seventhOf_77 : decode cX9_seventhOf 77 = .ok (.iaload, 1) := by decide +kernel
theorem dX9_seventhOf_78 : decode cX9_seventhOf 78 = .ok (.goto 4, 3) := by decide +kernel
theorem dX9_seventhOf_81 : decode cX9_seventhOf 81 = .ok (.iload_n 3, 1) := by decide +kernel
theorem dX9_seventhOf_82 : decode cX9_seventhOf 82 = .ok (.istore_n 3, 1) := by decide +kernel
theorem dX9_seventhOf_83 : decode cX9_seventhOf 83 = .ok (.aload_n 0, 1) := by decide +kernel
theorem dX9_seventhOf_84 : decode cX9_seventhOf 84 = .ok (.iload 4, 2) := by decide +kernel
theorem dX9_seventhOf_86 : decode cX9_seventhOf 86 = .ok (.iconst 1, 1) := by decide +kernel
theorem dX9_seventhOf_87 : decode cX9_seventhOf 87 = .ok (.iadd, 1) := by decide +kernel
theorem dX9_seventhOf_88 : decode cX9_seventhOf 88 = .ok (.invokevirtual 132, 3) := by decide +kernel
theorem dX9_seventhOf_91 : decode cX9_seventhOf 91 = .ok (.istore 4, 2) := by decide +kernel
theorem dX9_seventhOf_93 : decode cX9_seventhOf 93 = .ok (.iinc 5 1, 3) := by decide +kernel
theorem dX9_seventhOf_96 : decode cX9_seventhOf 96 = .ok (.goto (-78), 3) := by decide +kernel
theorem dX9_seventhOf_99 : decode cX9_seventhOf 99 = .ok (.iload_n 2, 1) := by decide +kernel
theorem dX9_seventhOf_100 : decode cX9_seventhOf 100 = .ok (.ireturn, 1) := by decide +kernel
theorem dX9_seventh_0 : decode cX9_seventh 0 = .ok (.iload_n 1, 1) := by decide +kernel
theorem dX9_seventh_1 : decode cX9_seventh 1 = .ok (.invokestatic 90, 3) := by decide +kernel
theorem dX9_seventh_4 : decode cX9_seventh 4 = .ok (.ifCond .eq 11, 3) := by decide +kernel
theorem dX9_seventh_7 : decode cX9_seventh 7 = .ok (.aload_n 0, 1) := by decide +kernel
theorem dX9_seventh_8 : decode cX9_seventh 8 = .ok (.iload_n 1, 1) := by decide +kernel
theorem dX9_seventh_9 : decode cX9_seventh 9 = .ok (.invokevirtual 138, 3) := by decide +kernel
theorem dX9_seventh_12 : decode cX9_seventh 12 = .ok (.goto 5, 3) := by decide +kernel
theorem dX9_seventh_15 : decode cX9_seventh 15 = .ok (.bipush (-2), 2) := by decide +kernel
theorem dX9_seventh_17 : decode cX9_seventh 17 = .ok (.ireturn, 1) := by decide +kernel
theorem dX9_lullOf_0 : decode cX9_lullOf 0 = .ok (.aload_n 0, 1) := by decide +kernel
theorem dX9_lullOf_1 : decode cX9_lullOf 1 = .ok (.invokevirtual 117, 3) := by decide +kernel
theorem dX9_lullOf_4 : decode cX9_lullOf 4 = .ok (.iconst (-1), 1) := by decide +kernel
theorem dX9_lullOf_5 : decode cX9_lullOf 5 = .ok (.istore 4, 2) := by decide +kernel
theorem dX9_lullOf_7 : decode cX9_lullOf 7 = .ok (.iconst (-1), 1) := by decide +kernel
theorem dX9_lullOf_8 : decode cX9_lullOf 8 = .ok (.istore 5, 2) := by decide +kernel
theorem dX9_lullOf_10 : decode cX9_lullOf 10 = .ok (.iload_n 1, 1) := by decide +kernel
theorem dX9_lullOf_11 : decode cX9_lullOf 11 = .ok (.istore 6, 2) := by decide +kernel
theorem dX9_lullOf_13 : decode cX9_lullOf 13 = .ok (.iload 6, 2) := by decide +kernel
theorem dX9_lullOf_15 : decode cX9_lullOf 15 = .ok (.iload_n 2, 1) := by decide +kernel
theorem dX9_lullOf_16 : decode cX9_lullOf 16 = .ok (.iadd, 1) := by decide +kernel
theorem dX9_lullOf_17 : decode cX9_lullOf 17 = .ok (.sipush 400, 3) := by decide +kernel
theorem dX9_lullOf_20 : decode cX9_lullOf 20 = .ok (.if_icmp .gt 152, 3) := by decide +kernel
theorem dX9_lullOf_23 : decode cX9_lullOf 23 = .ok (.aload_n 0, 1) := by decide +kernel
theorem dX9_lullOf_24 : decode cX9_lullOf 24 = .ok (.getfield 28, 3) := by decide +kernel
theorem dX9_lullOf_27 : decode cX9_lullOf 27 = .ok (.iload 6, 2) := by decide +kernel
theorem dX9_lullOf_29 : decode cX9_lullOf 29 = .ok (.iaload, 1) := by decide +kernel
theorem dX9_lullOf_30 : decode cX9_lullOf 30 = .ok (.istore 7, 2) := by decide +kernel
theorem dX9_lullOf_32 : decode cX9_lullOf 32 = .ok (.aload_n 0, 1) := by decide +kernel
theorem dX9_lullOf_33 : decode cX9_lullOf 33 = .ok (.getfield 28, 3) := by decide +kernel
theorem dX9_lullOf_36 : decode cX9_lullOf 36 = .ok (.iload 6, 2) := by decide +kernel
theorem dX9_lullOf_38 : decode cX9_lullOf 38 = .ok (.iaload, 1) := by decide +kernel
theorem dX9_lullOf_39 : decode cX9_lullOf 39 = .ok (.istore 8, 2) := by decide +kernel
theorem dX9_lullOf_41 : decode cX9_lullOf 41 = .ok (.iload 6, 2) := by decide +kernel
theorem dX9_lullOf_43 : decode cX9_lullOf 43 = .ok (.istore 9, 2) := by decide +kernel
theorem dX9_lullOf_45 : decode cX9_lullOf 45 = .ok (.iload 9, 2) := by decide +kernel
theorem dX9_lullOf_47 : decode cX9_lullOf 47 = .ok (.iload 6, 2) := by decide +kernel
theorem dX9_lullOf_49 : decode cX9_lullOf 49 = .ok (.iload_n 2, 1) := by decide +kernel
theorem dX9_lullOf_50 : decode cX9_lullOf 50 = .ok (.iadd, 1) := by decide +kernel
theorem dX9_lullOf_51 : decode cX9_lullOf 51 = .ok (.if_icmp .ge 61, 3) := by decide +kernel
theorem dX9_lullOf_54 : decode cX9_lullOf 54 = .ok (.aload_n 0, 1) := by decide +kernel
theorem dX9_lullOf_55 : decode cX9_lullOf 55 = .ok (.getfield 28, 3) := by decide +kernel
theorem dX9_lullOf_58 : decode cX9_lullOf 58 = .ok (.iload 9, 2) := by decide +kernel
theorem dX9_lullOf_60 : decode cX9_lullOf 60 = .ok (.iaload, 1) := by decide +kernel
theorem dX9_lullOf_61 : decode cX9_lullOf 61 = .ok (.iload 7, 2) := by decide +kernel
theorem dX9_lullOf_63 : decode cX9_lullOf 63 = .ok (.if_icmp .le 13, 3) := by decide +kernel
theorem dX9_lullOf_66 : decode cX9_lullOf 66 = .ok (.aload_n 0, 1) := by decide +kernel
theorem dX9_lullOf_67 : decode cX9_lullOf 67 = .ok (.getfield 28, 3) := by decide +kernel
theorem dX9_lullOf_70 : decode cX9_lullOf 70 = .ok (.iload 9, 2) := by decide +kernel
theorem dX9_lullOf_72 : decode cX9_lullOf 72 = .ok (.iaload, 1) := by decide +kernel
theorem dX9_lullOf_73 : decode cX9_lullOf 73 = .ok (.goto 5, 3) := by decide +kernel
theorem dX9_lullOf_76 : decode cX9_lullOf 76 = .ok (.iload 7, 2) := by decide +kernel
theorem dX9_lullOf_78 : decode cX9_lullOf 78 = .ok (.istore 7, 2) := by decide +kernel
theorem dX9_lullOf_80 : decode cX9_lullOf 80 = .ok (.aload_n 0, 1) := by decide +kernel
theorem dX9_lullOf_81 : decode cX9_lullOf 81 = .ok (.getfield 28, 3) := by decide +kernel
theorem dX9_lullOf_84 : decode cX9_lullOf 84 = .ok (.iload 9, 2) := by decide +kernel
theorem dX9_lullOf_86 : decode cX9_lullOf 86 = .ok (.iaload, 1) := by decide +kernel
theorem dX9_lullOf_87 : decode cX9_lullOf 87 = .ok (.iload 8, 2) := by decide +kernel
theorem dX9_lullOf_89 : decode cX9_lullOf 89 = .ok (.if_icmp .ge 13, 3) := by decide +kernel
theorem dX9_lullOf_92 : decode cX9_lullOf 92 = .ok (.aload_n 0, 1) := by decide +kernel
theorem dX9_lullOf_93 : decode cX9_lullOf 93 = .ok (.getfield 28, 3) := by decide +kernel
theorem dX9_lullOf_96 : decode cX9_lullOf 96 = .ok (.iload 9, 2) := by decide +kernel
theorem dX9_lullOf_98 : decode cX9_lullOf 98 = .ok (.iaload, 1) := by decide +kernel
theorem dX9_lullOf_99 : decode cX9_lullOf 99 = .ok (.goto 5, 3) := by decide +kernel
theorem dX9_lullOf_102 : decode cX9_lullOf 102 = .ok (.iload 8, 2) := by decide +kernel
theorem dX9_lullOf_104 : decode cX9_lullOf 104 = .ok (.istore 8, 2) := by decide +kernel
theorem dX9_lullOf_106 : decode cX9_lullOf 106 = .ok (.iinc 9 1, 3) := by decide +kernel
theorem dX9_lullOf_109 : decode cX9_lullOf 109 = .ok (.goto (-64), 3) := by decide +kernel
theorem dX9_lullOf_112 : decode cX9_lullOf 112 = .ok (.iload 4, 2) := by decide +kernel
theorem dX9_lullOf_114 : decode cX9_lullOf 114 = .ok (.iconst (-1), 1) := by decide +kernel
theorem dX9_lullOf_115 : decode cX9_lullOf 115 = .ok (.if_icmp .eq 13, 3) := by decide +kernel
theorem dX9_lullOf_118 : decode cX9_lullOf 118 = .ok (.iload 7, 2) := by decide +kernel
theorem dX9_lullOf_120 : decode cX9_lullOf 120 = .ok (.iload 8, 2) := by decide +kernel
theorem dX9_lullOf_122 : decode cX9_lullOf 122 = .ok (.isub, 1) := by decide +kernel
theorem dX9_lullOf_123 : decode cX9_lullOf 123 = .ok (.iload 5, 2) := by decide +kernel
theorem dX9_lullOf_125 : decode cX9_lullOf 125 = .ok (.if_icmp .ge 7, 3) := by decide +kernel
theorem dX9_lullOf_128 : decode cX9_lullOf 128 = .ok (.iconst 1, 1) := by decide +kernel
theorem dX9_lullOf_129 : decode cX9_lullOf 129 = .ok (.goto 4, 3) := by decide +kernel
theorem dX9_lullOf_132 : decode cX9_lullOf 132 = .ok (.iconst 0, 1) := by decide +kernel
theorem dX9_lullOf_133 : decode cX9_lullOf 133 = .ok (.istore 9, 2) := by decide +kernel
theorem dX9_lullOf_135 : decode cX9_lullOf 135 = .ok (.iload 9, 2) := by decide +kernel
theorem dX9_lullOf_137 : decode cX9_lullOf 137 = .ok (.ifCond .eq 8, 3) := by decide +kernel
theorem dX9_lullOf_140 : decode cX9_lullOf 140 = .ok (.iload 6, 2) := by decide +kernel
theorem dX9_lullOf_142 : decode cX9_lullOf 142 = .ok (.goto 5, 3) := by decide +kernel
theorem dX9_lullOf_145 : decode cX9_lullOf 145 = .ok (.iload 4, 2) := by decide +kernel
theorem dX9_lullOf_147 : decode cX9_lullOf 147 = .ok (.istore 4, 2) := by decide +kernel
theorem dX9_lullOf_149 : decode cX9_lullOf 149 = .ok (.iload 9, 2) := by decide +kernel
theorem dX9_lullOf_151 : decode cX9_lullOf 151 = .ok (.ifCond .eq 11, 3) := by decide +kernel
theorem dX9_lullOf_154 : decode cX9_lullOf 154 = .ok (.iload 7, 2) := by decide +kernel
theorem dX9_lullOf_156 : decode cX9_lullOf 156 = .ok (.iload 8, 2) := by decide +kernel
theorem dX9_lullOf_158 : decode cX9_lullOf 158 = .ok (.isub, 1) := by decide +kernel
theorem dX9_lullOf_159 : decode cX9_lullOf 159 = .ok (.goto 5, 3) := by decide +kernel
theorem dX9_lullOf_162 : decode cX9_lullOf 162 = .ok (.iload 5, 2) := by decide +kernel
theorem dX9_lullOf_164 : decode cX9_lullOf 164 = .ok (.istore 5, 2) := by decide +kernel
theorem dX9_lullOf_166 : decode cX9_lullOf 166 = .ok (.iinc 6 1, 3) := by decide +kernel
theorem dX9_lullOf_169 : decode cX9_lullOf 169 = .ok (.goto (-156), 3) := by decide +kernel
theorem dX9_lullOf_172 : decode cX9_lullOf 172 = .ok (.iload_n 3, 1) := by decide +kernel
theorem dX9_lullOf_173 : decode cX9_lullOf 173 = .ok (.ifCond .ne 8, 3) := by decide +kernel
theorem dX9_lullOf_176 : decode cX9_lullOf 176 = .ok (.iload 4, 2) := by decide +kernel
theorem dX9_lullOf_178 : decode cX9_lullOf 178 = .ok (.goto 5, 3) := by decide +kernel
theorem dX9_lullOf_181 : decode cX9_lullOf 181 = .ok (.iload 5, 2) := by decide +kernel
theorem dX9_lullOf_183 : decode cX9_lullOf 183 = .ok (.ireturn, 1) := by decide +kernel
theorem dX9_isMany_0 : decode cX9_isMany 0 = .ok (.iload_n 0, 1) := by decide +kernel
theorem dX9_isMany_1 : decode cX9_isMany 1 = .ok (.iconst 1, 1) := by decide +kernel
theorem dX9_isMany_2 : decode cX9_isMany 2 = .ok (.bipush 100, 2) := by decide +kernel
theorem dX9_isMany_4 : decode cX9_isMany 4 = .ok (.invokestatic 55, 3) := by decide +kernel
theorem dX9_isMany_7 : decode cX9_isMany 7 = .ok (.ireturn, 1) := by decide +kernel
theorem dX9_lull_0 : decode cX9_lull 0 = .ok (.iload_n 1, 1) := by decide +kernel
theorem dX9_lull_1 : decode cX9_lull 1 = .ok (.invokestatic 90, 3) := by decide +kernel
theorem dX9_lull_4 : decode cX9_lull 4 = .ok (.ifCond .eq 29, 3) := by decide +kernel
theorem dX9_lull_7 : decode cX9_lull 7 = .ok (.iload_n 2, 1) := by decide +kernel
theorem dX9_lull_8 : decode cX9_lull 8 = .ok (.invokestatic 141, 3) := by decide +kernel
theorem dX9_lull_11 : decode cX9_lull 11 = .ok (.ifCond .eq 22, 3) := by decide +kernel
theorem dX9_lull_14 : decode cX9_lull 14 = .ok (.iload_n 3, 1) := by decide +kernel
theorem dX9_lull_15 : decode cX9_lull 15 = .ok (.iconst 0, 1) := by decide +kernel
theorem dX9_lull_16 : decode cX9_lull 16 = .ok (.iconst 1, 1) := by decide +kernel
theorem dX9_lull_17 : decode cX9_lull 17 = .ok (.invokestatic 55, 3) := by decide +kernel
theorem dX9_lull_20 : decode cX9_lull 20 = .ok (.ifCond .eq 13, 3) := by decide +kernel
theorem dX9_lull_23 : decode cX9_lull 23 = .ok (.aload_n 0, 1) := by decide +kernel
theorem dX9_lull_24 : decode cX9_lull 24 = .ok (.iload_n 1, 1) := by decide +kernel
theorem dX9_lull_25 : decode cX9_lull 25 = .ok (.iload_n 2, 1) := by decide +kernel
theorem dX9_lull_26 : decode cX9_lull 26 = .ok (.iload_n 3, 1) := by decide +kernel
theorem dX9_lull_27 : decode cX9_lull 27 = .ok (.invokevirtual 144, 3) := by decide +kernel
theorem dX9_lull_30 : decode cX9_lull 30 = .ok (.goto 5, 3) := by decide +kernel
theorem dX9_lull_33 : decode cX9_lull 33 = .ok (.bipush (-2), 2) := by decide +kernel
theorem dX9_lull_35 : decode cX9_lull 35 = .ok (.ireturn, 1) := by decide +kernel
theorem dX9_stepNow_0 : decode cX9_stepNow 0 = .ok (.aload_n 0, 1) := by decide +kernel
theorem dX9_stepNow_1 : decode cX9_stepNow 1 = .ok (.getfield 25, 3) := by decide +kernel
theorem dX9_stepNow_4 : decode cX9_stepNow 4 = .ok (.iconst 0, 1) := by decide +kernel
theorem dX9_stepNow_5 : decode cX9_stepNow 5 = .ok (.iaload, 1) := by decide +kernel
theorem dX9_stepNow_6 : decode cX9_stepNow 6 = .ok (.aload_n 0, 1) := by decide +kernel
theorem dX9_stepNow_7 : decode cX9_stepNow 7 = .ok (.getfield 28, 3) := by decide +kernel
theorem dX9_stepNow_10 : decode cX9_stepNow 10 = .ok (.iload_n 1, 1) := by decide +kernel
theorem dX9_stepNow_11 : decode cX9_stepNow 11 = .ok (.iaload, 1) := by decide +kernel
theorem dX9_stepNow_12 : decode cX9_stepNow 12 = .ok (.isub, 1) := by decide +kernel
theorem dX9_stepNow_13 : decode cX9_stepNow 13 = .ok (.aload_n 0, 1) := by decide +kernel
theorem dX9_stepNow_14 : decode cX9_stepNow 14 = .ok (.getfield 25, 3) := by decide +kernel
theorem dX9_stepNow_17 : decode cX9_stepNow 17 = .ok (.iconst 3, 1) := by decide +kernel
theorem dX9_stepNow_18 : decode cX9_stepNow 18 = .ok (.iaload, 1) := by decide +kernel
theorem dX9_stepNow_19 : decode cX9_stepNow 19 = .ok (.if_icmp .le 7, 3) := by decide +kernel
theorem dX9_stepNow_22 : decode cX9_stepNow 22 = .ok (.iconst 4, 1) := by decide +kernel
theorem dX9_stepNow_23 : decode cX9_stepNow 23 = .ok (.goto 8, 3) := by decide +kernel
theorem dX9_stepNow_26 : decode cX9_stepNow 26 = .ok (.aload_n 0, 1) := by decide +kernel
theorem dX9_stepNow_27 : decode cX9_stepNow 27 = .ok (.iload_n 1, 1) := by decide +kernel
theorem dX9_stepNow_28 : decode cX9_stepNow 28 = .ok (.invokevirtual 120, 3) := by decide +kernel
theorem dX9_stepNow_31 : decode cX9_stepNow 31 = .ok (.ireturn, 1) := by decide +kernel
theorem dX9_stepOf_0 : decode cX9_stepOf 0 = .ok (.aload_n 0, 1) := by decide +kernel
theorem dX9_stepOf_1 : decode cX9_stepOf 1 = .ok (.invokevirtual 117, 3) := by decide +kernel
theorem dX9_stepOf_4 : decode cX9_stepOf 4 = .ok (.aload_n 0, 1) := by decide +kernel
theorem dX9_stepOf_5 : decode cX9_stepOf 5 = .ok (.iload_n 1, 1) := by decide +kernel
theorem dX9_stepOf_6 : decode cX9_stepOf 6 = .ok (.invokevirtual 148, 3) := by decide +kernel
theorem dX9_stepOf_9 : decode cX9_stepOf 9 = .ok (.ireturn, 1) := by decide +kernel
theorem dX9_step_0 : decode cX9_step 0 = .ok (.iload_n 1, 1) := by decide +kernel
theorem dX9_step_1 : decode cX9_step 1 = .ok (.invokestatic 90, 3) := by decide +kernel
theorem dX9_step_4 : decode cX9_step 4 = .ok (.ifCond .eq 11, 3) := by decide +kernel
theorem dX9_step_7 : decode cX9_step 7 = .ok (.aload_n 0, 1) := by decide +kernel
theorem dX9_step_8 : decode cX9_step 8 = .ok (.iload_n 1, 1) := by decide +kernel
theorem dX9_step_9 : decode cX9_step 9 = .ok (.invokevirtual 151, 3) := by decide +kernel
theorem dX9_step_12 : decode cX9_step 12 = .ok (.goto 5, 3) := by decide +kernel
theorem dX9_step_15 : decode cX9_step 15 = .ok (.bipush (-2), 2) := by decide +kernel
theorem dX9_step_17 : decode cX9_step 17 = .ok (.ireturn, 1) := by decide +kernel
theorem dX9_fallNow_0 : decode cX9_fallNow 0 = .ok (.aload_n 0, 1) := by decide +kernel
theorem dX9_fallNow_1 : decode cX9_fallNow 1 = .ok (.iload_n 1, 1) := by decide +kernel
theorem dX9_fallNow_2 : decode cX9_fallNow 2 = .ok (.invokevirtual 148, 3) := by decide +kernel
theorem dX9_fallNow_5 : decode cX9_fallNow 5 = .ok (.istore_n 2, 1) := by decide +kernel
theorem dX9_fallNow_6 : decode cX9_fallNow 6 = .ok (.aload_n 0, 1) := by decide +kernel
theorem dX9_fallNow_7 : decode cX9_fallNow 7 = .ok (.getfield 25, 3) := by decide +kernel
theorem dX9_fallNow_10 : decode cX9_fallNow 10 = .ok (.iload_n 2, 1) := by decide +kernel
theorem dX9_fallNow_11 : decode cX9_fallNow 11 = .ok (.ifCond .ne 8, 3) := by decide +kernel
theorem dX9_fallNow_14 : decode cX9_fallNow 14 = .ok (.bipush 7, 2) := by decide +kernel
theorem dX9_fallNow_16 : decode cX9_fallNow 16 = .ok (.goto 23, 3) := by decide +kernel
theorem dX9_fallNow_19 : decode cX9_fallNow 19 = .ok (.iload_n 2, 1) := by decide +kernel
theorem dX9_fallNow_20 : decode cX9_fallNow 20 = .ok (.iconst 1, 1) := by decide +kernel
theorem dX9_fallNow_21 : decode cX9_fallNow 21 = .ok (.if_icmp .ne 7, 3) := by decide +kernel
theorem dX9_fallNow_24 : decode cX9_fallNow 24 = .ok (.iconst 4, 1) := by decide +kernel
theorem dX9_fallNow_25 : decode cX9_fallNow 25 = .ok (.goto 14, 3) := by decide +kernel
theorem dX9_fallNow_28 : decode cX9_fallNow 28 = .ok (.iload_n 2, 1) := by decide +kernel
theorem dX9_fallNow_29 : decode cX9_fallNow 29 = .ok (.iconst 2, 1) := by decide +kernel
theorem dX9_fallNow_30 : decode cX9_fallNow 30 = .ok (.if_icmp .ne 7, 3) := by decide +kernel
theorem dX9_fallNow_33 : decode cX9_fallNow 33 = .ok (.iconst 5, 1) := by decide +kernel
theorem dX9_fallNow_34 : decode cX9_fallNow 34 = .ok (.goto 5, 3) := by decide +kernel
theorem dX9_fallNow_37 : decode cX9_fallNow 37 = .ok (.bipush 6, 2) := by decide +kernel
theorem dX9_fallNow_39 : decode cX9_fallNow 39 = .ok (.iaload, 1) := by decide +kernel
theorem dX9_fallNow_40 : decode cX9_fallNow 40 = .ok (.aload_n 0, 1) := by decide +kernel
theorem dX9_fallNow_41 : decode cX9_fallNow 41 = .ok (.getfield 25, 3) := by decide +kernel
theorem dX9_fallNow_44 : decode cX9_fallNow 44 = .ok (.bipush 9, 2) := by decide +kernel
theorem dX9_fallNow_46 : decode cX9_fallNow 46 = .ok (.iaload, 1) := by decide +kernel
theorem dX9_fallNow_47 : decode cX9_fallNow 47 = .ok (.iadd, 1) := by decide +kernel
theorem dX9_fallNow_48 : decode cX9_fallNow 48 = .ok (.istore_n 3, 1) := by decide +kernel
theorem dX9_fallNow_49 : decode cX9_fallNow 49 = .ok (.iload_n 2, 1) := by decide +kernel
theorem dX9_fallNow_50 : decode cX9_fallNow 50 = .ok (.iconst 4, 1) := by decide +kernel
theorem dX9_fallNow_51 : decode cX9_fallNow 51 = .ok (.if_icmp .eq 9, 3) := by decide +kernel
theorem dX9_fallNow_54 : decode cX9_fallNow 54 = .ok (.iload_n 3, 1) := by decide +kernel
theorem dX9_fallNow_55 : decode cX9_fallNow 55 = .ok (.bipush 16, 2) := by decide +kernel
theorem dX9_fallNow_57 : decode cX9_fallNow 57 = .ok (.if_icmp .le 8, 3) := by decide +kernel
theorem dX9_fallNow_60 : decode cX9_fallNow 60 = .ok (.bipush 16, 2) := by decide +kernel
theorem dX9_fallNow_62 : decode cX9_fallNow 62 = .ok (.goto 4, 3) := by decide +kernel
theorem dX9_fallNow_65 : decode cX9_fallNow 65 = .ok (.iload_n 3, 1) := by decide +kernel
theorem dX9_fallNow_66 : decode cX9_fallNow 66 = .ok (.ireturn, 1) := by decide +kernel
theorem dX9_fallOf_0 : decode cX9_fallOf 0 = .ok (.aload_n 0, 1) := by decide +kernel
theorem dX9_fallOf_1 : decode cX9_fallOf 1 = .ok (.invokevirtual 117, 3) := by decide +kernel
theorem dX9_fallOf_4 : decode cX9_fallOf 4 = .ok (.aload_n 0, 1) := by decide +kernel
theorem dX9_fallOf_5 : decode cX9_fallOf 5 = .ok (.iload_n 1, 1) := by decide +kernel
theorem dX9_fallOf_6 : decode cX9_fallOf 6 = .ok (.invokevirtual 154, 3) := by decide +kernel
theorem dX9_fallOf_9 : decode cX9_fallOf 9 = .ok (.ireturn, 1) := by decide +kernel
theorem dX9_fall_0 : decode cX9_fall 0 = .ok (.iload_n 1, 1) := by decide +kernel
theorem dX9_fall_1 : decode cX9_fall 1 = .ok (.invokestatic 90, 3) := by decide +kernel
theorem dX9_fall_4 : decode cX9_fall 4 = .ok (.ifCond .eq 11, 3) := by decide +kernel
theorem dX9_fall_7 : decode cX9_fall 7 = .ok (.aload_n 0, 1) := by decide +kernel
theorem dX9_fall_8 : decode cX9_fall 8 = .ok (.iload_n 1, 1) := by decide +kernel
theorem dX9_fall_9 : decode cX9_fall 9 = .ok (.invokevirtual 157, 3) := by decide +kernel
theorem dX9_fall_12 : decode cX9_fall 12 = .ok (.goto 5, 3) := by decide +kernel
theorem dX9_fall_15 : decode cX9_fall 15 = .ok (.bipush (-2), 2) := by decide +kernel
theorem dX9_fall_17 : decode cX9_fall 17 = .ok (.ireturn, 1) := by decide +kernel
theorem dX9_climbs_0 : decode cX9_climbs 0 = .ok (.iload_n 1, 1) := by decide +kernel
theorem dX9_climbs_1 : decode cX9_climbs 1 = .ok (.istore_n 2, 1) := by decide +kernel
theorem dX9_climbs_2 : decode cX9_climbs 2 = .ok (.aload_n 0, 1) := by decide +kernel
theorem dX9_climbs_3 : decode cX9_climbs 3 = .ok (.iconst 0, 1) := by decide +kernel
theorem dX9_climbs_4 : decode cX9_climbs 4 = .ok (.putfield 160, 3) := by decide +kernel
theorem dX9_climbs_7 : decode cX9_climbs 7 = .ok (.iconst 1, 1) := by decide +kernel
theorem dX9_climbs_8 : decode cX9_climbs 8 = .ok (.istore_n 3, 1) := by decide +kernel
theorem dX9_climbs_9 : decode cX9_climbs 9 = .ok (.iload_n 3, 1) := by decide +kernel
theorem dX9_climbs_10 : decode cX9_climbs 10 = .ok (.aload_n 0, 1) := by decide +kernel
theorem dX9_climbs_11 : decode cX9_climbs 11 = .ok (.getfield 25, 3) := by decide +kernel
theorem dX9_climbs_14 : decode cX9_climbs 14 = .ok (.iconst 1, 1) := by decide +kernel
theorem dX9_climbs_15 : decode cX9_climbs 15 = .ok (.iaload, 1) := by decide +kernel
theorem dX9_climbs_16 : decode cX9_climbs 16 = .ok (.if_icmp .gt 97, 3) := by decide +kernel
theorem dX9_climbs_19 : decode cX9_climbs 19 = .ok (.iload_n 2, 1) := by decide +kernel
theorem dX9_climbs_20 : decode cX9_climbs 20 = .ok (.aload_n 0, 1) := by decide +kernel
theorem dX9_climbs_21 : decode cX9_climbs 21 = .ok (.getfield 25, 3) := by decide +kernel
theorem dX9_climbs_24 : decode cX9_climbs 24 = .ok (.bipush 10, 2) := by decide +kernel
theorem dX9_climbs_26 : decode cX9_climbs 26 = .ok (.iaload, 1) := by decide +kernel
theorem dX9_climbs_27 : decode cX9_climbs 27 = .ok (.iadd, 1) := by decide +kernel
theorem dX9_climbs_28 : decode cX9_climbs 28 = .ok (.istore_n 2, 1) := by decide +kernel
theorem dX9_climbs_29 : decode cX9_climbs 29 = .ok (.iload_n 2, 1) := by decide +kernel
theorem dX9_climbs_30 : decode cX9_climbs 30 = .ok (.sipush 400, 3) := by decide +kernel
theorem dX9_climbs_33 : decode cX9_climbs 33 = .ok (.if_icmp .ge 18, 3) := by decide +kernel
theorem dX9_climbs_36 : decode cX9_climbs 36 = .ok (.aload_n 0, 1) := by decide +kernel
theorem dX9_climbs_37 : decode cX9_climbs 37 = .ok (.iload_n 2, 1) := by decide +kernel
theorem dX9_climbs_38 : decode cX9_climbs 38 = .ok (.invokevirtual 126, 3) := by decide +kernel
theorem dX9_climbs_41 : decode cX9_climbs 41 = .ok (.iconst 1, 1) := by decide +kernel
theorem dX9_climbs_42 : decode cX9_climbs 42 = .ok (.if_icmp .ne 9, 3) := by decide +kernel
theorem dX9_climbs_45 : decode cX9_climbs 45 = .ok (.iinc 2 1, 3) := by decide +kernel
theorem dX9_climbs_48 : decode cX9_climbs 48 = .ok (.goto (-19), 3) := by decide +kernel
theorem dX9_climbs_51 : decode cX9_climbs 51 = .ok (.iload_n 2, 1) := by decide +kernel
theorem dX9_climbs_52 : decode cX9_climbs 52 = .ok (.sipush 399, 3) := by decide +kernel
theorem dX9_climbs_55 : decode cX9_climbs 55 = .ok (.if_icmp .gt 27, 3) := by decide +kernel
theorem dX9_climbs_58 : decode cX9_climbs 58 = .ok (.aload_n 0, 1) := by decide +kernel
theorem dX9_climbs_59 : decode cX9_climbs 59 = .ok (.getfield 28, 3) := by decide +kernel
theorem dX9_climbs_62 : decode cX9_climbs 62 = .ok (.iload_n 2, 1) := by decide +kernel
theorem dX9_climbs_63 : decode cX9_climbs 63 = .ok (.iaload, 1) := by decide +kernel
theorem dX9_climbs_64 : decode cX9_climbs 64 = .ok (.aload_n 0, 1) := by decide +kernel
theorem dX9_climbs_65 : decode cX9_climbs 65 = .ok (.getfield 25, 3) := by decide +kernel
theorem dX9_climbs_68 : decode cX9_climbs 68 = .ok (.iconst 0, 1) := by decide +kernel
theorem dX9_climbs_69 : decode cX9_climbs 69 = .ok (.iaload, 1) := by decide +kernel
theorem dX9_climbs_70 : decode cX9_climbs 70 = .ok (.iload_n 3, 1) := by decide +kernel
theorem dX9_climbs_71 : decode cX9_climbs 71 = .ok (.aload_n 0, 1) := by decide +kernel
theorem dX9_climbs_72 : decode cX9_climbs 72 = .ok (.getfield 25, 3) := by decide +kernel
theorem dX9_climbs_75 : decode cX9_climbs 75 = .ok (.iconst 2, 1) := by decide +kernel
theorem dX9_climbs_76 : decode cX9_climbs 76 = .ok (.iaload, 1) := by decide +kernel
theorem dX9_climbs_77 : decode cX9_climbs 77 = .ok (.imul, 1) := by decide +kernel
theorem dX9_climbs_78 : decode cX9_climbs 78 = .ok (.iadd, 1) := by decide +kernel
theorem dX9_climbs_79 : decode cX9_climbs 79 = .ok (.if_icmp .le 5, 3) := by decide +kernel
theorem dX9_climbs_82 : decode cX9_climbs 82 = .ok (.iconst (-1), 1) := by decide +kernel
theorem dX9_climbs_83 : decode cX9_climbs 83 = .ok (.ireturn, 1) := by decide +kernel
theorem dX9_climbs_84 : decode cX9_climbs 84 = .ok (.aload_n 0, 1) := by decide +kernel
theorem dX9_climbs_85 : decode cX9_climbs 85 = .ok (.dup, 1) := by decide +kernel
theorem dX9_climbs_86 : decode cX9_climbs 86 = .ok (.getfield 160, 3) := by decide +kernel
theorem dX9_climbs_89 : decode cX9_climbs 89 = .ok (.aload_n 0, 1) := by decide +kernel
theorem dX9_climbs_90 : decode cX9_climbs 90 = .ok (.iload_n 2, 1) := by decide +kernel
theorem dX9_climbs_91 : decode cX9_climbs 91 = .ok (.invokevirtual 126, 3) := by decide +kernel
theorem dX9_climbs_94 : decode cX9_climbs 94 = .ok (.iconst 2, 1) := by decide +kernel
theorem dX9_climbs_95 : decode cX9_climbs 95 = .ok (.if_icmp .ne 7, 3) := by decide +kernel
theorem dX9_climbs_98 : decode cX9_climbs 98 = .ok (.iconst 1, 1) := by decide +kernel
theorem dX9_climbs_99 : decode cX9_climbs 99 = .ok (.goto 4, 3) := by decide +kernel
theorem dX9_climbs_102 : decode cX9_climbs 102 = .ok (.iconst 0, 1) := by decide +kernel
theorem dX9_climbs_103 : decode cX9_climbs 103 = .ok (.iadd, 1) := by decide +kernel
theorem dX9_climbs_104 : decode cX9_climbs 104 = .ok (.putfield 160, 3) := by decide +kernel
theorem dX9_climbs_107 : decode cX9_climbs 107 = .ok (.iinc 3 1, 3) := by decide +kernel
theorem dX9_climbs_110 : decode cX9_climbs 110 = .ok (.goto (-101), 3) := by decide +kernel
theorem dX9_climbs_113 : decode cX9_climbs 113 = .ok (.iload_n 2, 1) := by decide +kernel
theorem dX9_climbs_114 : decode cX9_climbs 114 = .ok (.ireturn, 1) := by decide +kernel
theorem dX9_climbOf_0 : decode cX9_climbOf 0 = .ok (.aload_n 0, 1) := by decide +kernel
theorem dX9_climbOf_1 : decode cX9_climbOf 1 = .ok (.invokevirtual 117, 3) := by decide +kernel
theorem dX9_climbOf_4 : decode cX9_climbOf 4 = .ok (.aload_n 0, 1) := by decide +kernel
theorem dX9_climbOf_5 : decode cX9_climbOf 5 = .ok (.iload_n 1, 1) := by decide +kernel
theorem dX9_climbOf_6 : decode cX9_climbOf 6 = .ok (.invokevirtual 163, 3) := by decide +kernel
theorem dX9_climbOf_9 : decode cX9_climbOf 9 = .ok (.ireturn, 1) := by decide +kernel
theorem dX9_climb_0 : decode cX9_climb 0 = .ok (.iload_n 1, 1) := by decide +kernel
theorem dX9_climb_1 : decode cX9_climb 1 = .ok (.invokestatic 90, 3) := by decide +kernel
theorem dX9_climb_4 : decode cX9_climb 4 = .ok (.ifCond .eq 11, 3) := by decide +kernel
theorem dX9_climb_7 : decode cX9_climb 7 = .ok (.aload_n 0, 1) := by decide +kernel
theorem dX9_climb_8 : decode cX9_climb 8 = .ok (.iload_n 1, 1) := by decide +kernel
theorem dX9_climb_9 : decode cX9_climb 9 = .ok (.invokevirtual 166, 3) := by decide +kernel
theorem dX9_climb_12 : decode cX9_climb 12 = .ok (.goto 5, 3) := by decide +kernel
theorem dX9_climb_15 : decode cX9_climb 15 = .ok (.bipush (-2), 2) := by decide +kernel
theorem dX9_climb_17 : decode cX9_climb 17 = .ok (.ireturn, 1) := by decide +kernel
theorem dX9_bangsOf_0 : decode cX9_bangsOf 0 = .ok (.aload_n 0, 1) := by decide +kernel
theorem dX9_bangsOf_1 : decode cX9_bangsOf 1 = .ok (.iload_n 1, 1) := by decide +kernel
theorem dX9_bangsOf_2 : decode cX9_bangsOf 2 = .ok (.invokevirtual 166, 3) := by decide +kernel
theorem dX9_bangsOf_5 : decode cX9_bangsOf 5 = .ok (.istore_n 2, 1) := by decide +kernel
theorem dX9_bangsOf_6 : decode cX9_bangsOf 6 = .ok (.aload_n 0, 1) := by decide +kernel
theorem dX9_bangsOf_7 : decode cX9_bangsOf 7 = .ok (.getfield 160, 3) := by decide +kernel
theorem dX9_bangsOf_10 : decode cX9_bangsOf 10 = .ok (.ireturn, 1) := by decide +kernel
theorem dX9_bangs_0 : decode cX9_bangs 0 = .ok (.iload_n 1, 1) := by decide +kernel
theorem dX9_bangs_1 : decode cX9_bangs 1 = .ok (.invokestatic 90, 3) := by decide +kernel
theorem dX9_bangs_4 : decode cX9_bangs 4 = .ok (.ifCond .eq 11, 3) := by decide +kernel
theorem dX9_bangs_7 : decode cX9_bangs 7 = .ok (.aload_n 0, 1) := by decide +kernel
theorem dX9_bangs_8 : decode cX9_bangs 8 = .ok (.iload_n 1, 1) := by decide +kernel
theorem dX9_bangs_9 : decode cX9_bangs 9 = .ok (.invokevirtual 169, 3) := by decide +kernel
theorem dX9_bangs_12 : decode cX9_bangs 12 = .ok (.goto 5, 3) := by decide +kernel
theorem dX9_bangs_15 : decode cX9_bangs 15 = .ok (.bipush (-2), 2) := by decide +kernel
theorem dX9_bangs_17 : decode cX9_bangs 17 = .ok (.ireturn, 1) := by decide +kernel
theorem dX9_power_0 : decode cX9_power 0 = .ok (.lconst 1, 1) := by decide +kernel
theorem dX9_power_1 : decode cX9_power 1 = .ok (.lstore_n 2, 1) := by decide +kernel
theorem dX9_power_2 : decode cX9_power 2 = .ok (.iconst 0, 1) := by decide +kernel
theorem dX9_power_3 : decode cX9_power 3 = .ok (.istore 4, 2) := by decide +kernel
theorem dX9_power_5 : decode cX9_power 5 = .ok (.iload 4, 2) := by decide +kernel
theorem dX9_power_7 : decode cX9_power 7 = .ok (.iload_n 1, 1) := by decide +kernel
theorem dX9_power_8 : decode cX9_power 8 = .ok (.if_icmp .ge 14, 3) := by decide +kernel
theorem dX9_power_11 : decode cX9_power 11 = .ok (.lload_n 2, 1) := by decide +kernel
theorem dX9_power_12 : decode cX9_power 12 = .ok (.iload_n 0, 1) := by decide +kernel
theorem dX9_power_13 : decode cX9_power 13 = .ok (.i2l, 1) := by decide +kernel
theorem dX9_power_14 : decode cX9_power 14 = .ok (.lmul, 1) := by decide +kernel
theorem dX9_power_15 : decode cX9_power 15 = .ok (.lstore_n 2, 1) := by decide +kernel
theorem dX9_power_16 : decode cX9_power 16 = .ok (.iinc 4 1, 3) := by decide +kernel
theorem dX9_power_19 : decode cX9_power 19 = .ok (.goto (-14), 3) := by decide +kernel
theorem dX9_power_22 : decode cX9_power 22 = .ok (.lload_n 2, 1) := by decide +kernel
theorem dX9_power_23 : decode cX9_power 23 = .ok (.lreturn, 1) := by decide +kernel
theorem dX9_safeNow_0 : decode cX9_safeNow 0 = .ok (.aload_n 0, 1) := by decide +kernel
theorem dX9_safeNow_1 : decode cX9_safeNow 1 = .ok (.iload_n 1, 1) := by decide +kernel
theorem dX9_safeNow_2 : decode cX9_safeNow 2 = .ok (.invokevirtual 163, 3) := by decide +kernel
theorem dX9_safeNow_5 : decode cX9_safeNow 5 = .ok (.iconst (-1), 1) := by decide +kernel
theorem dX9_safeNow_6 : decode cX9_safeNow 6 = .ok (.if_icmp .eq 7, 3) := by decide +kernel
theorem dX9_safeNow_9 : decode cX9_safeNow 9 = .ok (.iconst 1, 1) := by decide +kernel
theorem dX9_safeNow_10 : decode cX9_safeNow 10 = .ok (.goto 4, 3) := by decide +kernel
theorem dX9_safeNow_13 : decode cX9_safeNow 13 = .ok (.iconst 0, 1) := by decide +kernel
theorem dX9_safeNow_14 : decode cX9_safeNow 14 = .ok (.istore_n 2, 1) := by decide +kernel
theorem dX9_safeNow_15 : decode cX9_safeNow 15 = .ok (.iload_n 2, 1) := by decide +kernel
theorem dX9_safeNow_16 : decode cX9_safeNow 16 = .ok (.ifCond .eq 46, 3) := by decide +kernel
theorem dX9_safeNow_19 : decode cX9_safeNow 19 = .ok (.bipush 16, 2) := by decide +kernel
theorem dX9_safeNow_21 : decode cX9_safeNow 21 = .ok (.aload_n 0, 1) := by decide +kernel
theorem dX9_safeNow_22 : decode cX9_safeNow 22 = .ok (.iload_n 1, 1) := by decide +kernel
theorem dX9_safeNow_23 : decode cX9_safeNow 23 = .ok (.invokevirtual 154, 3) := by decide +kernel
theorem dX9_safeNow_26 : decode cX9_safeNow 26 = .ok (.isub, 1) := by decide +kernel
theorem dX9_safeNow_27 : decode cX9_safeNow 27 = .ok (.i2l, 1) := by decide +kernel
theorem dX9_safeNow_28 : decode cX9_safeNow 28 = .ok (.bipush 16, 2) := by decide +kernel
theorem dX9_safeNow_30 : decode cX9_safeNow 30 = .ok (.aload_n 0, 1) := by decide +kernel
theorem dX9_safeNow_31 : decode cX9_safeNow 31 = .ok (.getfield 25, 3) := by decide +kernel
theorem dX9_safeNow_34 : decode cX9_safeNow 34 = .ok (.bipush 8, 2) := by decide +kernel
theorem dX9_safeNow_36 : decode cX9_safeNow 36 = .ok (.iaload, 1) := by decide +kernel
theorem dX9_safeNow_37 : decode cX9_safeNow 37 = .ok (.isub, 1) := by decide +kernel
theorem dX9_safeNow_38 : decode cX9_safeNow 38 = .ok (.aload_n 0, 1) := by decide +kernel
theorem dX9_safeNow_39 : decode cX9_safeNow 39 = .ok (.getfield 160, 3) := by decide +kernel
theorem dX9_safeNow_42 : decode cX9_safeNow 42 = .ok (.invokestatic 172, 3) := by decide +kernel
theorem dX9_safeNow_45 : decode cX9_safeNow 45 = .ok (.lmul, 1) := by decide +kernel
theorem dX9_safeNow_46 : decode cX9_safeNow 46 = .ok (.bipush 16, 2) := by decide +kernel
theorem dX9_safeNow_48 : decode cX9_safeNow 48 = .ok (.bipush 12, 2) := by decide +kernel
theorem dX9_safeNow_50 : decode cX9_safeNow 50 = .ok (.aload_n 0, 1) := by decide +kernel
theorem dX9_safeNow_51 : decode cX9_safeNow 51 = .ok (.getfield 160, 3) := by decide +kernel
theorem dX9_safeNow_54 : decode cX9_safeNow 54 = .ok (.isub, 1) := by decide +kernel
theorem dX9_safeNow_55 : decode cX9_safeNow 55 = .ok (.invokestatic 172, 3) := by decide +kernel
theorem dX9_safeNow_58 : decode cX9_safeNow 58 = .ok (.lmul, 1) := by decide +kernel
theorem dX9_safeNow_59 : decode cX9_safeNow 59 = .ok (.goto 4, 3) := by decide +kernel
theorem dX9_safeNow_62 : decode cX9_safeNow 62 = .ok (.lconst 0, 1) := by decide +kernel
theorem dX9_safeNow_63 : decode cX9_safeNow 63 = .ok (.lreturn, 1) := by decide +kernel
theorem dX9_safeOf_0 : decode cX9_safeOf 0 = .ok (.aload_n 0, 1) := by decide +kernel
theorem dX9_safeOf_1 : decode cX9_safeOf 1 = .ok (.invokevirtual 117, 3) := by decide +kernel
theorem dX9_safeOf_4 : decode cX9_safeOf 4 = .ok (.aload_n 0, 1) := by decide +kernel
theorem dX9_safeOf_5 : decode cX9_safeOf 5 = .ok (.iload_n 1, 1) := by decide +kernel
theorem dX9_safeOf_6 : decode cX9_safeOf 6 = .ok (.invokevirtual 176, 3) := by decide +kernel
theorem dX9_safeOf_9 : decode cX9_safeOf 9 = .ok (.bipush 16, 2) := by decide +kernel
theorem dX9_safeOf_11 : decode cX9_safeOf 11 = .ok (.bipush 13, 2) := by decide +kernel
theorem dX9_safeOf_13 : decode cX9_safeOf 13 = .ok (.invokestatic 172, 3) := by decide +kernel
theorem dX9_safeOf_16 : decode cX9_safeOf 16 = .ok (.iload_n 2, 1) := by decide +kernel
theorem dX9_safeOf_17 : decode cX9_safeOf 17 = .ok (.invokestatic 180, 3) := by decide +kernel
theorem dX9_safeOf_20 : decode cX9_safeOf 20 = .ok (.lreturn, 1) := by decide +kernel
theorem dX9_safe_0 : decode cX9_safe 0 = .ok (.iload_n 1, 1) := by decide +kernel
theorem dX9_safe_1 : decode cX9_safe 1 = .ok (.invokestatic 90, 3) := by decide +kernel
theorem dX9_safe_4 : decode cX9_safe 4 = .ok (.ifCond .eq 21, 3) := by decide +kernel
theorem dX9_safe_7 : decode cX9_safe 7 = .ok (.iload_n 2, 1) := by decide +kernel
theorem dX9_safe_8 : decode cX9_safe 8 = .ok (.iconst 0, 1) := by decide +kernel
theorem dX9_safe_9 : decode cX9_safe 9 = .ok (.iconst 1, 1) := by decide +kernel
theorem dX9_safe_10 : decode cX9_safe 10 = .ok (.invokestatic 55, 3) := by decide +kernel
theorem dX9_safe_13 : decode cX9_safe 13 = .ok (.ifCond .eq 12, 3) := by decide +kernel
theorem dX9_safe_16 : decode cX9_safe 16 = .ok (.aload_n 0, 1) := by decide +kernel
theorem dX9_safe_17 : decode cX9_safe 17 = .ok (.iload_n 1, 1) := by decide +kernel
theorem dX9_safe_18 : decode cX9_safe 18 = .ok (.iload_n 2, 1) := by decide +kernel
theorem dX9_safe_19 : decode cX9_safe 19 = .ok (.invokevirtual 184, 3) := by decide +kernel
theorem dX9_safe_22 : decode cX9_safe 22 = .ok (.goto 8, 3) := by decide +kernel
theorem dX9_safe_25 : decode cX9_safe 25 = .ok (.bipush (-2), 2) := by decide +kernel
theorem dX9_safe_27 : decode cX9_safe 27 = .ok (.invokestatic 187, 3) := by decide +kernel
theorem dX9_safe_30 : decode cX9_safe 30 = .ok (.lreturn, 1) := by decide +kernel
theorem dX9_bestOf_0 : decode cX9_bestOf 0 = .ok (.aload_n 0, 1) := by decide +kernel
theorem dX9_bestOf_1 : decode cX9_bestOf 1 = .ok (.invokevirtual 117, 3) := by decide +kernel
theorem dX9_bestOf_4 : decode cX9_bestOf 4 = .ok (.iload_n 1, 1) := by decide +kernel
theorem dX9_bestOf_5 : decode cX9_bestOf 5 = .ok (.istore_n 3, 1) := by decide +kernel
theorem dX9_bestOf_6 : decode cX9_bestOf 6 = .ok (.aload_n 0, 1) := by decide +kernel
theorem dX9_bestOf_7 : decode cX9_bestOf 7 = .ok (.iload_n 1, 1) := by decide +kernel
theorem dX9_bestOf_8 : decode cX9_bestOf 8 = .ok (.invokevirtual 176, 3) := by decide +kernel
theorem dX9_bestOf_11 : decode cX9_bestOf 11 = .ok (.lstore 4, 2) := by decide +kernel
theorem dX9_bestOf_13 : decode cX9_bestOf 13 = .ok (.iload_n 1, 1) := by decide +kernel
theorem dX9_bestOf_14 : decode cX9_bestOf 14 = .ok (.iconst 1, 1) := by decide +kernel
theorem dX9_bestOf_15 : decode cX9_bestOf 15 = .ok (.iadd, 1) := by decide +kernel
theorem dX9_bestOf_16 : decode cX9_bestOf 16 = .ok (.istore 6, 2) := by decide +kernel
theorem dX9_bestOf_18 : decode cX9_bestOf 18 = .ok (.iload 6, 2) := by decide +kernel
theorem dX9_bestOf_20 : decode cX9_bestOf 20 = .ok (.iload_n 1, 1) := by decide +kernel
theorem dX9_bestOf_21 : decode cX9_bestOf 21 = .ok (.iload_n 2, 1) := by decide +kernel
theorem dX9_bestOf_22 : decode cX9_bestOf 22 = .ok (.iadd, 1) := by decide +kernel
theorem dX9_bestOf_23 : decode cX9_bestOf 23 = .ok (.if_icmp .ge 57, 3) := by decide +kernel
theorem dX9_bestOf_26 : decode cX9_bestOf 26 = .ok (.iload 6, 2) := by decide +kernel
theorem dX9_bestOf_28 : decode cX9_bestOf 28 = .ok (.sipush 400, 3) := by decide +kernel
theorem dX9_bestOf_31 : decode cX9_bestOf 31 = .ok (.if_icmp .ge 49, 3) := by decide +kernel
theorem dX9_bestOf_34 : decode cX9_bestOf 34 = .ok (.aload_n 0, 1) := by decide +kernel
theorem dX9_bestOf_35 : decode cX9_bestOf 35 = .ok (.iload 6, 2) := by decide +kernel
theorem dX9_bestOf_37 : decode cX9_bestOf 37 = .ok (.invokevirtual 176, 3) := by decide +kernel
theorem dX9_bestOf_40 : decode cX9_bestOf 40 = .ok (.lstore 7, 2) := by decide +kernel
theorem dX9_bestOf_42 : decode cX9_bestOf 42 = .ok (.lload 7, 2) := by decide +kernel
theorem dX9_bestOf_44 : decode cX9_bestOf 44 = .ok (.lload 4, 2) := by decide +kernel
theorem dX9_bestOf_46 : decode cX9_bestOf 46 = .ok (.lcmp, 1) := by decide +kernel
theorem dX9_bestOf_47 : decode cX9_bestOf 47 = .ok (.ifCond .le 8, 3) := by decide +kernel
theorem dX9_bestOf_50 : decode cX9_bestOf 50 = .ok (.iload 6, 2) := by decide +kernel
theorem dX9_bestOf_52 : decode cX9_bestOf 52 = .ok (.goto 4, 3) := by decide +kernel
theorem dX9_bestOf_55 : decode cX9_bestOf 55 = .ok (.iload_n 3, 1) := by decide +kernel
theorem dX9_bestOf_56 : decode cX9_bestOf 56 = .ok (.istore_n 3, 1) := by decide +kernel
theorem dX9_bestOf_57 : decode cX9_bestOf 57 = .ok (.lload 7, 2) := by decide +kernel
theorem dX9_bestOf_59 : decode cX9_bestOf 59 = .ok (.lload 4, 2) := by decide +kernel
theorem dX9_bestOf_61 : decode cX9_bestOf 61 = .ok (.lcmp, 1) := by decide +kernel
theorem dX9_bestOf_62 : decode cX9_bestOf 62 = .ok (.ifCond .le 8, 3) := by decide +kernel
theorem dX9_bestOf_65 : decode cX9_bestOf 65 = .ok (.lload 7, 2) := by decide +kernel
theorem dX9_bestOf_67 : decode cX9_bestOf 67 = .ok (.goto 5, 3) := by decide +kernel
theorem dX9_bestOf_70 : decode cX9_bestOf 70 = .ok (.lload 4, 2) := by decide +kernel
theorem dX9_bestOf_72 : decode cX9_bestOf 72 = .ok (.lstore 4, 2) := by decide +kernel
theorem dX9_bestOf_74 : decode cX9_bestOf 74 = .ok (.iinc 6 1, 3) := by decide +kernel
theorem dX9_bestOf_77 : decode cX9_bestOf 77 = .ok (.goto (-59), 3) := by decide +kernel
theorem dX9_bestOf_80 : decode cX9_bestOf 80 = .ok (.iload_n 3, 1) := by decide +kernel
theorem dX9_bestOf_81 : decode cX9_bestOf 81 = .ok (.ireturn, 1) := by decide +kernel
theorem dX9_best_0 : decode cX9_best 0 = .ok (.iload_n 1, 1) := by decide +kernel
theorem dX9_best_1 : decode cX9_best 1 = .ok (.invokestatic 90, 3) := by decide +kernel
theorem dX9_best_4 : decode cX9_best 4 = .ok (.ifCond .eq 19, 3) := by decide +kernel
theorem dX9_best_7 : decode cX9_best 7 = .ok (.iload_n 2, 1) := by decide +kernel
theorem dX9_best_8 : decode cX9_best 8 = .ok (.invokestatic 141, 3) := by decide +kernel
theorem dX9_best_11 : decode cX9_best 11 = .ok (.ifCond .eq 12, 3) := by decide +kernel
theorem dX9_best_14 : decode cX9_best 14 = .ok (.aload_n 0, 1) := by decide +kernel
theorem dX9_best_15 : decode cX9_best 15 = .ok (.iload_n 1, 1) := by decide +kernel
theorem dX9_best_16 : decode cX9_best 16 = .ok (.iload_n 2, 1) := by decide +kernel
theorem dX9_best_17 : decode cX9_best 17 = .ok (.invokevirtual 190, 3) := by decide +kernel
theorem dX9_best_20 : decode cX9_best 20 = .ok (.goto 5, 3) := by decide +kernel
theorem dX9_best_23 : decode cX9_best 23 = .ok (.bipush (-2), 2) := by decide +kernel
theorem dX9_best_25 : decode cX9_best 25 = .ok (.ireturn, 1) := by decide +kernel
theorem dX9_callOf_0 : decode cX9_callOf 0 = .ok (.aload_n 0, 1) := by decide +kernel
theorem dX9_callOf_1 : decode cX9_callOf 1 = .ok (.iload_n 1, 1) := by decide +kernel
theorem dX9_callOf_2 : decode cX9_callOf 2 = .ok (.iload_n 2, 1) := by decide +kernel
theorem dX9_callOf_3 : decode cX9_callOf 3 = .ok (.invokevirtual 190, 3) := by decide +kernel
theorem dX9_callOf_6 : decode cX9_callOf 6 = .ok (.istore_n 3, 1) := by decide +kernel
theorem dX9_callOf_7 : decode cX9_callOf 7 = .ok (.iload_n 3, 1) := by decide +kernel
theorem dX9_callOf_8 : decode cX9_callOf 8 = .ok (.aload_n 0, 1) := by decide +kernel
theorem dX9_callOf_9 : decode cX9_callOf 9 = .ok (.getfield 25, 3) := by decide +kernel
theorem dX9_callOf_12 : decode cX9_callOf 12 = .ok (.bipush 11, 2) := by decide +kernel
theorem dX9_callOf_14 : decode cX9_callOf 14 = .ok (.iaload, 1) := by decide +kernel
theorem dX9_callOf_15 : decode cX9_callOf 15 = .ok (.if_icmp .ge 7, 3) := by decide +kernel
theorem dX9_callOf_18 : decode cX9_callOf 18 = .ok (.iconst (-1), 1) := by decide +kernel
theorem dX9_callOf_19 : decode cX9_callOf 19 = .ok (.goto 12, 3) := by decide +kernel
theorem dX9_callOf_22 : decode cX9_callOf 22 = .ok (.iload_n 3, 1) := by decide +kernel
theorem dX9_callOf_23 : decode cX9_callOf 23 = .ok (.aload_n 0, 1) := by decide +kernel
theorem dX9_callOf_24 : decode cX9_callOf 24 = .ok (.getfield 25, 3) := by decide +kernel
theorem dX9_callOf_27 : decode cX9_callOf 27 = .ok (.bipush 11, 2) := by decide +kernel
theorem dX9_callOf_29 : decode cX9_callOf 29 = .ok (.iaload, 1) := by decide +kernel
theorem dX9_callOf_30 : decode cX9_callOf 30 = .ok (.isub, 1) := by decide +kernel
theorem dX9_callOf_31 : decode cX9_callOf 31 = .ok (.ireturn, 1) := by decide +kernel
theorem dX9_call_0 : decode cX9_call 0 = .ok (.iload_n 1, 1) := by decide +kernel
theorem dX9_call_1 : decode cX9_call 1 = .ok (.invokestatic 90, 3) := by decide +kernel
theorem dX9_call_4 : decode cX9_call 4 = .ok (.ifCond .eq 19, 3) := by decide +kernel
theorem dX9_call_7 : decode cX9_call 7 = .ok (.iload_n 2, 1) := by decide +kernel
theorem dX9_call_8 : decode cX9_call 8 = .ok (.invokestatic 141, 3) := by decide +kernel
theorem dX9_call_11 : decode cX9_call 11 = .ok (.ifCond .eq 12, 3) := by decide +kernel
theorem dX9_call_14 : decode cX9_call 14 = .ok (.aload_n 0, 1) := by decide +kernel
theorem dX9_call_15 : decode cX9_call 15 = .ok (.iload_n 1, 1) := by decide +kernel
theorem dX9_call_16 : decode cX9_call 16 = .ok (.iload_n 2, 1) := by decide +kernel
theorem dX9_call_17 : decode cX9_call 17 = .ok (.invokevirtual 193, 3) := by decide +kernel
theorem dX9_call_20 : decode cX9_call 20 = .ok (.goto 5, 3) := by decide +kernel
theorem dX9_call_23 : decode cX9_call 23 = .ok (.bipush (-2), 2) := by decide +kernel
theorem dX9_call_25 : decode cX9_call 25 = .ok (.ireturn, 1) := by decide +kernel
theorem dX9_downOf_0 : decode cX9_downOf 0 = .ok (.aload_n 0, 1) := by decide +kernel
theorem dX9_downOf_1 : decode cX9_downOf 1 = .ok (.invokevirtual 117, 3) := by decide +kernel
theorem dX9_downOf_4 : decode cX9_downOf 4 = .ok (.iconst (-1), 1) := by decide +kernel
theorem dX9_downOf_5 : decode cX9_downOf 5 = .ok (.istore 4, 2) := by decide +kernel
theorem dX9_downOf_7 : decode cX9_downOf 7 = .ok (.iconst 0, 1) := by decide +kernel
theorem dX9_downOf_8 : decode cX9_downOf 8 = .ok (.istore 5, 2) := by decide +kernel
theorem dX9_downOf_10 : decode cX9_downOf 10 = .ok (.iload_n 1, 1) := by decide +kernel
theorem dX9_downOf_11 : decode cX9_downOf 11 = .ok (.istore 6, 2) := by decide +kernel
theorem dX9_downOf_13 : decode cX9_downOf 13 = .ok (.iload 6, 2) := by decide +kernel
theorem dX9_downOf_15 : decode cX9_downOf 15 = .ok (.iload_n 1, 1) := by decide +kernel
theorem dX9_downOf_16 : decode cX9_downOf 16 = .ok (.iload_n 2, 1) := by decide +kernel
theorem dX9_downOf_17 : decode cX9_downOf 17 = .ok (.iadd, 1) := by decide +kernel
theorem dX9_downOf_18 : decode cX9_downOf 18 = .ok (.if_icmp .ge 114, 3) := by decide +kernel
theorem dX9_downOf_21 : decode cX9_downOf 21 = .ok (.iload 6, 2) := by decide +kernel
theorem dX9_downOf_23 : decode cX9_downOf 23 = .ok (.sipush 400, 3) := by decide +kernel
theorem dX9_downOf_26 : decode cX9_downOf 26 = .ok (.if_icmp .ge 106, 3) := by decide +kernel
theorem dX9_downOf_29 : decode cX9_downOf 29 = .ok (.aload_n 0, 1) := by decide +kernel
theorem dX9_downOf_30 : decode cX9_downOf 30 = .ok (.getfield 28, 3) := by decide +kernel
theorem dX9_downOf_33 : decode cX9_downOf 33 = .ok (.iload 6, 2) := by decide +kernel
theorem dX9_downOf_35 : decode cX9_downOf 35 = .ok (.iaload, 1) := by decide +kernel
theorem dX9_downOf_36 : decode cX9_downOf 36 = .ok (.aload_n 0, 1) := by decide +kernel
theorem dX9_downOf_37 : decode cX9_downOf 37 = .ok (.getfield 25, 3) := by decide +kernel
theorem dX9_downOf_40 : decode cX9_downOf 40 = .ok (.iconst 0, 1) := by decide +kernel
theorem dX9_downOf_41 : decode cX9_downOf 41 = .ok (.iaload, 1) := by decide +kernel
theorem dX9_downOf_42 : decode cX9_downOf 42 = .ok (.if_icmp .le 20, 3) := by decide +kernel
theorem dX9_downOf_45 : decode cX9_downOf 45 = .ok (.aload_n 0, 1) := by decide +kernel
theorem dX9_downOf_46 : decode cX9_downOf 46 = .ok (.getfield 28, 3) := by decide +kernel
theorem dX9_downOf_49 : decode cX9_downOf 49 = .ok (.iload 6, 2) := by decide +kernel
theorem dX9_downOf_51 : decode cX9_downOf 51 = .ok (.iaload, 1) := by decide +kernel
theorem dX9_downOf_52 : decode cX9_downOf 52 = .ok (.aload_n 0, 1) := by decide +kernel
theorem dX9_downOf_53 : decode cX9_downOf 53 = .ok (.getfield 25, 3) := by decide +kernel
theorem dX9_downOf_56 : decode cX9_downOf 56 = .ok (.iconst 0, 1) := by decide +kernel
theorem dX9_downOf_57 : decode cX9_downOf 57 = .ok (.iaload, 1) := by decide +kernel
theorem dX9_downOf_58 : decode cX9_downOf 58 = .ok (.isub, 1) := by decide +kernel
theorem dX9_downOf_59 : decode cX9_downOf 59 = .ok (.goto 17, 3) := by decide +kernel
theorem dX9_downOf_62 : decode cX9_downOf 62 = .ok (.aload_n 0, 1) := by decide +kernel
theorem dX9_downOf_63 : decode cX9_downOf 63 = .ok (.getfield 25, 3) := by decide +kernel
theorem dX9_downOf_66 : decode cX9_downOf 66 = .ok (.iconst 0, 1) := by decide +kernel
theorem dX9_downOf_67 : decode cX9_downOf 67 = .ok (.iaload, 1) := by decide +kernel
theorem dX9_downOf_68 : decode cX9_downOf 68 = .ok (.aload_n 0, 1) := by decide +kernel
theorem dX9_downOf_69 : decode cX9_downOf 69 = .ok (.getfield 28, 3) := by decide +kernel
theorem dX9_downOf_72 : decode cX9_downOf 72 = .ok (.iload 6, 2) := by decide +kernel
theorem dX9_downOf_74 : decode cX9_downOf 74 = .ok (.iaload, 1) := by decide +kernel
theorem dX9_downOf_75 : decode cX9_downOf 75 = .ok (.isub, 1) := by decide +kernel
theorem dX9_downOf_76 : decode cX9_downOf 76 = .ok (.istore 7, 2) := by decide +kernel
theorem dX9_downOf_78 : decode cX9_downOf 78 = .ok (.iload 4, 2) := by decide +kernel
theorem dX9_downOf_80 : decode cX9_downOf 80 = .ok (.iconst (-1), 1) := by decide +kernel
theorem dX9_downOf_81 : decode cX9_downOf 81 = .ok (.if_icmp .eq 10, 3) := by decide +kernel
theorem dX9_downOf_84 : decode cX9_downOf 84 = .ok (.iload 7, 2) := by decide +kernel
theorem dX9_downOf_86 : decode cX9_downOf 86 = .ok (.iload 5, 2) := by decide +kernel
theorem dX9_downOf_88 : decode cX9_downOf 88 = .ok (.if_icmp .ge 7, 3) := by decide +kernel
theorem dX9_downOf_91 : decode cX9_downOf 91 = .ok (.iconst 1, 1) := by decide +kernel
theorem dX9_downOf_92 : decode cX9_downOf 92 = .ok (.goto 4, 3) := by decide +kernel
theorem dX9_downOf_95 : decode cX9_downOf 95 = .ok (.iconst 0, 1) := by decide +kernel
theorem dX9_downOf_96 : decode cX9_downOf 96 = .ok (.istore 8, 2) := by decide +kernel
theorem dX9_downOf_98 : decode cX9_downOf 98 = .ok (.iload 8, 2) := by decide +kernel
theorem dX9_downOf_100 : decode cX9_downOf 100 = .ok (.ifCond .eq 8, 3) := by decide +kernel
theorem dX9_downOf_103 : decode cX9_downOf 103 = .ok (.iload 6, 2) := by decide +kernel
theorem dX9_downOf_105 : decode cX9_downOf 105 = .ok (.goto 5, 3) := by decide +kernel
theorem dX9_downOf_108 : decode cX9_downOf 108 = .ok (.iload 4, 2) := by decide +kernel
theorem dX9_downOf_110 : decode cX9_downOf 110 = .ok (.istore 4, 2) := by decide +kernel
theorem dX9_downOf_112 : decode cX9_downOf 112 = .ok (.iload 8, 2) := by decide +kernel
theorem dX9_downOf_114 : decode cX9_downOf 114 = .ok (.ifCond .eq 8, 3) := by decide +kernel
theorem dX9_downOf_117 : decode cX9_downOf 117 = .ok (.iload 7, 2) := by decide +kernel
theorem dX9_downOf_119 : decode cX9_downOf 119 = .ok (.goto 5, 3) := by decide +kernel
theorem dX9_downOf_122 : decode cX9_downOf 122 = .ok (.iload 5, 2) := by decide +kernel
theorem dX9_downOf_124 : decode cX9_downOf 124 = .ok (.istore 5, 2) := by decide +kernel
theorem dX9_downOf_126 : decode cX9_downOf 126 = .ok (.iinc 6 1, 3) := by decide +kernel
theorem dX9_downOf_129 : decode cX9_downOf 129 = .ok (.goto (-116), 3) := by decide +kernel
theorem dX9_downOf_132 : decode cX9_downOf 132 = .ok (.iload_n 3, 1) := by decide +kernel
theorem dX9_downOf_133 : decode cX9_downOf 133 = .ok (.ifCond .ne 8, 3) := by decide +kernel
theorem dX9_downOf_136 : decode cX9_downOf 136 = .ok (.iload 4, 2) := by decide +kernel
theorem dX9_downOf_138 : decode cX9_downOf 138 = .ok (.goto 5, 3) := by decide +kernel
theorem dX9_downOf_141 : decode cX9_downOf 141 = .ok (.iload 5, 2) := by decide +kernel
theorem dX9_downOf_143 : decode cX9_downOf 143 = .ok (.ireturn, 1) := by decide +kernel
theorem dX9_down_0 : decode cX9_down 0 = .ok (.iload_n 1, 1) := by decide +kernel
theorem dX9_down_1 : decode cX9_down 1 = .ok (.invokestatic 90, 3) := by decide +kernel
theorem dX9_down_4 : decode cX9_down 4 = .ok (.ifCond .eq 29, 3) := by decide +kernel
theorem dX9_down_7 : decode cX9_down 7 = .ok (.iload_n 2, 1) := by decide +kernel
theorem dX9_down_8 : decode cX9_down 8 = .ok (.invokestatic 141, 3) := by decide +kernel
theorem dX9_down_11 : decode cX9_down 11 = .ok (.ifCond .eq 22, 3) := by decide +kernel
theorem dX9_down_14 : decode cX9_down 14 = .ok (.iload_n 3, 1) := by decide +kernel
theorem dX9_down_15 : decode cX9_down 15 = .ok (.iconst 0, 1) := by decide +kernel
theorem dX9_down_16 : decode cX9_down 16 = .ok (.iconst 1, 1) := by decide +kernel
theorem dX9_down_17 : decode cX9_down 17 = .ok (.invokestatic 55, 3) := by decide +kernel
theorem dX9_down_20 : decode cX9_down 20 = .ok (.ifCond .eq 13, 3) := by decide +kernel
theorem dX9_down_23 : decode cX9_down 23 = .ok (.aload_n 0, 1) := by decide +kernel
theorem dX9_down_24 : decode cX9_down 24 = .ok (.iload_n 1, 1) := by decide +kernel
theorem dX9_down_25 : decode cX9_down 25 = .ok (.iload_n 2, 1) := by decide +kernel
theorem dX9_down_26 : decode cX9_down 26 = .ok (.iload_n 3, 1) := by decide +kernel
theorem dX9_down_27 : decode cX9_down 27 = .ok (.invokevirtual 196, 3) := by decide +kernel
theorem dX9_down_30 : decode cX9_down 30 = .ok (.goto 5, 3) := by decide +kernel
theorem dX9_down_33 : decode cX9_down 33 = .ok (.bipush (-2), 2) := by decide +kernel
theorem dX9_down_35 : decode cX9_down 35 = .ok (.ireturn, 1) := by decide +kernel
theorem dX9_savesNow_0 : decode cX9_savesNow 0 = .ok (.aload_n 0, 1) := by decide +kernel
theorem dX9_savesNow_1 : decode cX9_savesNow 1 = .ok (.invokevirtual 117, 3) := by decide +kernel
theorem dX9_savesNow_4 : decode cX9_savesNow 4 = .ok (.iconst 0, 1) := by decide +kernel
theorem dX9_savesNow_5 : decode cX9_savesNow 5 = .ok (.istore_n 1, 1) := by decide +kernel
theorem dX9_savesNow_6 : decode cX9_savesNow 6 = .ok (.iconst 0, 1) := by decide +kernel
theorem dX9_savesNow_7 : decode cX9_savesNow 7 = .ok (.istore_n 2, 1) := by decide +kernel
theorem dX9_savesNow_8 : decode cX9_savesNow 8 = .ok (.aload_n 0, 1) := by decide +kernel
theorem dX9_savesNow_9 : decode cX9_savesNow 9 = .ok (.getfield 93, 3) := by decide +kernel
theorem dX9_savesNow_12 : decode cX9_savesNow 12 = .ok (.istore_n 3, 1) := by decide +kernel
theorem dX9_savesNow_13 : decode cX9_savesNow 13 = .ok (.iload_n 3, 1) := by decide +kernel
theorem dX9_savesNow_14 : decode cX9_savesNow 14 = .ok (.aload_n 0, 1) := by decide +kernel
theorem dX9_savesNow_15 : decode cX9_savesNow 15 = .ok (.getfield 93, 3) := by decide +kernel
theorem dX9_savesNow_18 : decode cX9_savesNow 18 = .ok (.aload_n 0, 1) := by decide +kernel
theorem dX9_savesNow_19 : decode cX9_savesNow 19 = .ok (.getfield 96, 3) := by decide +kernel
theorem dX9_savesNow_22 : decode cX9_savesNow 22 = .ok (.iadd, 1) := by decide +kernel
theorem dX9_savesNow_23 : decode cX9_savesNow 23 = .ok (.if_icmp .ge 56, 3) := by decide +kernel
theorem dX9_savesNow_26 : decode cX9_savesNow 26 = .ok (.iload_n 3, 1) := by decide +kernel
theorem dX9_savesNow_27 : decode cX9_savesNow 27 = .ok (.sipush 400, 3) := by decide +kernel
theorem dX9_savesNow_30 : decode cX9_savesNow 30 = .ok (.if_icmp .ge 49, 3) := by decide +kernel
theorem dX9_savesNow_33 : decode cX9_savesNow 33 = .ok (.aload_n 0, 1) := by decide +kernel
theorem dX9_savesNow_34 : decode cX9_savesNow 34 = .ok (.getfield 28, 3) := by decide +kernel
theorem dX9_savesNow_37 : decode cX9_savesNow 37 = .ok (.iload_n 3, 1) := by decide +kernel
theorem dX9_savesNow_38 : decode cX9_savesNow 38 = .ok (.iaload, 1) := by decide +kernel
theorem dX9_savesNow_39 : decode cX9_savesNow 39 = .ok (.iload_n 1, 1) := by decide +kernel
theorem dX9_savesNow_40 : decode cX9_savesNow 40 = .ok (.if_icmp .le 12, 3) := by decide +kernel
theorem dX9_savesNow_43 : decode cX9_savesNow 43 = .ok (.aload_n 0, 1) := by decide +kernel
theorem dX9_savesNow_44 : decode cX9_savesNow 44 = .ok (.getfield 28, 3) := by decide +kernel
theorem dX9_savesNow_47 : decode cX9_savesNow 47 = .ok (.iload_n 3, 1) := by decide +kernel
theorem dX9_savesNow_48 : decode cX9_savesNow 48 = .ok (.iaload, 1) := by decide +kernel
theorem dX9_savesNow_49 : decode cX9_savesNow 49 = .ok (.goto 4, 3) := by decide +kernel
theorem dX9_savesNow_52 : decode cX9_savesNow 52 = .ok (.iload_n 1, 1) := by decide +kernel
theorem dX9_savesNow_53 : decode cX9_savesNow 53 = .ok (.istore_n 1, 1) := by decide +kernel
theorem dX9_savesNow_54 : decode cX9_savesNow 54 = .ok (.aload_n 0, 1) := by decide +kernel
theorem dX9_savesNow_55 : decode cX9_savesNow 55 = .ok (.iload_n 3, 1) := by decide +kernel
theorem dX9_savesNow_56 : decode cX9_savesNow 56 = .ok (.invokevirtual 108, 3) := by decide +kernel
theorem dX9_savesNow_59 : decode cX9_savesNow 59 = .ok (.iload_n 2, 1) := by decide +kernel
theorem dX9_savesNow_60 : decode cX9_savesNow 60 = .ok (.if_icmp .le 11, 3) := by decide +kernel
theorem dX9_savesNow_63 : decode cX9_savesNow 63 = .ok (.aload_n 0, 1) := by decide +kernel
theorem dX9_savesNow_64 : decode cX9_savesNow 64 = .ok (.iload_n 3, 1) := by decide +kernel
theorem dX9_savesNow_65 : decode cX9_savesNow 65 = .ok (.invokevirtual 108, 3) := by decide +kernel
theorem dX9_savesNow_68 : decode cX9_savesNow 68 = .ok (.goto 4, 3) := by decide +kernel
theorem dX9_savesNow_71 : decode cX9_savesNow 71 = .ok (.iload_n 2, 1) := by decide +kernel
theorem dX9_savesNow_72 : decode cX9_savesNow 72 = .ok (.istore_n 2, 1) := by decide +kernel
theorem dX9_savesNow_73 : decode cX9_savesNow 73 = .ok (.iinc 3 1, 3) := by decide +kernel
theorem dX9_savesNow_76 : decode cX9_savesNow 76 = .ok (.goto (-63), 3) := by decide +kernel
theorem dX9_savesNow_79 : decode cX9_savesNow 79 = .ok (.aload_n 0, 1) := by decide +kernel
theorem dX9_savesNow_80 : decode cX9_savesNow 80 = .ok (.getfield 96, 3) := by decide +kernel
theorem dX9_savesNow_83 : decode cX9_savesNow 83 = .ok (.ifCond .ne 7, 3) := by decide +kernel
theorem dX9_savesNow_86 : decode cX9_savesNow 86 = .ok (.iconst (-1), 1) := by decide +kernel
theorem dX9_savesNow_87 : decode cX9_savesNow 87 = .ok (.goto 6, 3) := by decide +kernel
theorem dX9_savesNow_90 : decode cX9_savesNow 90 = .ok (.iload_n 2, 1) := by decide +kernel
theorem dX9_savesNow_91 : decode cX9_savesNow 91 = .ok (.iload_n 1, 1) := by decide +kernel
theorem dX9_savesNow_92 : decode cX9_savesNow 92 = .ok (.isub, 1) := by decide +kernel
theorem dX9_savesNow_93 : decode cX9_savesNow 93 = .ok (.ireturn, 1) := by decide +kernel
theorem dX9_saves_0 : decode cX9_saves 0 = .ok (.aload_n 0, 1) := by decide +kernel
theorem dX9_saves_1 : decode cX9_saves 1 = .ok (.invokevirtual 199, 3) := by decide +kernel
theorem dX9_saves_4 : decode cX9_saves 4 = .ok (.ireturn, 1) := by decide +kernel
theorem dX9_ladderOf_0 : decode cX9_ladderOf 0 = .ok (.aload_n 0, 1) := by decide +kernel
theorem dX9_ladderOf_1 : decode cX9_ladderOf 1 = .ok (.invokevirtual 117, 3) := by decide +kernel
theorem dX9_ladderOf_4 : decode cX9_ladderOf 4 = .ok (.iconst (-1), 1) := by decide +kernel
theorem dX9_ladderOf_5 : decode cX9_ladderOf 5 = .ok (.istore_n 3, 1) := by decide +kernel
theorem dX9_ladderOf_6 : decode cX9_ladderOf 6 = .ok (.iconst 0, 1) := by decide +kernel
theorem dX9_ladderOf_7 : decode cX9_ladderOf 7 = .ok (.istore 4, 2) := by decide +kernel
theorem dX9_ladderOf_9 : decode cX9_ladderOf 9 = .ok (.iconst 0, 1) := by decide +kernel
theorem dX9_ladderOf_10 : decode cX9_ladderOf 10 = .ok (.istore 5, 2) := by decide +kernel
theorem dX9_ladderOf_12 : decode cX9_ladderOf 12 = .ok (.iload 5, 2) := by decide +kernel
theorem dX9_ladderOf_14 : decode cX9_ladderOf 14 = .ok (.sipush 1000, 3) := by decide +kernel
theorem dX9_ladderOf_17 : decode cX9_ladderOf 17 = .ok (.if_icmp .ge 129, 3) := by decide +kernel
theorem dX9_ladderOf_20 : decode cX9_ladderOf 20 = .ok (.iconst 0, 1) := by decide +kernel
theorem dX9_ladderOf_21 : decode cX9_ladderOf 21 = .ok (.istore 6, 2) := by decide +kernel
theorem dX9_ladderOf_23 : decode cX9_ladderOf 23 = .ok (.iload_n 1, 1) := by decide +kernel
theorem dX9_ladderOf_24 : decode cX9_ladderOf 24 = .ok (.istore 7, 2) := by decide +kernel
theorem dX9_ladderOf_26 : decode cX9_ladderOf 26 = .ok (.iload 7, 2) := by decide +kernel
theorem dX9_ladderOf_28 : decode cX9_ladderOf 28 = .ok (.iload_n 1, 1) := by decide +kernel
theorem dX9_ladderOf_29 : decode cX9_ladderOf 29 = .ok (.iload_n 2, 1) := by decide +kernel
theorem dX9_ladderOf_30 : decode cX9_ladderOf 30 = .ok (.iadd, 1) := by decide +kernel
theorem dX9_ladderOf_31 : decode cX9_ladderOf 31 = .ok (.if_icmp .ge 64, 3) := by decide +kernel
theorem dX9_ladderOf_34 : decode cX9_ladderOf 34 = .ok (.iload 7, 2) := by decide +kernel
theorem dX9_ladderOf_36 : decode cX9_ladderOf 36 = .ok (.sipush 400, 3) := by decide +kernel
theorem dX9_ladderOf_39 : decode cX9_ladderOf 39 = .ok (.if_icmp .ge 56, 3) := by decide +kernel
theorem dX9_ladderOf_42 : decode cX9_ladderOf 42 = .ok (.iload 6, 2) := by decide +kernel
theorem dX9_ladderOf_44 : decode cX9_ladderOf 44 = .ok (.iload 5, 2) := by decide +kernel
theorem dX9_ladderOf_46 : decode cX9_ladderOf 46 = .ok (.aload_n 0, 1) := by decide +kernel
theorem dX9_ladderOf_47 : decode cX9_ladderOf 47 = .ok (.getfield 28, 3) := by decide +kernel
theorem dX9_ladderOf_50 : decode cX9_ladderOf 50 = .ok (.iload 7, 2) := by decide +kernel
theorem dX9_ladderOf_52 : decode cX9_ladderOf 52 = .ok (.iaload, 1) := by decide +kernel
theorem dX9_ladderOf_53 : decode cX9_ladderOf 53 = .ok (.isub, 1) := by decide +kernel
theorem dX9_ladderOf_54 : decode cX9_ladderOf 54 = .ok (.aload_n 0, 1) := by decide +kernel
theorem dX9_ladderOf_55 : decode cX9_ladderOf 55 = .ok (.getfield 25, 3) := by decide +kernel
theorem dX9_ladderOf_58 : decode cX9_ladderOf 58 = .ok (.iconst 3, 1) := by decide +kernel
theorem dX9_ladderOf_59 : decode cX9_ladderOf 59 = .ok (.iaload, 1) := by decide +kernel
theorem dX9_ladderOf_60 : decode cX9_ladderOf 60 = .ok (.if_icmp .le 9, 3) := by decide +kernel
theorem dX9_ladderOf_63 : decode cX9_ladderOf 63 = .ok (.sipush 1000, 3) := by decide +kernel
theorem dX9_ladderOf_66 : decode cX9_ladderOf 66 = .ok (.goto 20, 3) := by decide +kernel
theorem dX9_ladderOf_69 : decode cX9_ladderOf 69 = .ok (.aload_n 0, 1) := by decide +kernel
theorem dX9_ladderOf_70 : decode cX9_ladderOf 70 = .ok (.getfield 28, 3) := by decide +kernel
theorem dX9_ladderOf_73 : decode cX9_ladderOf 73 = .ok (.iload 7, 2) := by decide +kernel
theorem dX9_ladderOf_75 : decode cX9_ladderOf 75 = .ok (.iaload, 1) := by decide +kernel
theorem dX9_ladderOf_76 : decode cX9_ladderOf 76 = .ok (.iload 5, 2) := by decide +kernel
theorem dX9_ladderOf_78 : decode cX9_ladderOf 78 = .ok (.if_icmp .le 7, 3) := by decide +kernel
theorem dX9_ladderOf_81 : decode cX9_ladderOf 81 = .ok (.iconst 1, 1) := by decide +kernel
theorem dX9_ladderOf_82 : decode cX9_ladderOf 82 = .ok (.goto 4, 3) := by decide +kernel
theorem dX9_ladderOf_85 : decode cX9_ladderOf 85 = .ok (.iconst 0, 1) := by decide +kernel
theorem dX9_ladderOf_86 : decode cX9_ladderOf 86 = .ok (.iadd, 1) := by decide +kernel
theorem dX9_ladderOf_87 : decode cX9_ladderOf 87 = .ok (.istore 6, 2) := by decide +kernel
theorem dX9_ladderOf_89 : decode cX9_ladderOf 89 = .ok (.iinc 7 1, 3) := by decide +kernel
theorem dX9_ladderOf_92 : decode cX9_ladderOf 92 = .ok (.goto (-66), 3) := by decide +kernel
theorem dX9_ladderOf_95 : decode cX9_ladderOf 95 = .ok (.iload_n 3, 1) := by decide +kernel
theorem dX9_ladderOf_96 : decode cX9_ladderOf 96 = .ok (.iconst (-1), 1) := by decide +kernel
theorem dX9_ladderOf_97 : decode cX9_ladderOf 97 = .ok (.if_icmp .eq 10, 3) := by decide +kernel
theorem dX9_ladderOf_100 : decode cX9_ladderOf 100 = .ok (.iload 6, 2) := by decide +kernel
theorem dX9_ladderOf_102 : decode cX9_ladderOf 102 = .ok (.iload 4, 2) := by decide +kernel
theorem dX9_ladderOf_104 : decode cX9_ladderOf 104 = .ok (.if_icmp .ge 7, 3) := by decide +kernel
theorem dX9_ladderOf_107 : decode cX9_ladderOf 107 = .ok (.iconst 1, 1) := by decide +kernel
theorem dX9_ladderOf_108 : decode cX9_ladderOf 108 = .ok (.goto 4, 3) := by decide +kernel
theorem dX9_ladderOf_111 : decode cX9_ladderOf 111 = .ok (.iconst 0, 1) := by decide +kernel
theorem dX9_ladderOf_112 : decode cX9_ladderOf 112 = .ok (.istore 7, 2) := by decide +kernel
theorem dX9_ladderOf_114 : decode cX9_ladderOf 114 = .ok (.iload 7, 2) := by decide +kernel
theorem dX9_ladderOf_116 : decode cX9_ladderOf 116 = .ok (.ifCond .eq 8, 3) := by decide +kernel
theorem dX9_ladderOf_119 : decode cX9_ladderOf 119 = .ok (.iload 5, 2) := by decide +kernel
theorem dX9_ladderOf_121 : decode cX9_ladderOf 121 = .ok (.goto 4, 3) := by decide +kernel
theorem dX9_ladderOf_124 : decode cX9_ladderOf 124 = .ok (.iload_n 3, 1) := by decide +kernel
theorem dX9_ladderOf_125 : decode cX9_ladderOf 125 = .ok (.istore_n 3, 1) := by decide +kernel
theorem dX9_ladderOf_126 : decode cX9_ladderOf 126 = .ok (.iload 7, 2) := by decide +kernel
theorem dX9_ladderOf_128 : decode cX9_ladderOf 128 = .ok (.ifCond .eq 8, 3) := by decide +kernel
theorem dX9_ladderOf_131 : decode cX9_ladderOf 131 = .ok (.iload 6, 2) := by decide +kernel
theorem dX9_ladderOf_133 : decode cX9_ladderOf 133 = .ok (.goto 5, 3) := by decide +kernel
theorem dX9_ladderOf_136 : decode cX9_ladderOf 136 = .ok (.iload 4, 2) := by decide +kernel
theorem dX9_ladderOf_138 : decode cX9_ladderOf 138 = .ok (.istore 4, 2) := by decide +kernel
theorem dX9_ladderOf_140 : decode cX9_ladderOf 140 = .ok (.iinc 5 1, 3) := by decide +kernel
theorem dX9_ladderOf_143 : decode cX9_ladderOf 143 = .ok (.goto (-131), 3) := by decide +kernel
theorem dX9_ladderOf_146 : decode cX9_ladderOf 146 = .ok (.iload_n 3, 1) := by decide +kernel
theorem dX9_ladderOf_147 : decode cX9_ladderOf 147 = .ok (.ireturn, 1) := by decide +kernel
theorem dX9_ladder_0 : decode cX9_ladder 0 = .ok (.iload_n 1, 1) := by decide +kernel
theorem dX9_ladder_1 : decode cX9_ladder 1 = .ok (.invokestatic 90, 3) := by decide +kernel
theorem dX9_ladder_4 : decode cX9_ladder 4 = .ok (.ifCond .eq 19, 3) := by decide +kernel
theorem dX9_ladder_7 : decode cX9_ladder 7 = .ok (.iload_n 2, 1) := by decide +kernel
theorem dX9_ladder_8 : decode cX9_ladder 8 = .ok (.invokestatic 141, 3) := by decide +kernel
theorem dX9_ladder_11 : decode cX9_ladder 11 = .ok (.ifCond .eq 12, 3) := by decide +kernel
theorem dX9_ladder_14 : decode cX9_ladder 14 = .ok (.aload_n 0, 1) := by decide +kernel
theorem dX9_ladder_15 : decode cX9_ladder 15 = .ok (.iload_n 1, 1) := by decide +kernel
theorem dX9_ladder_16 : decode cX9_ladder 16 = .ok (.iload_n 2, 1) := by decide +kernel
theorem dX9_ladder_17 : decode cX9_ladder 17 = .ok (.invokevirtual 203, 3) := by decide +kernel
theorem dX9_ladder_20 : decode cX9_ladder 20 = .ok (.goto 5, 3) := by decide +kernel
theorem dX9_ladder_23 : decode cX9_ladder 23 = .ok (.bipush (-2), 2) := by decide +kernel
theorem dX9_ladder_25 : decode cX9_ladder 25 = .ok (.ireturn, 1) := by decide +kernel
theorem dX9_seen_0 : decode cX9_seen 0 = .ok (.iload_n 1, 1) := by decide +kernel
theorem dX9_seen_1 : decode cX9_seen 1 = .ok (.invokestatic 90, 3) := by decide +kernel
theorem dX9_seen_4 : decode cX9_seen 4 = .ok (.ifCond .eq 14, 3) := by decide +kernel
theorem dX9_seen_7 : decode cX9_seen 7 = .ok (.iload_n 2, 1) := by decide +kernel
theorem dX9_seen_8 : decode cX9_seen 8 = .ok (.iconst 0, 1) := by decide +kernel
theorem dX9_seen_9 : decode cX9_seen 9 = .ok (.sipush 3000, 3) := by decide +kernel
theorem dX9_seen_12 : decode cX9_seen 12 = .ok (.invokestatic 55, 3) := by decide +kernel
theorem dX9_seen_15 : decode cX9_seen 15 = .ok (.ifCond .ne 6, 3) := by decide +kernel
theorem dX9_seen_18 : decode cX9_seen 18 = .ok (.bipush (-2), 2) := by decide +kernel
theorem dX9_seen_20 : decode cX9_seen 20 = .ok (.ireturn, 1) := by decide +kernel
theorem dX9_seen_21 : decode cX9_seen 21 = .ok (.aload_n 0, 1) := by decide +kernel
theorem dX9_seen_22 : decode cX9_seen 22 = .ok (.getfield 206, 3) := by decide +kernel
theorem dX9_seen_25 : decode cX9_seen 25 = .ok (.bipush 8, 2) := by decide +kernel
theorem dX9_seen_27 : decode cX9_seen 27 = .ok (.if_icmp .ne 6, 3) := by decide +kernel
theorem dX9_seen_30 : decode cX9_seen 30 = .ok (.bipush (-4), 2) := by decide +kernel
theorem dX9_seen_32 : decode cX9_seen 32 = .ok (.ireturn, 1) := by decide +kernel
theorem dX9_seen_33 : decode cX9_seen 33 = .ok (.aload_n 0, 1) := by decide +kernel
theorem dX9_seen_34 : decode cX9_seen 34 = .ok (.getfield 31, 3) := by decide +kernel
theorem dX9_seen_37 : decode cX9_seen 37 = .ok (.aload_n 0, 1) := by decide +kernel
theorem dX9_seen_38 : decode cX9_seen 38 = .ok (.getfield 206, 3) := by decide +kernel
theorem dX9_seen_41 : decode cX9_seen 41 = .ok (.iload_n 1, 1) := by decide +kernel
theorem dX9_seen_42 : decode cX9_seen 42 = .ok (.iastore, 1) := by decide +kernel
theorem dX9_seen_43 : decode cX9_seen 43 = .ok (.aload_n 0, 1) := by decide +kernel
theorem dX9_seen_44 : decode cX9_seen 44 = .ok (.getfield 34, 3) := by decide +kernel
theorem dX9_seen_47 : decode cX9_seen 47 = .ok (.aload_n 0, 1) := by decide +kernel
theorem dX9_seen_48 : decode cX9_seen 48 = .ok (.getfield 206, 3) := by decide +kernel
theorem dX9_seen_51 : decode cX9_seen 51 = .ok (.iload_n 2, 1) := by decide +kernel
theorem dX9_seen_52 : decode cX9_seen 52 = .ok (.iastore, 1) := by decide +kernel
theorem dX9_seen_53 : decode cX9_seen 53 = .ok (.aload_n 0, 1) := by decide +kernel
theorem dX9_seen_54 : decode cX9_seen 54 = .ok (.dup, 1) := by decide +kernel
theorem dX9_seen_55 : decode cX9_seen 55 = .ok (.getfield 206, 3) := by decide +kernel
theorem dX9_seen_58 : decode cX9_seen 58 = .ok (.iconst 1, 1) := by decide +kernel
theorem dX9_seen_59 : decode cX9_seen 59 = .ok (.iadd, 1) := by decide +kernel
theorem dX9_seen_60 : decode cX9_seen 60 = .ok (.putfield 206, 3) := by decide +kernel
theorem dX9_seen_63 : decode cX9_seen 63 = .ok (.aload_n 0, 1) := by decide +kernel
theorem dX9_seen_64 : decode cX9_seen 64 = .ok (.getfield 206, 3) := by decide +kernel
theorem dX9_seen_67 : decode cX9_seen 67 = .ok (.ireturn, 1) := by decide +kernel
theorem dX9_forget_0 : decode cX9_forget 0 = .ok (.aload_n 0, 1) := by decide +kernel
theorem dX9_forget_1 : decode cX9_forget 1 = .ok (.getfield 206, 3) := by decide +kernel
theorem dX9_forget_4 : decode cX9_forget 4 = .ok (.istore_n 1, 1) := by decide +kernel
theorem dX9_forget_5 : decode cX9_forget 5 = .ok (.aload_n 0, 1) := by decide +kernel
theorem dX9_forget_6 : decode cX9_forget 6 = .ok (.iconst 0, 1) := by decide +kernel
theorem dX9_forget_7 : decode cX9_forget 7 = .ok (.putfield 206, 3) := by decide +kernel
theorem dX9_forget_10 : decode cX9_forget 10 = .ok (.iload_n 1, 1) := by decide +kernel
theorem dX9_forget_11 : decode cX9_forget 11 = .ok (.ireturn, 1) := by decide +kernel
theorem dX9_read_0 : decode cX9_read 0 = .ok (.iload_n 1, 1) := by decide +kernel
theorem dX9_read_1 : decode cX9_read 1 = .ok (.invokestatic 209, 3) := by decide +kernel
theorem dX9_read_4 : decode cX9_read 4 = .ok (.ifCond .ne 6, 3) := by decide +kernel
theorem dX9_read_7 : decode cX9_read 7 = .ok (.bipush (-2), 2) := by decide +kernel
theorem dX9_read_9 : decode cX9_read 9 = .ok (.ireturn, 1) := by decide +kernel
theorem dX9_read_10 : decode cX9_read 10 = .ok (.aload_n 0, 1) := by decide +kernel
theorem dX9_read_11 : decode cX9_read 11 = .ok (.getfield 37, 3) := by decide +kernel
theorem dX9_read_14 : decode cX9_read 14 = .ok (.iload_n 1, 1) := by decide +kernel
theorem dX9_read_15 : decode cX9_read 15 = .ok (.baload, 1) := by decide +kernel
theorem dX9_read_16 : decode cX9_read 16 = .ok (.ifCond .ne 9, 3) := by decide +kernel
theorem dX9_read_19 : decode cX9_read 19 = .ok (.aload_n 0, 1) := by decide +kernel
theorem dX9_read_20 : decode cX9_read 20 = .ok (.iconst 1, 1) := by decide +kernel
theorem dX9_read_21 : decode cX9_read 21 = .ok (.invokevirtual 212, 3) := by decide +kernel
theorem dX9_read_24 : decode cX9_read 24 = .ok (.ireturn, 1) := by decide +kernel
theorem dX9_read_25 : decode cX9_read 25 = .ok (.iconst 0, 1) := by decide +kernel
theorem dX9_read_26 : decode cX9_read 26 = .ok (.istore_n 2, 1) := by decide +kernel
theorem dX9_read_27 : decode cX9_read 27 = .ok (.iconst 2, 1) := by decide +kernel
theorem dX9_read_28 : decode cX9_read 28 = .ok (.iload_n 2, 1) := by decide +kernel
theorem dX9_read_29 : decode cX9_read 29 = .ok (.imul, 1) := by decide +kernel
theorem dX9_read_30 : decode cX9_read 30 = .ok (.iconst 1, 1) := by decide +kernel
theorem dX9_read_31 : decode cX9_read 31 = .ok (.iadd, 1) := by decide +kernel
theorem dX9_read_32 : decode cX9_read 32 = .ok (.aload_n 0, 1) := by decide +kernel
theorem dX9_read_33 : decode cX9_read 33 = .ok (.getfield 44, 3) := by decide +kernel
theorem dX9_read_36 : decode cX9_read 36 = .ok (.iload_n 1, 1) := by decide +kernel
theorem dX9_read_37 : decode cX9_read 37 = .ok (.iaload, 1) := by decide +kernel
theorem dX9_read_38 : decode cX9_read 38 = .ok (.if_icmp .ge 44, 3) := by decide +kernel
theorem dX9_read_41 : decode cX9_read 41 = .ok (.aload_n 0, 1) := by decide +kernel
theorem dX9_read_42 : decode cX9_read 42 = .ok (.aload_n 0, 1) := by decide +kernel
theorem dX9_read_43 : decode cX9_read 43 = .ok (.getfield 47, 3) := by decide +kernel
theorem dX9_read_46 : decode cX9_read 46 = .ok (.bipush 48, 2) := by decide +kernel
theorem dX9_read_48 : decode cX9_read 48 = .ok (.iload_n 1, 1) := by decide +kernel
theorem dX9_read_49 : decode cX9_read 49 = .ok (.imul, 1) := by decide +kernel
theorem dX9_read_50 : decode cX9_read 50 = .ok (.iconst 2, 1) := by decide +kernel
theorem dX9_read_51 : decode cX9_read 51 = .ok (.iload_n 2, 1) := by decide +kernel
theorem dX9_read_52 : decode cX9_read 52 = .ok (.imul, 1) := by decide +kernel
theorem dX9_read_53 : decode cX9_read 53 = .ok (.iadd, 1) := by decide +kernel
theorem dX9_read_54 : decode cX9_read 54 = .ok (.iaload, 1) := by decide +kernel
theorem dX9_read_55 : decode cX9_read 55 = .ok (.aload_n 0, 1) := by decide +kernel
theorem dX9_read_56 : decode cX9_read 56 = .ok (.getfield 47, 3) := by decide +kernel
theorem dX9_read_59 : decode cX9_read 59 = .ok (.bipush 48, 2) := by decide +kernel
theorem dX9_read_61 : decode cX9_read 61 = .ok (.iload_n 1, 1) := by decide +kernel
theorem dX9_read_62 : decode cX9_read 62 = .ok (.imul, 1) := by decide +kernel
theorem dX9_read_63 : decode cX9_read 63 = .ok (.iconst 2, 1) := by decide +kernel
theorem dX9_read_64 : decode cX9_read 64 = .ok (.iload_n 2, 1) := by decide +kernel
theorem dX9_read_65 : decode cX9_read 65 = .ok (.imul, 1) := by decide +kernel
theorem dX9_read_66 : decode cX9_read 66 = .ok (.iadd, 1) := by decide +kernel
theorem dX9_read_67 : decode cX9_read 67 = .ok (.iconst 1, 1) := by decide +kernel
theorem dX9_read_68 : decode cX9_read 68 = .ok (.iadd, 1) := by decide +kernel
theorem dX9_read_69 : decode cX9_read 69 = .ok (.iaload, 1) := by decide +kernel
theorem dX9_read_70 : decode cX9_read 70 = .ok (.invokevirtual 215, 3) := by decide +kernel
theorem dX9_read_73 : decode cX9_read 73 = .ok (.ifCond .le 9, 3) := by decide +kernel
theorem dX9_read_76 : decode cX9_read 76 = .ok (.iinc 2 1, 3) := by decide +kernel
theorem dX9_read_79 : decode cX9_read 79 = .ok (.goto (-52), 3) := by decide +kernel
theorem dX9_read_82 : decode cX9_read 82 = .ok (.iload_n 2, 1) := by decide +kernel
theorem dX9_read_83 : decode cX9_read 83 = .ok (.ireturn, 1) := by decide +kernel
theorem dX9_learnOf_0 : decode cX9_learnOf 0 = .ok (.aload_n 0, 1) := by decide +kernel
theorem dX9_learnOf_1 : decode cX9_learnOf 1 = .ok (.invokevirtual 81, 3) := by decide +kernel
theorem dX9_learnOf_4 : decode cX9_learnOf 4 = .ok (.aload_n 0, 1) := by decide +kernel
theorem dX9_learnOf_5 : decode cX9_learnOf 5 = .ok (.getfield 19, 3) := by decide +kernel
theorem dX9_learnOf_8 : decode cX9_learnOf 8 = .ok (.iload_n 1, 1) := by decide +kernel
theorem dX9_learnOf_9 : decode cX9_learnOf 9 = .ok (.iaload, 1) := by decide +kernel
theorem dX9_learnOf_10 : decode cX9_learnOf 10 = .ok (.istore_n 3, 1) := by decide +kernel
theorem dX9_learnOf_11 : decode cX9_learnOf 11 = .ok (.iconst 0, 1) := by decide +kernel
theorem dX9_learnOf_12 : decode cX9_learnOf 12 = .ok (.istore 4, 2) := by decide +kernel
theorem dX9_learnOf_14 : decode cX9_learnOf 14 = .ok (.iconst (-1), 1) := by decide +kernel
theorem dX9_learnOf_15 : decode cX9_learnOf 15 = .ok (.istore 5, 2) := by decide +kernel
theorem dX9_learnOf_17 : decode cX9_learnOf 17 = .ok (.iconst 2, 1) := by decide +kernel
theorem dX9_learnOf_18 : decode cX9_learnOf 18 = .ok (.istore 6, 2) := by decide +kernel
theorem dX9_learnOf_20 : decode cX9_learnOf 20 = .ok (.iload 6, 2) := by decide +kernel
theorem dX9_learnOf_22 : decode cX9_learnOf 22 = .ok (.bipush 100, 2) := by decide +kernel
theorem dX9_learnOf_24 : decode cX9_learnOf 24 = .ok (.if_icmp .ge 106, 3) := by decide +kernel
theorem dX9_learnOf_27 : decode cX9_learnOf 27 = .ok (.aload_n 0, 1) := by decide +kernel
theorem dX9_learnOf_28 : decode cX9_learnOf 28 = .ok (.getfield 19, 3) := by decide +kernel
theorem dX9_learnOf_31 : decode cX9_learnOf 31 = .ok (.iload_n 1, 1) := by decide +kernel
theorem dX9_learnOf_32 : decode cX9_learnOf 32 = .ok (.iload 6, 2) := by decide +kernel
theorem dX9_learnOf_34 : decode cX9_learnOf 34 = .ok (.iastore, 1) := by decide +kernel
theorem dX9_learnOf_35 : decode cX9_learnOf 35 = .ok (.iconst 1, 1) := by decide +kernel
theorem dX9_learnOf_36 : decode cX9_learnOf 36 = .ok (.istore 7, 2) := by decide +kernel
theorem dX9_learnOf_38 : decode cX9_learnOf 38 = .ok (.iconst 0, 1) := by decide +kernel
theorem dX9_learnOf_39 : decode cX9_learnOf 39 = .ok (.istore 8, 2) := by decide +kernel
theorem dX9_learnOf_41 : decode cX9_learnOf 41 = .ok (.iload 8, 2) := by decide +kernel
theorem dX9_learnOf_43 : decode cX9_learnOf 43 = .ok (.aload_n 0, 1) := by decide +kernel
theorem dX9_learnOf_44 : decode cX9_learnOf 44 = .ok (.getfield 206, 3) := by decide +kernel
theorem dX9_learnOf_47 : decode cX9_learnOf 47 = .ok (.if_icmp .ge 42, 3) := by decide +kernel
theorem dX9_learnOf_50 : decode cX9_learnOf 50 = .ok (.iload 7, 2) := by decide +kernel
theorem dX9_learnOf_52 : decode cX9_learnOf 52 = .ok (.ifCond .eq 28, 3) := by decide +kernel
theorem dX9_learnOf_55 : decode cX9_learnOf 55 = .ok (.aload_n 0, 1) := by decide +kernel
theorem dX9_learnOf_56 : decode cX9_learnOf 56 = .ok (.aload_n 0, 1) := by decide +kernel
theorem dX9_learnOf_57 : decode cX9_learnOf 57 = .ok (.getfield 31, 3) := by decide +kernel
theorem dX9_learnOf_60 : decode cX9_learnOf 60 = .ok (.iload 8, 2) := by decide +kernel
theorem dX9_learnOf_62 : decode cX9_learnOf 62 = .ok (.iaload, 1) := by decide +kernel
theorem dX9_learnOf_63 : decode cX9_learnOf 63 = .ok (.invokevirtual 111, 3) := by decide +kernel
theorem dX9_learnOf_66 : decode cX9_learnOf 66 = .ok (.aload_n 0, 1) := by decide +kernel
theorem dX9_learnOf_67 : decode cX9_learnOf 67 = .ok (.getfield 34, 3) := by decide +kernel
theorem dX9_learnOf_70 : decode cX9_learnOf 70 = .ok (.iload 8, 2) := by decide +kernel
theorem dX9_learnOf_72 : decode cX9_learnOf 72 = .ok (.iaload, 1) := by decide +kernel
theorem dX9_learnOf_73 : decode cX9_learnOf 73 = .ok (.if_icmp .ne 7, 3) := by decide +kernel
theorem dX9_learnOf_76 : decode cX9_learnOf 76 = .ok (.iconst 1, 1) := by decide +kernel
theorem dX9_learnOf_77 : decode cX9_learnOf 77 = .ok (.goto 4, 3) := by decide +kernel
theorem dX9_learnOf_80 : decode cX9_learnOf 80 = .ok (.iconst 0, 1) := by decide +kernel
theorem dX9_learnOf_81 : decode cX9_learnOf 81 = .ok (.istore 7, 2) := by decide +kernel
theorem dX9_learnOf_83 : decode cX9_learnOf 83 = .ok (.iinc 8 1, 3) := by decide +kernel
theorem dX9_learnOf_86 : decode cX9_learnOf 86 = .ok (.goto (-45), 3) := by decide +kernel
theorem dX9_learnOf_89 : decode cX9_learnOf 89 = .ok (.iload 7, 2) := by decide +kernel
theorem dX9_learnOf_91 : decode cX9_learnOf 91 = .ok (.ifCond .eq 14, 3) := by decide +kernel
theorem dX9_learnOf_94 : decode cX9_learnOf 94 = .ok (.iload 4, 2) := by decide +kernel
theorem dX9_learnOf_96 : decode cX9_learnOf 96 = .ok (.iload_n 2, 1) := by decide +kernel
theorem dX9_learnOf_97 : decode cX9_learnOf 97 = .ok (.if_icmp .ne 8, 3) := by decide +kernel
theorem dX9_learnOf_100 : decode cX9_learnOf 100 = .ok (.iload 6, 2) := by decide +kernel
theorem dX9_learnOf_102 : decode cX9_learnOf 102 = .ok (.goto 5, 3) := by decide +kernel
theorem dX9_learnOf_105 : decode cX9_learnOf 105 = .ok (.iload 5, 2) := by decide +kernel
theorem dX9_learnOf_107 : decode cX9_learnOf 107 = .ok (.istore 5, 2) := by decide +kernel
theorem dX9_learnOf_109 : decode cX9_learnOf 109 = .ok (.iload 4, 2) := by decide +kernel
theorem dX9_learnOf_111 : decode cX9_learnOf 111 = .ok (.iload 7, 2) := by decide +kernel
theorem dX9_learnOf_113 : decode cX9_learnOf 113 = .ok (.ifCond .eq 7, 3) := by decide +kernel
theorem dX9_learnOf_116 : decode cX9_learnOf 116 = .ok (.iconst 1, 1) := by decide +kernel
theorem dX9_learnOf_117 : decode cX9_learnOf 117 = .ok (.goto 4, 3) := by decide +kernel
theorem dX9_learnOf_120 : decode cX9_learnOf 120 = .ok (.iconst 0, 1) := by decide +kernel
theorem dX9_learnOf_121 : decode cX9_learnOf 121 = .ok (.iadd, 1) := by decide +kernel
theorem dX9_learnOf_122 : decode cX9_learnOf 122 = .ok (.istore 4, 2) := by decide +kernel
theorem dX9_learnOf_124 : decode cX9_learnOf 124 = .ok (.iinc 6 1, 3) := by decide +kernel
theorem dX9_learnOf_127 : decode cX9_learnOf 127 = .ok (.goto (-107), 3) := by decide +kernel
theorem dX9_learnOf_130 : decode cX9_learnOf 130 = .ok (.aload_n 0, 1) := by decide +kernel
theorem dX9_learnOf_131 : decode cX9_learnOf 131 = .ok (.getfield 19, 3) := by decide +kernel
theorem dX9_learnOf_134 : decode cX9_learnOf 134 = .ok (.iload_n 1, 1) := by decide +kernel
theorem dX9_learnOf_135 : decode cX9_learnOf 135 = .ok (.iload_n 3, 1) := by decide +kernel
theorem dX9_learnOf_136 : decode cX9_learnOf 136 = .ok (.iastore, 1) := by decide +kernel
theorem dX9_learnOf_137 : decode cX9_learnOf 137 = .ok (.iload_n 2, 1) := by decide +kernel
theorem dX9_learnOf_138 : decode cX9_learnOf 138 = .ok (.iconst (-1), 1) := by decide +kernel
theorem dX9_learnOf_139 : decode cX9_learnOf 139 = .ok (.if_icmp .ne 8, 3) := by decide +kernel
theorem dX9_learnOf_142 : decode cX9_learnOf 142 = .ok (.iload 4, 2) := by decide +kernel
theorem dX9_learnOf_144 : decode cX9_learnOf 144 = .ok (.goto 5, 3) := by decide +kernel
theorem dX9_learnOf_147 : decode cX9_learnOf 147 = .ok (.iload 5, 2) := by decide +kernel
theorem dX9_learnOf_149 : decode cX9_learnOf 149 = .ok (.ireturn, 1) := by decide +kernel
theorem dX9_learn_0 : decode cX9_learn 0 = .ok (.aload_n 0, 1) := by decide +kernel
theorem dX9_learn_1 : decode cX9_learn 1 = .ok (.iload_n 1, 1) := by decide +kernel
theorem dX9_learn_2 : decode cX9_learn 2 = .ok (.invokevirtual 84, 3) := by decide +kernel
theorem dX9_learn_5 : decode cX9_learn 5 = .ok (.ifCond .eq 22, 3) := by decide +kernel
theorem dX9_learn_8 : decode cX9_learn 8 = .ok (.iload_n 2, 1) := by decide +kernel
theorem dX9_learn_9 : decode cX9_learn 9 = .ok (.iconst (-1), 1) := by decide +kernel
theorem dX9_learn_10 : decode cX9_learn 10 = .ok (.bipush 97, 2) := by decide +kernel
theorem dX9_learn_12 : decode cX9_learn 12 = .ok (.invokestatic 55, 3) := by decide +kernel
theorem dX9_learn_15 : decode cX9_learn 15 = .ok (.ifCond .eq 12, 3) := by decide +kernel
theorem dX9_learn_18 : decode cX9_learn 18 = .ok (.aload_n 0, 1) := by decide +kernel
theorem dX9_learn_19 : decode cX9_learn 19 = .ok (.iload_n 1, 1) := by decide +kernel
theorem dX9_learn_20 : decode cX9_learn 20 = .ok (.iload_n 2, 1) := by decide +kernel
theorem dX9_learn_21 : decode cX9_learn 21 = .ok (.invokevirtual 218, 3) := by decide +kernel
theorem dX9_learn_24 : decode cX9_learn 24 = .ok (.goto 5, 3) := by decide +kernel
theorem dX9_learn_27 : decode cX9_learn 27 = .ok (.bipush (-2), 2) := by decide +kernel
theorem dX9_learn_29 : decode cX9_learn 29 = .ok (.ireturn, 1) := by decide +kernel
theorem dX9_lot_0 : decode cX9_lot 0 = .ok (.aload_n 0, 1) := by decide +kernel
theorem dX9_lot_1 : decode cX9_lot 1 = .ok (.ldc 221, 2) := by decide +kernel
theorem dX9_lot_3 : decode cX9_lot 3 = .ok (.aload_n 0, 1) := by decide +kernel
theorem dX9_lot_4 : decode cX9_lot 4 = .ok (.getfield 222, 3) := by decide +kernel
theorem dX9_lot_7 : decode cX9_lot 7 = .ok (.imul, 1) := by decide +kernel
theorem dX9_lot_8 : decode cX9_lot 8 = .ok (.sipush 12345, 3) := by decide +kernel
theorem dX9_lot_11 : decode cX9_lot 11 = .ok (.iadd, 1) := by decide +kernel
theorem dX9_lot_12 : decode cX9_lot 12 = .ok (.putfield 222, 3) := by decide +kernel
theorem dX9_lot_15 : decode cX9_lot 15 = .ok (.aload_n 0, 1) := by decide +kernel
theorem dX9_lot_16 : decode cX9_lot 16 = .ok (.getfield 222, 3) := by decide +kernel
theorem dX9_lot_19 : decode cX9_lot 19 = .ok (.bipush 16, 2) := by decide +kernel
theorem dX9_lot_21 : decode cX9_lot 21 = .ok (.iushr, 1) := by decide +kernel
theorem dX9_lot_22 : decode cX9_lot 22 = .ok (.iload_n 1, 1) := by decide +kernel
theorem dX9_lot_23 : decode cX9_lot 23 = .ok (.irem, 1) := by decide +kernel
theorem dX9_lot_24 : decode cX9_lot 24 = .ok (.ireturn, 1) := by decide +kernel
theorem dX9_nightOf_0 : decode cX9_nightOf 0 = .ok (.aload_n 0, 1) := by decide +kernel
theorem dX9_nightOf_1 : decode cX9_nightOf 1 = .ok (.invokevirtual 117, 3) := by decide +kernel
theorem dX9_nightOf_4 : decode cX9_nightOf 4 = .ok (.aload_n 0, 1) := by decide +kernel
theorem dX9_nightOf_5 : decode cX9_nightOf 5 = .ok (.iload_n 1, 1) := by decide +kernel
theorem dX9_nightOf_6 : decode cX9_nightOf 6 = .ok (.putfield 222, 3) := by decide +kernel
theorem dX9_nightOf_9 : decode cX9_nightOf 9 = .ok (.iconst 0, 1) := by decide +kernel
theorem dX9_nightOf_10 : decode cX9_nightOf 10 = .ok (.istore_n 3, 1) := by decide +kernel
theorem dX9_nightOf_11 : decode cX9_nightOf 11 = .ok (.iconst 0, 1) := by decide +kernel
theorem dX9_nightOf_12 : decode cX9_nightOf 12 = .ok (.istore 4, 2) := by decide +kernel
theorem dX9_nightOf_14 : decode cX9_nightOf 14 = .ok (.iconst 0, 1) := by decide +kernel
theorem dX9_nightOf_15 : decode cX9_nightOf 15 = .ok (.istore 5, 2) := by decide +kernel
theorem dX9_nightOf_17 : decode cX9_nightOf 17 = .ok (.iload 5, 2) := by decide +kernel
theorem dX9_nightOf_19 : decode cX9_nightOf 19 = .ok (.iload_n 2, 1) := by decide +kernel
theorem dX9_nightOf_20 : decode cX9_nightOf 20 = .ok (.if_icmp .ge 171, 3) := by decide +kernel
theorem dX9_nightOf_23 : decode cX9_nightOf 23 = .ok (.aload_n 0, 1) := by decide +kernel
theorem dX9_nightOf_24 : decode cX9_nightOf 24 = .ok (.iload_n 3, 1) := by decide +kernel
theorem dX9_nightOf_25 : decode cX9_nightOf 25 = .ok (.invokevirtual 132, 3) := by decide +kernel
theorem dX9_nightOf_28 : decode cX9_nightOf 28 = .ok (.istore 6, 2) := by decide +kernel
theorem dX9_nightOf_30 : decode cX9_nightOf 30 = .ok (.iload 6, 2) := by decide +kernel
theorem dX9_nightOf_32 : decode cX9_nightOf 32 = .ok (.iconst (-1), 1) := by decide +kernel
theorem dX9_nightOf_33 : decode cX9_nightOf 33 = .ok (.if_icmp .ne 9, 3) := by decide +kernel
theorem dX9_nightOf_36 : decode cX9_nightOf 36 = .ok (.sipush 400, 3) := by decide +kernel
theorem dX9_nightOf_39 : decode cX9_nightOf 39 = .ok (.goto 11, 3) := by decide +kernel
theorem dX9_nightOf_42 : decode cX9_nightOf 42 = .ok (.iload 6, 2) := by decide +kernel
theorem dX9_nightOf_44 : decode cX9_nightOf 44 = .ok (.aload_n 0, 1) := by decide +kernel
theorem dX9_nightOf_45 : decode cX9_nightOf 45 = .ok (.iconst 3, 1) := by decide +kernel
theorem dX9_nightOf_46 : decode cX9_nightOf 46 = .ok (.invokevirtual 225, 3) := by decide +kernel
theorem dX9_nightOf_49 : decode cX9_nightOf 49 = .ok (.iadd, 1) := by decide +kernel
theorem dX9_nightOf_50 : decode cX9_nightOf 50 = .ok (.istore 7, 2) := by decide +kernel
theorem dX9_nightOf_52 : decode cX9_nightOf 52 = .ok (.iload 7, 2) := by decide +kernel
theorem dX9_nightOf_54 : decode cX9_nightOf 54 = .ok (.sipush 399, 3) := by decide +kernel
theorem dX9_nightOf_57 : decode cX9_nightOf 57 = .ok (.if_icmp .le 6, 3) := by decide +kernel
theorem dX9_nightOf_60 : decode cX9_nightOf 60 = .ok (.iload 4, 2) := by decide +kernel
theorem dX9_nightOf_62 : decode cX9_nightOf 62 = .ok (.ireturn, 1) := by decide +kernel
theorem dX9_nightOf_63 : decode cX9_nightOf 63 = .ok (.aload_n 0, 1) := by decide +kernel
theorem dX9_nightOf_64 : decode cX9_nightOf 64 = .ok (.iload 7, 2) := by decide +kernel
theorem dX9_nightOf_66 : decode cX9_nightOf 66 = .ok (.invokevirtual 163, 3) := by decide +kernel
theorem dX9_nightOf_69 : decode cX9_nightOf 69 = .ok (.istore 8, 2) := by decide +kernel
theorem dX9_nightOf_71 : decode cX9_nightOf 71 = .ok (.aload_n 0, 1) := by decide +kernel
theorem dX9_nightOf_72 : decode cX9_nightOf 72 = .ok (.bipush 16, 2) := by decide +kernel
theorem dX9_nightOf_74 : decode cX9_nightOf 74 = .ok (.invokevirtual 225, 3) := by decide +kernel
theorem dX9_nightOf_77 : decode cX9_nightOf 77 = .ok (.aload_n 0, 1) := by decide +kernel
theorem dX9_nightOf_78 : decode cX9_nightOf 78 = .ok (.iload 7, 2) := by decide +kernel
theorem dX9_nightOf_80 : decode cX9_nightOf 80 = .ok (.invokevirtual 154, 3) := by decide +kernel
theorem dX9_nightOf_83 : decode cX9_nightOf 83 = .ok (.if_icmp .ge 7, 3) := by decide +kernel
theorem dX9_nightOf_86 : decode cX9_nightOf 86 = .ok (.iconst 1, 1) := by decide +kernel
theorem dX9_nightOf_87 : decode cX9_nightOf 87 = .ok (.goto 4, 3) := by decide +kernel
theorem dX9_nightOf_90 : decode cX9_nightOf 90 = .ok (.iconst 0, 1) := by decide +kernel
theorem dX9_nightOf_91 : decode cX9_nightOf 91 = .ok (.istore 9, 2) := by decide +kernel
theorem dX9_nightOf_93 : decode cX9_nightOf 93 = .ok (.iconst 0, 1) := by decide +kernel
theorem dX9_nightOf_94 : decode cX9_nightOf 94 = .ok (.istore 10, 2) := by decide +kernel
theorem dX9_nightOf_96 : decode cX9_nightOf 96 = .ok (.iload 10, 2) := by decide +kernel
theorem dX9_nightOf_98 : decode cX9_nightOf 98 = .ok (.aload_n 0, 1) := by decide +kernel
theorem dX9_nightOf_99 : decode cX9_nightOf 99 = .ok (.getfield 160, 3) := by decide +kernel
theorem dX9_nightOf_102 : decode cX9_nightOf 102 = .ok (.if_icmp .ge 37, 3) := by decide +kernel
theorem dX9_nightOf_105 : decode cX9_nightOf 105 = .ok (.iload 9, 2) := by decide +kernel
theorem dX9_nightOf_107 : decode cX9_nightOf 107 = .ok (.ifCond .ne 32, 3) := by decide +kernel
theorem dX9_nightOf_110 : decode cX9_nightOf 110 = .ok (.aload_n 0, 1) := by decide +kernel
theorem dX9_nightOf_111 : decode cX9_nightOf 111 = .ok (.bipush 16, 2) := by decide +kernel
theorem dX9_nightOf_113 : decode cX9_nightOf 113 = .ok (.invokevirtual 225, 3) := by decide +kernel
theorem dX9_nightOf_116 : decode cX9_nightOf 116 = .ok (.aload_n 0, 1) := by decide +kernel
theorem dX9_nightOf_117 : decode cX9_nightOf 117 = .ok (.getfield 25, 3) := by decide +kernel
theorem dX9_nightOf_120 : decode cX9_nightOf 120 = .ok (.bipush 8, 2) := by decide +kernel
theorem dX9_nightOf_122 : decode cX9_nightOf 122 = .ok (.iaload, 1) := by decide +kernel
theorem dX9_nightOf_123 : decode cX9_nightOf 123 = .ok (.if_icmp .ge 7, 3) := by decide +kernel
theorem dX9_nightOf_126 : decode cX9_nightOf 126 = .ok (.iconst 1, 1) := by decide +kernel
theorem dX9_nightOf_127 : decode cX9_nightOf 127 = .ok (.goto 4, 3) := by decide +kernel
theorem dX9_nightOf_130 : decode cX9_nightOf 130 = .ok (.iconst 0, 1) := by decide +kernel
theorem dX9_nightOf_131 : decode cX9_nightOf 131 = .ok (.istore 9, 2) := by decide +kernel
theorem dX9_nightOf_133 : decode cX9_nightOf 133 = .ok (.iinc 10 1, 3) := by decide +kernel
theorem dX9_nightOf_136 : decode cX9_nightOf 136 = .ok (.goto (-40), 3) := by decide +kernel
theorem dX9_nightOf_139 : decode cX9_nightOf 139 = .ok (.iload 9, 2) := by decide +kernel
theorem dX9_nightOf_141 : decode cX9_nightOf 141 = .ok (.ifCond .ne 9, 3) := by decide +kernel
theorem dX9_nightOf_144 : decode cX9_nightOf 144 = .ok (.iload 8, 2) := by decide +kernel
theorem dX9_nightOf_146 : decode cX9_nightOf 146 = .ok (.iconst (-1), 1) := by decide +kernel
theorem dX9_nightOf_147 : decode cX9_nightOf 147 = .ok (.if_icmp .ne 7, 3) := by decide +kernel
theorem dX9_nightOf_150 : decode cX9_nightOf 150 = .ok (.iconst 1, 1) := by decide +kernel
theorem dX9_nightOf_151 : decode cX9_nightOf 151 = .ok (.goto 4, 3) := by decide +kernel
theorem dX9_nightOf_154 : decode cX9_nightOf 154 = .ok (.iconst 0, 1) := by decide +kernel
theorem dX9_nightOf_155 : decode cX9_nightOf 155 = .ok (.istore 9, 2) := by decide +kernel
theorem dX9_nightOf_157 : decode cX9_nightOf 157 = .ok (.iload 9, 2) := by decide +kernel
theorem dX9_nightOf_159 : decode cX9_nightOf 159 = .ok (.ifCond .eq 8, 3) := by decide +kernel
theorem dX9_nightOf_162 : decode cX9_nightOf 162 = .ok (.iload 7, 2) := by decide +kernel
theorem dX9_nightOf_164 : decode cX9_nightOf 164 = .ok (.goto 5, 3) := by decide +kernel
theorem dX9_nightOf_167 : decode cX9_nightOf 167 = .ok (.iload 8, 2) := by decide +kernel
theorem dX9_nightOf_169 : decode cX9_nightOf 169 = .ok (.istore_n 3, 1) := by decide +kernel
theorem dX9_nightOf_170 : decode cX9_nightOf 170 = .ok (.iload 4, 2) := by decide +kernel
theorem dX9_nightOf_172 : decode cX9_nightOf 172 = .ok (.iload 9, 2) := by decide +kernel
theorem dX9_nightOf_174 : decode cX9_nightOf 174 = .ok (.ifCond .eq 7, 3) := by decide +kernel
theorem dX9_nightOf_177 : decode cX9_nightOf 177 = .ok (.iconst 0, 1) := by decide +kernel
theorem dX9_nightOf_178 : decode cX9_nightOf 178 = .ok (.goto 4, 3) := by decide +kernel
theorem dX9_nightOf_181 : decode cX9_nightOf 181 = .ok (.iconst 1, 1) := by decide +kernel
theorem dX9_nightOf_182 : decode cX9_nightOf 182 = .ok (.iadd, 1) := by decide +kernel
theorem dX9_nightOf_183 : decode cX9_nightOf 183 = .ok (.istore 4, 2) := by decide +kernel
theorem dX9_nightOf_185 : decode cX9_nightOf 185 = .ok (.iinc 5 1, 3) := by decide +kernel
theorem dX9_nightOf_188 : decode cX9_nightOf 188 = .ok (.goto (-171), 3) := by decide +kernel
theorem dX9_nightOf_191 : decode cX9_nightOf 191 = .ok (.iload 4, 2) := by decide +kernel
theorem dX9_nightOf_193 : decode cX9_nightOf 193 = .ok (.ireturn, 1) := by decide +kernel
theorem dX9_night_0 : decode cX9_night 0 = .ok (.iload_n 2, 1) := by decide +kernel
theorem dX9_night_1 : decode cX9_night 1 = .ok (.iconst 1, 1) := by decide +kernel
theorem dX9_night_2 : decode cX9_night 2 = .ok (.bipush 20, 2) := by decide +kernel
theorem dX9_night_4 : decode cX9_night 4 = .ok (.invokestatic 55, 3) := by decide +kernel
theorem dX9_night_7 : decode cX9_night 7 = .ok (.ifCond .eq 12, 3) := by decide +kernel
theorem dX9_night_10 : decode cX9_night 10 = .ok (.aload_n 0, 1) := by decide +kernel
theorem dX9_night_11 : decode cX9_night 11 = .ok (.iload_n 1, 1) := by decide +kernel
theorem dX9_night_12 : decode cX9_night 12 = .ok (.iload_n 2, 1) := by decide +kernel
theorem dX9_night_13 : decode cX9_night 13 = .ok (.invokevirtual 228, 3) := by decide +kernel
theorem dX9_night_16 : decode cX9_night 16 = .ok (.goto 5, 3) := by decide +kernel
theorem dX9_night_19 : decode cX9_night 19 = .ok (.bipush (-2), 2) := by decide +kernel
theorem dX9_night_21 : decode cX9_night 21 = .ok (.ireturn, 1) := by decide +kernel
theorem dX9_meets_0 : decode cX9_meets 0 = .ok (.aload_n 0, 1) := by decide +kernel
theorem dX9_meets_1 : decode cX9_meets 1 = .ok (.iload_n 1, 1) := by decide +kernel
theorem dX9_meets_2 : decode cX9_meets 2 = .ok (.putfield 231, 3) := by decide +kernel
theorem dX9_meets_5 : decode cX9_meets 5 = .ok (.bipush (-10), 2) := by decide +kernel
theorem dX9_meets_7 : decode cX9_meets 7 = .ok (.iload_n 1, 1) := by decide +kernel
theorem dX9_meets_8 : decode cX9_meets 8 = .ok (.isub, 1) := by decide +kernel
theorem dX9_meets_9 : decode cX9_meets 9 = .ok (.ireturn, 1) := by decide +kernel
theorem dX9_isSheet_0 : decode cX9_isSheet 0 = .ok (.iload_n 0, 1) := by decide +kernel
theorem dX9_isSheet_1 : decode cX9_isSheet 1 = .ok (.iconst 0, 1) := by decide +kernel
theorem dX9_isSheet_2 : decode cX9_isSheet 2 = .ok (.iconst 3, 1) := by decide +kernel
theorem dX9_isSheet_3 : decode cX9_isSheet 3 = .ok (.invokestatic 55, 3) := by decide +kernel
theorem dX9_isSheet_6 : decode cX9_isSheet 6 = .ok (.ireturn, 1) := by decide +kernel
theorem dX9_sheet_0 : decode cX9_sheet 0 = .ok (.iload_n 1, 1) := by decide +kernel
theorem dX9_sheet_1 : decode cX9_sheet 1 = .ok (.invokestatic 209, 3) := by decide +kernel
theorem dX9_sheet_4 : decode cX9_sheet 4 = .ok (.ifCond .eq 18, 3) := by decide +kernel
theorem dX9_sheet_7 : decode cX9_sheet 7 = .ok (.iload_n 2, 1) := by decide +kernel
theorem dX9_sheet_8 : decode cX9_sheet 8 = .ok (.iconst 0, 1) := by decide +kernel
theorem dX9_sheet_9 : decode cX9_sheet 9 = .ok (.iconst 2, 1) := by decide +kernel
theorem dX9_sheet_10 : decode cX9_sheet 10 = .ok (.invokestatic 55, 3) := by decide +kernel
theorem dX9_sheet_13 : decode cX9_sheet 13 = .ok (.ifCond .eq 9, 3) := by decide +kernel
theorem dX9_sheet_16 : decode cX9_sheet 16 = .ok (.iload_n 3, 1) := by decide +kernel
theorem dX9_sheet_17 : decode cX9_sheet 17 = .ok (.bipush 48, 2) := by decide +kernel
theorem dX9_sheet_19 : decode cX9_sheet 19 = .ok (.if_icmp .le 6, 3) := by decide +kernel
theorem dX9_sheet_22 : decode cX9_sheet 22 = .ok (.bipush (-2), 2) := by decide +kernel
theorem dX9_sheet_24 : decode cX9_sheet 24 = .ok (.ireturn, 1) := by decide +kernel
theorem dX9_sheet_25 : decode cX9_sheet 25 = .ok (.iload_n 3, 1) := by decide +kernel
theorem dX9_sheet_26 : decode cX9_sheet 26 = .ok (.ifCond .ge 9, 3) := by decide +kernel
theorem dX9_sheet_29 : decode cX9_sheet 29 = .ok (.aload_n 0, 1) := by decide +kernel
theorem dX9_sheet_30 : decode cX9_sheet 30 = .ok (.iconst 5, 1) := by decide +kernel
theorem dX9_sheet_31 : decode cX9_sheet 31 = .ok (.invokevirtual 212, 3) := by decide +kernel
theorem dX9_sheet_34 : decode cX9_sheet 34 = .ok (.ireturn, 1) := by decide +kernel
theorem dX9_sheet_35 : decode cX9_sheet 35 = .ok (.aload_n 0, 1) := by decide +kernel
theorem dX9_sheet_36 : decode cX9_sheet 36 = .ok (.getfield 37, 3) := by decide +kernel
theorem dX9_sheet_39 : decode cX9_sheet 39 = .ok (.iload_n 1, 1) := by decide +kernel
theorem dX9_sheet_40 : decode cX9_sheet 40 = .ok (.iconst 1, 1) := by decide +kernel
theorem dX9_sheet_41 : decode cX9_sheet 41 = .ok (.bastore, 1) := by decide +kernel
theorem dX9_sheet_42 : decode cX9_sheet 42 = .ok (.aload_n 0, 1) := by decide +kernel
theorem dX9_sheet_43 : decode cX9_sheet 43 = .ok (.getfield 41, 3) := by decide +kernel
theorem dX9_sheet_46 : decode cX9_sheet 46 = .ok (.iload_n 1, 1) := by decide +kernel
theorem dX9_sheet_47 : decode cX9_sheet 47 = .ok (.iload_n 2, 1) := by decide +kernel
theorem dX9_sheet_48 : decode cX9_sheet 48 = .ok (.iastore, 1) := by decide +kernel
theorem dX9_sheet_49 : decode cX9_sheet 49 = .ok (.aload_n 0, 1) := by decide +kernel
theorem dX9_sheet_50 : decode cX9_sheet 50 = .ok (.getfield 44, 3) := by decide +kernel
theorem dX9_sheet_53 : decode cX9_sheet 53 = .ok (.iload_n 1, 1) := by decide +kernel
theorem dX9_sheet_54 : decode cX9_sheet 54 = .ok (.iload_n 3, 1) := by decide +kernel
theorem dX9_sheet_55 : decode cX9_sheet 55 = .ok (.iastore, 1) := by decide +kernel
theorem dX9_sheet_56 : decode cX9_sheet 56 = .ok (.iconst 0, 1) := by decide +kernel
theorem dX9_sheet_57 : decode cX9_sheet 57 = .ok (.istore 4, 2) := by decide +kernel
theorem dX9_sheet_59 : decode cX9_sheet 59 = .ok (.iload 4, 2) := by decide +kernel
theorem dX9_sheet_61 : decode cX9_sheet 61 = .ok (.bipush 48, 2) := by decide +kernel
theorem dX9_sheet_63 : decode cX9_sheet 63 = .ok (.if_icmp .ge 22, 3) := by decide +kernel
theorem dX9_sheet_66 : decode cX9_sheet 66 = .ok (.aload_n 0, 1) := by decide +kernel
theorem dX9_sheet_67 : decode cX9_sheet 67 = .ok (.getfield 47, 3) := by decide +kernel
theorem dX9_sheet_70 : decode cX9_sheet 70 = .ok (.bipush 48, 2) := by decide +kernel
theorem dX9_sheet_72 : decode cX9_sheet 72 = .ok (.iload_n 1, 1) := by decide +kernel
theorem dX9_sheet_73 : decode cX9_sheet 73 = .ok (.imul, 1) := by decide +kernel
theorem dX9_sheet_74 : decode cX9_sheet 74 = .ok (.iload 4, 2) := by decide +kernel
theorem dX9_sheet_76 : decode cX9_sheet 76 = .ok (.iadd, 1) := by decide +kernel
theorem dX9_sheet_77 : decode cX9_sheet 77 = .ok (.iconst 0, 1) := by decide +kernel
theorem dX9_sheet_78 : decode cX9_sheet 78 = .ok (.iastore, 1) := by decide +kernel
theorem dX9_sheet_79 : decode cX9_sheet 79 = .ok (.iinc 4 1, 3) := by decide +kernel
theorem dX9_sheet_82 : decode cX9_sheet 82 = .ok (.goto (-23), 3) := by decide +kernel
theorem dX9_sheet_85 : decode cX9_sheet 85 = .ok (.iload_n 3, 1) := by decide +kernel
theorem dX9_sheet_86 : decode cX9_sheet 86 = .ok (.ireturn, 1) := by decide +kernel
theorem dX9_lose_0 : decode cX9_lose 0 = .ok (.iload_n 1, 1) := by decide +kernel
theorem dX9_lose_1 : decode cX9_lose 1 = .ok (.invokestatic 209, 3) := by decide +kernel
theorem dX9_lose_4 : decode cX9_lose 4 = .ok (.ifCond .ne 6, 3) := by decide +kernel
theorem dX9_lose_7 : decode cX9_lose 7 = .ok (.bipush (-2), 2) := by decide +kernel
theorem dX9_lose_9 : decode cX9_lose 9 = .ok (.ireturn, 1) := by decide +kernel
theorem dX9_lose_10 : decode cX9_lose 10 = .ok (.aload_n 0, 1) := by decide +kernel
theorem dX9_lose_11 : decode cX9_lose 11 = .ok (.getfield 37, 3) := by decide +kernel
theorem dX9_lose_14 : decode cX9_lose 14 = .ok (.iload_n 1, 1) := by decide +kernel
theorem dX9_lose_15 : decode cX9_lose 15 = .ok (.baload, 1) := by decide +kernel
theorem dX9_lose_16 : decode cX9_lose 16 = .ok (.ifCond .ne 9, 3) := by decide +kernel
theorem dX9_lose_19 : decode cX9_lose 19 = .ok (.aload_n 0, 1) := by decide +kernel
theorem dX9_lose_20 : decode cX9_lose 20 = .ok (.iconst 1, 1) := by decide +kernel
theorem dX9_lose_21 : decode cX9_lose 21 = .ok (.invokevirtual 212, 3) := by decide +kernel
theorem dX9_lose_24 : decode cX9_lose 24 = .ok (.ireturn, 1) := by decide +kernel
theorem dX9_lose_25 : decode cX9_lose 25 = .ok (.aload_n 0, 1) := by decide +kernel
theorem dX9_lose_26 : decode cX9_lose 26 = .ok (.getfield 37, 3) := by decide +kernel
theorem dX9_lose_29 : decode cX9_lose 29 = .ok (.iload_n 1, 1) := by decide +kernel
theorem dX9_lose_30 : decode cX9_lose 30 = .ok (.iconst 0, 1) := by decide +kernel
theorem dX9_lose_31 : decode cX9_lose 31 = .ok (.bastore, 1) := by decide +kernel
theorem dX9_lose_32 : decode cX9_lose 32 = .ok (.aload_n 0, 1) := by decide +kernel
theorem dX9_lose_33 : decode cX9_lose 33 = .ok (.getfield 44, 3) := by decide +kernel
theorem dX9_lose_36 : decode cX9_lose 36 = .ok (.iload_n 1, 1) := by decide +kernel
theorem dX9_lose_37 : decode cX9_lose 37 = .ok (.iaload, 1) := by decide +kernel
theorem dX9_lose_38 : decode cX9_lose 38 = .ok (.ireturn, 1) := by decide +kernel
theorem dX9_lacks_0 : decode cX9_lacks 0 = .ok (.aload_n 0, 1) := by decide +kernel
theorem dX9_lacks_1 : decode cX9_lacks 1 = .ok (.getfield 37, 3) := by decide +kernel
theorem dX9_lacks_4 : decode cX9_lacks 4 = .ok (.iload_n 1, 1) := by decide +kernel
theorem dX9_lacks_5 : decode cX9_lacks 5 = .ok (.baload, 1) := by decide +kernel
theorem dX9_lacks_6 : decode cX9_lacks 6 = .ok (.ifCond .ne 7, 3) := by decide +kernel
theorem dX9_lacks_9 : decode cX9_lacks 9 = .ok (.iconst 1, 1) := by decide +kernel
theorem dX9_lacks_10 : decode cX9_lacks 10 = .ok (.goto 38, 3) := by decide +kernel
theorem dX9_lacks_13 : decode cX9_lacks 13 = .ok (.aload_n 0, 1) := by decide +kernel
theorem dX9_lacks_14 : decode cX9_lacks 14 = .ok (.getfield 41, 3) := by decide +kernel
theorem dX9_lacks_17 : decode cX9_lacks 17 = .ok (.iload_n 1, 1) := by decide +kernel
theorem dX9_lacks_18 : decode cX9_lacks 18 = .ok (.iaload, 1) := by decide +kernel
theorem dX9_lacks_19 : decode cX9_lacks 19 = .ok (.iload_n 2, 1) := by decide +kernel
theorem dX9_lacks_20 : decode cX9_lacks 20 = .ok (.if_icmp .eq 7, 3) := by decide +kernel
theorem dX9_lacks_23 : decode cX9_lacks 23 = .ok (.iconst 3, 1) := by decide +kernel
theorem dX9_lacks_24 : decode cX9_lacks 24 = .ok (.goto 24, 3) := by decide +kernel
theorem dX9_lacks_27 : decode cX9_lacks 27 = .ok (.iload_n 3, 1) := by decide +kernel
theorem dX9_lacks_28 : decode cX9_lacks 28 = .ok (.iconst 0, 1) := by decide +kernel
theorem dX9_lacks_29 : decode cX9_lacks 29 = .ok (.aload_n 0, 1) := by decide +kernel
theorem dX9_lacks_30 : decode cX9_lacks 30 = .ok (.getfield 44, 3) := by decide +kernel
theorem dX9_lacks_33 : decode cX9_lacks 33 = .ok (.iload_n 1, 1) := by decide +kernel
theorem dX9_lacks_34 : decode cX9_lacks 34 = .ok (.iaload, 1) := by decide +kernel
theorem dX9_lacks_35 : decode cX9_lacks 35 = .ok (.iconst 1, 1) := by decide +kernel
theorem dX9_lacks_36 : decode cX9_lacks 36 = .ok (.isub, 1) := by decide +kernel
theorem dX9_lacks_37 : decode cX9_lacks 37 = .ok (.invokestatic 55, 3) := by decide +kernel
theorem dX9_lacks_40 : decode cX9_lacks 40 = .ok (.ifCond .eq 7, 3) := by decide +kernel
theorem dX9_lacks_43 : decode cX9_lacks 43 = .ok (.iconst 0, 1) := by decide +kernel
theorem dX9_lacks_44 : decode cX9_lacks 44 = .ok (.goto 4, 3) := by decide +kernel
theorem dX9_lacks_47 : decode cX9_lacks 47 = .ok (.iconst 2, 1) := by decide +kernel
theorem dX9_lacks_48 : decode cX9_lacks 48 = .ok (.ireturn, 1) := by decide +kernel
theorem dX9_keep_0 : decode cX9_keep 0 = .ok (.aload_n 0, 1) := by decide +kernel
theorem dX9_keep_1 : decode cX9_keep 1 = .ok (.getfield 47, 3) := by decide +kernel
theorem dX9_keep_4 : decode cX9_keep 4 = .ok (.bipush 48, 2) := by decide +kernel
theorem dX9_keep_6 : decode cX9_keep 6 = .ok (.iload_n 1, 1) := by decide +kernel
theorem dX9_keep_7 : decode cX9_keep 7 = .ok (.imul, 1) := by decide +kernel
theorem dX9_keep_8 : decode cX9_keep 8 = .ok (.iload_n 2, 1) := by decide +kernel
theorem dX9_keep_9 : decode cX9_keep 9 = .ok (.iadd, 1) := by decide +kernel
theorem dX9_keep_10 : decode cX9_keep 10 = .ok (.aload_n 0, 1) := by decide +kernel
theorem dX9_keep_11 : decode cX9_keep 11 = .ok (.getfield 41, 3) := by decide +kernel
theorem dX9_keep_14 : decode cX9_keep 14 = .ok (.iload_n 1, 1) := by decide +kernel
theorem dX9_keep_15 : decode cX9_keep 15 = .ok (.iaload, 1) := by decide +kernel
theorem dX9_keep_16 : decode cX9_keep 16 = .ok (.ifCond .ne 8, 3) := by decide +kernel
theorem dX9_keep_19 : decode cX9_keep 19 = .ok (.iload_n 3, 1) := by decide +kernel
theorem dX9_keep_20 : decode cX9_keep 20 = .ok (.i2b, 1) := by decide +kernel
theorem dX9_keep_21 : decode cX9_keep 21 = .ok (.goto 19, 3) := by decide +kernel
theorem dX9_keep_24 : decode cX9_keep 24 = .ok (.aload_n 0, 1) := by decide +kernel
theorem dX9_keep_25 : decode cX9_keep 25 = .ok (.getfield 41, 3) := by decide +kernel
theorem dX9_keep_28 : decode cX9_keep 28 = .ok (.iload_n 1, 1) := by decide +kernel
theorem dX9_keep_29 : decode cX9_keep 29 = .ok (.iaload, 1) := by decide +kernel
theorem dX9_keep_30 : decode cX9_keep 30 = .ok (.iconst 1, 1) := by decide +kernel
theorem dX9_keep_31 : decode cX9_keep 31 = .ok (.if_icmp .ne 8, 3) := by decide +kernel
theorem dX9_keep_34 : decode cX9_keep 34 = .ok (.iload_n 3, 1) := by decide +kernel
theorem dX9_keep_35 : decode cX9_keep 35 = .ok (.i2s, 1) := by decide +kernel
theorem dX9_keep_36 : decode cX9_keep 36 = .ok (.goto 4, 3) := by decide +kernel
theorem dX9_keep_39 : decode cX9_keep 39 = .ok (.iload_n 3, 1) := by decide +kernel
theorem dX9_keep_40 : decode cX9_keep 40 = .ok (.iastore, 1) := by decide +kernel
theorem dX9_keep_41 : decode cX9_keep 41 = .ok (.return_, 1) := by decide +kernel
theorem dX9_put_0 : decode cX9_put 0 = .ok (.iload_n 1, 1) := by decide +kernel
theorem dX9_put_1 : decode cX9_put 1 = .ok (.invokestatic 209, 3) := by decide +kernel
theorem dX9_put_4 : decode cX9_put 4 = .ok (.ifCond .eq 12, 3) := by decide +kernel
theorem dX9_put_7 : decode cX9_put 7 = .ok (.iload_n 2, 1) := by decide +kernel
theorem dX9_put_8 : decode cX9_put 8 = .ok (.iconst 0, 1) := by decide +kernel
theorem dX9_put_9 : decode cX9_put 9 = .ok (.iconst 2, 1) := by decide +kernel
theorem dX9_put_10 : decode cX9_put 10 = .ok (.invokestatic 55, 3) := by decide +kernel
theorem dX9_put_13 : decode cX9_put 13 = .ok (.ifCond .ne 6, 3) := by decide +kernel
theorem dX9_put_16 : decode cX9_put 16 = .ok (.bipush (-2), 2) := by decide +kernel
theorem dX9_put_18 : decode cX9_put 18 = .ok (.ireturn, 1) := by decide +kernel
theorem dX9_put_19 : decode cX9_put 19 = .ok (.aload_n 0, 1) := by decide +kernel
theorem dX9_put_20 : decode cX9_put 20 = .ok (.iload_n 1, 1) := by decide +kernel
theorem dX9_put_21 : decode cX9_put 21 = .ok (.iload_n 2, 1) := by decide +kernel
theorem dX9_put_22 : decode cX9_put 22 = .ok (.iload_n 3, 1) := by decide +kernel
theorem dX9_put_23 : decode cX9_put 23 = .ok (.invokevirtual 234, 3) := by decide +kernel
theorem dX9_put_26 : decode cX9_put 26 = .ok (.istore 5, 2) := by decide +kernel
theorem dX9_put_28 : decode cX9_put 28 = .ok (.iload 5, 2) := by decide +kernel
theorem dX9_put_30 : decode cX9_put 30 = .ok (.ifCond .le 10, 3) := by decide +kernel
theorem dX9_put_33 : decode cX9_put 33 = .ok (.aload_n 0, 1) := by decide +kernel
theorem dX9_put_34 : decode cX9_put 34 = .ok (.iload 5, 2) := by decide +kernel
theorem dX9_put_36 : decode cX9_put 36 = .ok (.invokevirtual 212, 3) := by decide +kernel
theorem dX9_put_39 : decode cX9_put 39 = .ok (.ireturn, 1) := by decide +kernel
theorem dX9_put_40 : decode cX9_put 40 = .ok (.aload_n 0, 1) := by decide +kernel
theorem dX9_put_41 : decode cX9_put 41 = .ok (.iload_n 1, 1) := by decide +kernel
theorem dX9_put_42 : decode cX9_put 42 = .ok (.iload_n 3, 1) := by decide +kernel
theorem dX9_put_43 : decode cX9_put 43 = .ok (.iload 4, 2) := by decide +kernel
theorem dX9_put_45 : decode cX9_put 45 = .ok (.invokevirtual 237, 3) := by decide +kernel
theorem dX9_put_48 : decode cX9_put 48 = .ok (.iconst 1, 1) := by decide +kernel
theorem dX9_put_49 : decode cX9_put 49 = .ok (.ireturn, 1) := by decide +kernel
theorem dX9_get_0 : decode cX9_get 0 = .ok (.iload_n 1, 1) := by decide +kernel
theorem dX9_get_1 : decode cX9_get 1 = .ok (.invokestatic 209, 3) := by decide +kernel
theorem dX9_get_4 : decode cX9_get 4 = .ok (.ifCond .eq 12, 3) := by decide +kernel
theorem dX9_get_7 : decode cX9_get 7 = .ok (.iload_n 2, 1) := by decide +kernel
theorem dX9_get_8 : decode cX9_get 8 = .ok (.iconst 0, 1) := by decide +kernel
theorem dX9_get_9 : decode cX9_get 9 = .ok (.iconst 2, 1) := by decide +kernel
theorem dX9_get_10 : decode cX9_get 10 = .ok (.invokestatic 55, 3) := by decide +kernel
theorem dX9_get_13 : decode cX9_get 13 = .ok (.ifCond .ne 6, 3) := by decide +kernel
theorem dX9_get_16 : decode cX9_get 16 = .ok (.ldc 241, 2) := by decide +kernel
theorem dX9_get_18 : decode cX9_get 18 = .ok (.ireturn, 1) := by decide +kernel
theorem dX9_get_19 : decode cX9_get 19 = .ok (.aload_n 0, 1) := by decide +kernel
theorem dX9_get_20 : decode cX9_get 20 = .ok (.iload_n 1, 1) := by decide +kernel
theorem dX9_get_21 : decode cX9_get 21 = .ok (.iload_n 2, 1) := by decide +kernel
theorem dX9_get_22 : decode cX9_get 22 = .ok (.iload_n 3, 1) := by decide +kernel
theorem dX9_get_23 : decode cX9_get 23 = .ok (.invokevirtual 234, 3) := by decide +kernel
theorem dX9_get_26 : decode cX9_get 26 = .ok (.istore 4, 2) := by decide +kernel
theorem dX9_get_28 : decode cX9_get 28 = .ok (.iload 4, 2) := by decide +kernel
theorem dX9_get_30 : decode cX9_get 30 = .ok (.ifCond .le 12, 3) := by decide +kernel
theorem dX9_get_33 : decode cX9_get 33 = .ok (.aload_n 0, 1) := by decide +kernel
theorem dX9_get_34 : decode cX9_get 34 = .ok (.iload 4, 2) := by decide +kernel
theorem dX9_get_36 : decode cX9_get 36 = .ok (.putfield 231, 3) := by decide +kernel
theorem dX9_get_39 : decode cX9_get 39 = .ok (.ldc 241, 2) := by decide +kernel
theorem dX9_get_41 : decode cX9_get 41 = .ok (.ireturn, 1) := by decide +kernel
theorem dX9_get_42 : decode cX9_get 42 = .ok (.aload_n 0, 1) := by decide +kernel
theorem dX9_get_43 : decode cX9_get 43 = .ok (.getfield 47, 3) := by decide +kernel
theorem dX9_get_46 : decode cX9_get 46 = .ok (.bipush 48, 2) := by decide +kernel
theorem dX9_get_48 : decode cX9_get 48 = .ok (.iload_n 1, 1) := by decide +kernel
theorem dX9_get_49 : decode cX9_get 49 = .ok (.imul, 1) := by decide +kernel
theorem dX9_get_50 : decode cX9_get 50 = .ok (.iload_n 3, 1) := by decide +kernel
theorem dX9_get_51 : decode cX9_get 51 = .ok (.iadd, 1) := by decide +kernel
theorem dX9_get_52 : decode cX9_get 52 = .ok (.iaload, 1) := by decide +kernel
theorem dX9_get_53 : decode cX9_get 53 = .ok (.ireturn, 1) := by decide +kernel
theorem dX9_copy_0 : decode cX9_copy 0 = .ok (.iload_n 1, 1) := by decide +kernel
theorem dX9_copy_1 : decode cX9_copy 1 = .ok (.invokestatic 209, 3) := by decide +kernel
theorem dX9_copy_4 : decode cX9_copy 4 = .ok (.ifCond .eq 10, 3) := by decide +kernel
theorem dX9_copy_7 : decode cX9_copy 7 = .ok (.iload_n 3, 1) := by decide +kernel
theorem dX9_copy_8 : decode cX9_copy 8 = .ok (.invokestatic 209, 3) := by decide +kernel
theorem dX9_copy_11 : decode cX9_copy 11 = .ok (.ifCond .ne 6, 3) := by decide +kernel
theorem dX9_copy_14 : decode cX9_copy 14 = .ok (.bipush (-2), 2) := by decide +kernel
theorem dX9_copy_16 : decode cX9_copy 16 = .ok (.ireturn, 1) := by decide +kernel
theorem dX9_copy_17 : decode cX9_copy 17 = .ok (.aload_n 0, 1) := by decide +kernel
theorem dX9_copy_18 : decode cX9_copy 18 = .ok (.getfield 37, 3) := by decide +kernel
theorem dX9_copy_21 : decode cX9_copy 21 = .ok (.iload_n 1, 1) := by decide +kernel
theorem dX9_copy_22 : decode cX9_copy 22 = .ok (.baload, 1) := by decide +kernel
theorem dX9_copy_23 : decode cX9_copy 23 = .ok (.ifCond .eq 12, 3) := by decide +kernel
theorem dX9_copy_26 : decode cX9_copy 26 = .ok (.aload_n 0, 1) := by decide +kernel
theorem dX9_copy_27 : decode cX9_copy 27 = .ok (.getfield 37, 3) := by decide +kernel
theorem dX9_copy_30 : decode cX9_copy 30 = .ok (.iload_n 3, 1) := by decide +kernel
theorem dX9_copy_31 : decode cX9_copy 31 = .ok (.baload, 1) := by decide +kernel
theorem dX9_copy_32 : decode cX9_copy 32 = .ok (.ifCond .ne 9, 3) := by decide +kernel
theorem dX9_copy_35 : decode cX9_copy 35 = .ok (.aload_n 0, 1) := by decide +kernel
theorem dX9_copy_36 : decode cX9_copy 36 = .ok (.iconst 1, 1) := by decide +kernel
theorem dX9_copy_37 : decode cX9_copy 37 = .ok (.invokevirtual 212, 3) := by decide +kernel
theorem dX9_copy_40 : decode cX9_copy 40 = .ok (.ireturn, 1) := by decide +kernel
theorem dX9_copy_41 : decode cX9_copy 41 = .ok (.aload_n 0, 1) := by decide +kernel
theorem dX9_copy_42 : decode cX9_copy 42 = .ok (.getfield 41, 3) := by decide +kernel
theorem dX9_copy_45 : decode cX9_copy 45 = .ok (.iload_n 1, 1) := by decide +kernel
theorem dX9_copy_46 : decode cX9_copy 46 = .ok (.iaload, 1) := by decide +kernel
theorem dX9_copy_47 : decode cX9_copy 47 = .ok (.aload_n 0, 1) := by decide +kernel
theorem dX9_copy_48 : decode cX9_copy 48 = .ok (.getfield 41, 3) := by decide +kernel
theorem dX9_copy_51 : decode cX9_copy 51 = .ok (.iload_n 3, 1) := by decide +kernel
theorem dX9_copy_52 : decode cX9_copy 52 = .ok (.iaload, 1) := by decide +kernel
theorem dX9_copy_53 : decode cX9_copy 53 = .ok (.if_icmp .eq 9, 3) := by decide +kernel
theorem dX9_copy_56 : decode cX9_copy 56 = .ok (.aload_n 0, 1) := by decide +kernel
theorem dX9_copy_57 : decode cX9_copy 57 = .ok (.iconst 4, 1) := by decide +kernel
theorem dX9_copy_58 : decode cX9_copy 58 = .ok (.invokevirtual 212, 3) := by decide +kernel
theorem dX9_copy_61 : decode cX9_copy 61 = .ok (.ireturn, 1) := by decide +kernel
theorem dX9_copy_62 : decode cX9_copy 62 = .ok (.iload_n 2, 1) := by decide +kernel
theorem dX9_copy_63 : decode cX9_copy 63 = .ok (.ifCond .lt 48, 3) := by decide +kernel
theorem dX9_copy_66 : decode cX9_copy 66 = .ok (.iload 4, 2) := by decide +kernel
theorem dX9_copy_68 : decode cX9_copy 68 = .ok (.ifCond .lt 43, 3) := by decide +kernel
theorem dX9_copy_71 : decode cX9_copy 71 = .ok (.iload 5, 2) := by decide +kernel
theorem dX9_copy_73 : decode cX9_copy 73 = .ok (.ifCond .lt 38, 3) := by decide +kernel
theorem dX9_copy_76 : decode cX9_copy 76 = .ok (.iload_n 2, 1) := by decide +kernel
theorem dX9_copy_77 : decode cX9_copy 77 = .ok (.i2l, 1) := by decide +kernel
theorem dX9_copy_78 : decode cX9_copy 78 = .ok (.iload 5, 2) := by decide +kernel
theorem dX9_copy_80 : decode cX9_copy 80 = .ok (.i2l, 1) := by decide +kernel
theorem dX9_copy_81 : decode cX9_copy 81 = .ok (.ladd, 1) := by decide +kernel
theorem dX9_copy_82 : decode cX9_copy 82 = .ok (.aload_n 0, 1) := by decide +kernel
theorem dX9_copy_83 : decode cX9_copy 83 = .ok (.getfield 44, 3) := by decide +kernel
theorem dX9_copy_86 : decode cX9_copy 86 = .ok (.iload_n 1, 1) := by decide +kernel
theorem dX9_copy_87 : decode cX9_copy 87 = .ok (.iaload, 1) := by decide +kernel
theorem dX9_copy_88 : decode cX9_copy 88 = .ok (.i2l, 1) := by decide +kernel
theorem dX9_copy_89 : decode cX9_copy 89 = .ok (.lcmp, 1) := by decide +kernel
theorem dX9_copy_90 : decode cX9_copy 90 = .ok (.ifCond .gt 21, 3) := by decide +kernel
theorem dX9_copy_93 : decode cX9_copy 93 = .ok (.iload 4, 2) := by decide +kernel
theorem dX9_copy_95 : decode cX9_copy 95 = .ok (.i2l, 1) := by decide +kernel
theorem dX9_copy_96 : decode cX9_copy 96 = .ok (.iload 5, 2) := by decide +kernel
theorem dX9_copy_98 : decode cX9_copy 98 = .ok (.i2l, 1) := by decide +kernel
theorem dX9_copy_99 : decode cX9_copy 99 = .ok (.ladd, 1) := by decide +kernel
theorem dX9_copy_100 : decode cX9_copy 100 = .ok (.aload_n 0, 1) := by decide +kernel
theorem dX9_copy_101 : decode cX9_copy 101 = .ok (.getfield 44, 3) := by decide +kernel
theorem dX9_copy_104 : decode cX9_copy 104 = .ok (.iload_n 3, 1) := by decide +kernel
theorem dX9_copy_105 : decode cX9_copy 105 = .ok (.iaload, 1) := by decide +kernel
theorem dX9_copy_106 : decode cX9_copy 106 = .ok (.i2l, 1) := by decide +kernel
theorem dX9_copy_107 : decode cX9_copy 107 = .ok (.lcmp, 1) := by decide +kernel
theorem dX9_copy_108 : decode cX9_copy 108 = .ok (.ifCond .le 9, 3) := by decide +kernel
theorem dX9_copy_111 : decode cX9_copy 111 = .ok (.aload_n 0, 1) := by decide +kernel
theorem dX9_copy_112 : decode cX9_copy 112 = .ok (.iconst 2, 1) := by decide +kernel
theorem dX9_copy_113 : decode cX9_copy 113 = .ok (.invokevirtual 212, 3) := by decide +kernel
theorem dX9_copy_116 : decode cX9_copy 116 = .ok (.ireturn, 1) := by decide +kernel
theorem dX9_copy_117 : decode cX9_copy 117 = .ok (.iconst 0, 1) := by decide +kernel
theorem dX9_copy_118 : decode cX9_copy 118 = .ok (.istore 6, 2) := by decide +kernel
theorem dX9_copy_120 : decode cX9_copy 120 = .ok (.iload 6, 2) := by decide +kernel
theorem dX9_copy_122 : decode cX9_copy 122 = .ok (.iload 5, 2) := by decide +kernel
theorem dX9_copy_124 : decode cX9_copy 124 = .ok (.if_icmp .ge 30, 3) := by decide +kernel
theorem dX9_copy_127 : decode cX9_copy 127 = .ok (.aload_n 0, 1) := by decide +kernel
theorem dX9_copy_128 : decode cX9_copy 128 = .ok (.getfield 50, 3) := by decide +kernel
theorem dX9_copy_131 : decode cX9_copy 131 = .ok (.iload 6, 2) := by decide +kernel
theorem dX9_copy_133 : decode cX9_copy 133 = .ok (.aload_n 0, 1) := by decide +kernel
theorem dX9_copy_134 : decode cX9_copy 134 = .ok (.getfield 47, 3) := by decide +kernel
theorem dX9_copy_137 : decode cX9_copy 137 = .ok (.bipush 48, 2) := by decide +kernel
theorem dX9_copy_139 : decode cX9_copy 139 = .ok (.iload_n 1, 1) := by decide +kernel
theorem dX9_copy_140 : decode cX9_copy 140 = .ok (.imul, 1) := by decide +kernel
theorem dX9_copy_141 : decode cX9_copy 141 = .ok (.iload_n 2, 1) := by decide +kernel
theorem dX9_copy_142 : decode cX9_copy 142 = .ok (.iadd, 1) := by decide +kernel
theorem dX9_copy_143 : decode cX9_copy 143 = .ok (.iload 6, 2) := by decide +kernel
theorem dX9_copy_145 : decode cX9_copy 145 = .ok (.iadd, 1) := by decide +kernel
theorem dX9_copy_146 : decode cX9_copy 146 = .ok (.iaload, 1) := by decide +kernel
theorem dX9_copy_147 : decode cX9_copy 147 = .ok (.iastore, 1) := by decide +kernel
theorem dX9_copy_148 : decode cX9_copy 148 = .ok (.iinc 6 1, 3) := by decide +kernel
theorem dX9_copy_151 : decode cX9_copy 151 = .ok (.goto (-31), 3) := by decide +kernel
theorem dX9_copy_154 : decode cX9_copy 154 = .ok (.iconst 0, 1) := by decide +kernel
theorem dX9_copy_155 : decode cX9_copy 155 = .ok (.istore 6, 2) := by decide +kernel
theorem dX9_copy_157 : decode cX9_copy 157 = .ok (.iload 6, 2) := by decide +kernel
theorem dX9_copy_159 : decode cX9_copy 159 = .ok (.iload 5, 2) := by decide +kernel
theorem dX9_copy_161 : decode cX9_copy 161 = .ok (.if_icmp .ge 31, 3) := by decide +kernel
theorem dX9_copy_164 : decode cX9_copy 164 = .ok (.aload_n 0, 1) := by decide +kernel
theorem dX9_copy_165 : decode cX9_copy 165 = .ok (.getfield 47, 3) := by decide +kernel
theorem dX9_copy_168 : decode cX9_copy 168 = .ok (.bipush 48, 2) := by decide +kernel
theorem dX9_copy_170 : decode cX9_copy 170 = .ok (.iload_n 3, 1) := by decide +kernel
theorem dX9_copy_171 : decode cX9_copy 171 = .ok (.imul, 1) := by decide +kernel
theorem dX9_copy_172 : decode cX9_copy 172 = .ok (.iload 4, 2) := by decide +kernel
theorem dX9_copy_174 : decode cX9_copy 174 = .ok (.iadd, 1) := by decide +kernel
theorem dX9_copy_175 : decode cX9_copy 175 = .ok (.iload 6, 2) := by decide +kernel
theorem dX9_copy_177 : decode cX9_copy 177 = .ok (.iadd, 1) := by decide +kernel
theorem dX9_copy_178 : decode cX9_copy 178 = .ok (.aload_n 0, 1) := by decide +kernel
theorem dX9_copy_179 : decode cX9_copy 179 = .ok (.getfield 50, 3) := by decide +kernel
theorem dX9_copy_182 : decode cX9_copy 182 = .ok (.iload 6, 2) := by decide +kernel
theorem dX9_copy_184 : decode cX9_copy 184 = .ok (.iaload, 1) := by decide +kernel
theorem dX9_copy_185 : decode cX9_copy 185 = .ok (.iastore, 1) := by decide +kernel
theorem dX9_copy_186 : decode cX9_copy 186 = .ok (.iinc 6 1, 3) := by decide +kernel
theorem dX9_copy_189 : decode cX9_copy 189 = .ok (.goto (-32), 3) := by decide +kernel
theorem dX9_copy_192 : decode cX9_copy 192 = .ok (.iconst 1, 1) := by decide +kernel
theorem dX9_copy_193 : decode cX9_copy 193 = .ok (.ireturn, 1) := by decide +kernel
theorem dX9_write_0 : decode cX9_write 0 = .ok (.iload_n 1, 1) := by decide +kernel
theorem dX9_write_1 : decode cX9_write 1 = .ok (.invokestatic 90, 3) := by decide +kernel
theorem dX9_write_4 : decode cX9_write 4 = .ok (.ifCond .eq 10, 3) := by decide +kernel
theorem dX9_write_7 : decode cX9_write 7 = .ok (.iload_n 2, 1) := by decide +kernel
theorem dX9_write_8 : decode cX9_write 8 = .ok (.invokestatic 209, 3) := by decide +kernel
theorem dX9_write_11 : decode cX9_write 11 = .ok (.ifCond .ne 6, 3) := by decide +kernel
theorem dX9_write_14 : decode cX9_write 14 = .ok (.bipush (-2), 2) := by decide +kernel
theorem dX9_write_16 : decode cX9_write 16 = .ok (.ireturn, 1) := by decide +kernel
theorem dX9_write_17 : decode cX9_write 17 = .ok (.aload_n 0, 1) := by decide +kernel
theorem dX9_write_18 : decode cX9_write 18 = .ok (.getfield 37, 3) := by decide +kernel
theorem dX9_write_21 : decode cX9_write 21 = .ok (.iload_n 2, 1) := by decide +kernel
theorem dX9_write_22 : decode cX9_write 22 = .ok (.baload, 1) := by decide +kernel
theorem dX9_write_23 : decode cX9_write 23 = .ok (.ifCond .ne 9, 3) := by decide +kernel
theorem dX9_write_26 : decode cX9_write 26 = .ok (.aload_n 0, 1) := by decide +kernel
theorem dX9_write_27 : decode cX9_write 27 = .ok (.iconst 1, 1) := by decide +kernel
theorem dX9_write_28 : decode cX9_write 28 = .ok (.invokevirtual 212, 3) := by decide +kernel
theorem dX9_write_31 : decode cX9_write 31 = .ok (.ireturn, 1) := by decide +kernel
theorem dX9_write_32 : decode cX9_write 32 = .ok (.aload_n 0, 1) := by decide +kernel
theorem dX9_write_33 : decode cX9_write 33 = .ok (.invokevirtual 117, 3) := by decide +kernel
theorem dX9_write_36 : decode cX9_write 36 = .ok (.iconst 0, 1) := by decide +kernel
theorem dX9_write_37 : decode cX9_write 37 = .ok (.istore_n 3, 1) := by decide +kernel
theorem dX9_write_38 : decode cX9_write 38 = .ok (.iload_n 3, 1) := by decide +kernel
theorem dX9_write_39 : decode cX9_write 39 = .ok (.aload_n 0, 1) := by decide +kernel
theorem dX9_write_40 : decode cX9_write 40 = .ok (.getfield 44, 3) := by decide +kernel
theorem dX9_write_43 : decode cX9_write 43 = .ok (.iload_n 2, 1) := by decide +kernel
theorem dX9_write_44 : decode cX9_write 44 = .ok (.iaload, 1) := by decide +kernel
theorem dX9_write_45 : decode cX9_write 45 = .ok (.if_icmp .ge 32, 3) := by decide +kernel
theorem dX9_write_48 : decode cX9_write 48 = .ok (.iload_n 1, 1) := by decide +kernel
theorem dX9_write_49 : decode cX9_write 49 = .ok (.iload_n 3, 1) := by decide +kernel
theorem dX9_write_50 : decode cX9_write 50 = .ok (.iadd, 1) := by decide +kernel
theorem dX9_write_51 : decode cX9_write 51 = .ok (.sipush 400, 3) := by decide +kernel
theorem dX9_write_54 : decode cX9_write 54 = .ok (.if_icmp .ge 23, 3) := by decide +kernel
theorem dX9_write_57 : decode cX9_write 57 = .ok (.aload_n 0, 1) := by decide +kernel
theorem dX9_write_58 : decode cX9_write 58 = .ok (.iload_n 2, 1) := by decide +kernel
theorem dX9_write_59 : decode cX9_write 59 = .ok (.iload_n 3, 1) := by decide +kernel
theorem dX9_write_60 : decode cX9_write 60 = .ok (.aload_n 0, 1) := by decide +kernel
theorem dX9_write_61 : decode cX9_write 61 = .ok (.getfield 28, 3) := by decide +kernel
theorem dX9_write_64 : decode cX9_write 64 = .ok (.iload_n 1, 1) := by decide +kernel
theorem dX9_write_65 : decode cX9_write 65 = .ok (.iload_n 3, 1) := by decide +kernel
theorem dX9_write_66 : decode cX9_write 66 = .ok (.iadd, 1) := by decide +kernel
theorem dX9_write_67 : decode cX9_write 67 = .ok (.iaload, 1) := by decide +kernel
theorem dX9_write_68 : decode cX9_write 68 = .ok (.invokevirtual 237, 3) := by decide +kernel
theorem dX9_write_71 : decode cX9_write 71 = .ok (.iinc 3 1, 3) := by decide +kernel
theorem dX9_write_74 : decode cX9_write 74 = .ok (.goto (-36), 3) := by decide +kernel
theorem dX9_write_77 : decode cX9_write 77 = .ok (.iload_n 3, 1) := by decide +kernel
theorem dX9_write_78 : decode cX9_write 78 = .ok (.ireturn, 1) := by decide +kernel
theorem dX9_sumOf_0 : decode cX9_sumOf 0 = .ok (.aload_n 0, 1) := by decide +kernel
theorem dX9_sumOf_1 : decode cX9_sumOf 1 = .ok (.invokevirtual 117, 3) := by decide +kernel
theorem dX9_sumOf_4 : decode cX9_sumOf 4 = .ok (.iconst 0, 1) := by decide +kernel
theorem dX9_sumOf_5 : decode cX9_sumOf 5 = .ok (.istore_n 2, 1) := by decide +kernel
theorem dX9_sumOf_6 : decode cX9_sumOf 6 = .ok (.iconst 0, 1) := by decide +kernel
theorem dX9_sumOf_7 : decode cX9_sumOf 7 = .ok (.istore_n 3, 1) := by decide +kernel
theorem dX9_sumOf_8 : decode cX9_sumOf 8 = .ok (.iload_n 3, 1) := by decide +kernel
theorem dX9_sumOf_9 : decode cX9_sumOf 9 = .ok (.aload_n 0, 1) := by decide +kernel
theorem dX9_sumOf_10 : decode cX9_sumOf 10 = .ok (.getfield 63, 3) := by decide +kernel
theorem dX9_sumOf_13 : decode cX9_sumOf 13 = .ok (.if_icmp .ge 23, 3) := by decide +kernel
theorem dX9_sumOf_16 : decode cX9_sumOf 16 = .ok (.iload_n 1, 1) := by decide +kernel
theorem dX9_sumOf_17 : decode cX9_sumOf 17 = .ok (.iconst 3, 1) := by decide +kernel
theorem dX9_sumOf_18 : decode cX9_sumOf 18 = .ok (.if_icmp .ne 18, 3) := by decide +kernel
theorem dX9_sumOf_21 : decode cX9_sumOf 21 = .ok (.iload_n 2, 1) := by decide +kernel
theorem dX9_sumOf_22 : decode cX9_sumOf 22 = .ok (.aload_n 0, 1) := by decide +kernel
theorem dX9_sumOf_23 : decode cX9_sumOf 23 = .ok (.getfield 16, 3) := by decide +kernel
theorem dX9_sumOf_26 : decode cX9_sumOf 26 = .ok (.iload_n 3, 1) := by decide +kernel
theorem dX9_sumOf_27 : decode cX9_sumOf 27 = .ok (.iaload, 1) := by decide +kernel
theorem dX9_sumOf_28 : decode cX9_sumOf 28 = .ok (.iadd, 1) := by decide +kernel
theorem dX9_sumOf_29 : decode cX9_sumOf 29 = .ok (.istore_n 2, 1) := by decide +kernel
theorem dX9_sumOf_30 : decode cX9_sumOf 30 = .ok (.iinc 3 1, 3) := by decide +kernel
theorem dX9_sumOf_33 : decode cX9_sumOf 33 = .ok (.goto (-25), 3) := by decide +kernel
theorem dX9_sumOf_36 : decode cX9_sumOf 36 = .ok (.iconst 0, 1) := by decide +kernel
theorem dX9_sumOf_37 : decode cX9_sumOf 37 = .ok (.istore_n 3, 1) := by decide +kernel
theorem dX9_sumOf_38 : decode cX9_sumOf 38 = .ok (.iload_n 3, 1) := by decide +kernel
theorem dX9_sumOf_39 : decode cX9_sumOf 39 = .ok (.sipush 400, 3) := by decide +kernel
theorem dX9_sumOf_42 : decode cX9_sumOf 42 = .ok (.if_icmp .ge 64, 3) := by decide +kernel
theorem dX9_sumOf_45 : decode cX9_sumOf 45 = .ok (.iload_n 1, 1) := by decide +kernel
theorem dX9_sumOf_46 : decode cX9_sumOf 46 = .ok (.iconst 3, 1) := by decide +kernel
theorem dX9_sumOf_47 : decode cX9_sumOf 47 = .ok (.if_icmp .le 59, 3) := by decide +kernel
theorem dX9_sumOf_50 : decode cX9_sumOf 50 = .ok (.aload_n 0, 1) := by decide +kernel
theorem dX9_sumOf_51 : decode cX9_sumOf 51 = .ok (.getfield 28, 3) := by decide +kernel
theorem dX9_sumOf_54 : decode cX9_sumOf 54 = .ok (.iload_n 3, 1) := by decide +kernel
theorem dX9_sumOf_55 : decode cX9_sumOf 55 = .ok (.iaload, 1) := by decide +kernel
theorem dX9_sumOf_56 : decode cX9_sumOf 56 = .ok (.iload_n 2, 1) := by decide +kernel
theorem dX9_sumOf_57 : decode cX9_sumOf 57 = .ok (.if_icmp .le 12, 3) := by decide +kernel
theorem dX9_sumOf_60 : decode cX9_sumOf 60 = .ok (.aload_n 0, 1) := by decide +kernel
theorem dX9_sumOf_61 : decode cX9_sumOf 61 = .ok (.getfield 28, 3) := by decide +kernel
theorem dX9_sumOf_64 : decode cX9_sumOf 64 = .ok (.iload_n 3, 1) := by decide +kernel
theorem dX9_sumOf_65 : decode cX9_sumOf 65 = .ok (.iaload, 1) := by decide +kernel
theorem dX9_sumOf_66 : decode cX9_sumOf 66 = .ok (.goto 4, 3) := by decide +kernel
theorem dX9_sumOf_69 : decode cX9_sumOf 69 = .ok (.iload_n 2, 1) := by decide +kernel
theorem dX9_sumOf_70 : decode cX9_sumOf 70 = .ok (.istore 4, 2) := by decide +kernel
theorem dX9_sumOf_72 : decode cX9_sumOf 72 = .ok (.iload_n 1, 1) := by decide +kernel
theorem dX9_sumOf_73 : decode cX9_sumOf 73 = .ok (.bipush 7, 2) := by decide +kernel
theorem dX9_sumOf_75 : decode cX9_sumOf 75 = .ok (.if_icmp .ne 8, 3) := by decide +kernel
theorem dX9_sumOf_78 : decode cX9_sumOf 78 = .ok (.iload 4, 2) := by decide +kernel
theorem dX9_sumOf_80 : decode cX9_sumOf 80 = .ok (.goto 19, 3) := by decide +kernel
theorem dX9_sumOf_83 : decode cX9_sumOf 83 = .ok (.iload_n 2, 1) := by decide +kernel
theorem dX9_sumOf_84 : decode cX9_sumOf 84 = .ok (.aload_n 0, 1) := by decide +kernel
theorem dX9_sumOf_85 : decode cX9_sumOf 85 = .ok (.iload_n 3, 1) := by decide +kernel
theorem dX9_sumOf_86 : decode cX9_sumOf 86 = .ok (.invokevirtual 120, 3) := by decide +kernel
theorem dX9_sumOf_89 : decode cX9_sumOf 89 = .ok (.iconst 1, 1) := by decide +kernel
theorem dX9_sumOf_90 : decode cX9_sumOf 90 = .ok (.if_icmp .ne 7, 3) := by decide +kernel
theorem dX9_sumOf_93 : decode cX9_sumOf 93 = .ok (.iconst 1, 1) := by decide +kernel
theorem dX9_sumOf_94 : decode cX9_sumOf 94 = .ok (.goto 4, 3) := by decide +kernel
theorem dX9_sumOf_97 : decode cX9_sumOf 97 = .ok (.iconst 0, 1) := by decide +kernel
theorem dX9_sumOf_98 : decode cX9_sumOf 98 = .ok (.iadd, 1) := by decide +kernel
theorem dX9_sumOf_99 : decode cX9_sumOf 99 = .ok (.istore_n 2, 1) := by decide +kernel
theorem dX9_sumOf_100 : decode cX9_sumOf 100 = .ok (.iinc 3 1, 3) := by decide +kernel
theorem dX9_sumOf_103 : decode cX9_sumOf 103 = .ok (.goto (-65), 3) := by decide +kernel
theorem dX9_sumOf_106 : decode cX9_sumOf 106 = .ok (.iload_n 1, 1) := by decide +kernel
theorem dX9_sumOf_107 : decode cX9_sumOf 107 = .ok (.ifCond .ne 10, 3) := by decide +kernel
theorem dX9_sumOf_110 : decode cX9_sumOf 110 = .ok (.aload_n 0, 1) := by decide +kernel
theorem dX9_sumOf_111 : decode cX9_sumOf 111 = .ok (.getfield 63, 3) := by decide +kernel
theorem dX9_sumOf_114 : decode cX9_sumOf 114 = .ok (.goto 4, 3) := by decide +kernel
theorem dX9_sumOf_117 : decode cX9_sumOf 117 = .ok (.iload_n 2, 1) := by decide +kernel
theorem dX9_sumOf_118 : decode cX9_sumOf 118 = .ok (.ireturn, 1) := by decide +kernel
theorem dX9_count_0 : decode cX9_count 0 = .ok (.iload_n 1, 1) := by decide +kernel
theorem dX9_count_1 : decode cX9_count 1 = .ok (.tableswitch 83 0 8 #[51, 57, 57, 51, 51, 66, 71, 51, 78], 51) := by decide +kernel
theorem dX9_count_52 : decode cX9_count 52 = .ok (.aload_n 0, 1) := by decide +kernel
theorem dX9_count_53 : decode cX9_count 53 = .ok (.iload_n 1, 1) := by decide +kernel
theorem dX9_count_54 : decode cX9_count 54 = .ok (.invokevirtual 242, 3) := by decide +kernel
theorem dX9_count_57 : decode cX9_count 57 = .ok (.ireturn, 1) := by decide +kernel
theorem dX9_count_58 : decode cX9_count 58 = .ok (.aload_n 0, 1) := by decide +kernel
theorem dX9_count_59 : decode cX9_count 59 = .ok (.getfield 7, 3) := by decide +kernel
theorem dX9_count_62 : decode cX9_count 62 = .ok (.iload_n 1, 1) := by decide +kernel
theorem dX9_count_63 : decode cX9_count 63 = .ok (.iconst 1, 1) := by decide +kernel
theorem dX9_count_64 : decode cX9_count 64 = .ok (.isub, 1) := by decide +kernel
theorem dX9_count_65 : decode cX9_count 65 = .ok (.iaload, 1) := by decide +kernel
theorem dX9_count_66 : decode cX9_count 66 = .ok (.ireturn, 1) := by decide +kernel
theorem dX9_count_67 : decode cX9_count 67 = .ok (.aload_n 0, 1) := by decide +kernel
theorem dX9_count_68 : decode cX9_count 68 = .ok (.getfield 206, 3) := by decide +kernel
theorem dX9_count_71 : decode cX9_count 71 = .ok (.ireturn, 1) := by decide +kernel
theorem dX9_count_72 : decode cX9_count 72 = .ok (.aload_n 0, 1) := by decide +kernel
theorem dX9_count_73 : decode cX9_count 73 = .ok (.getfield 25, 3) := by decide +kernel
theorem dX9_count_76 : decode cX9_count 76 = .ok (.iconst 0, 1) := by decide +kernel
theorem dX9_count_77 : decode cX9_count 77 = .ok (.iaload, 1) := by decide +kernel
theorem dX9_count_78 : decode cX9_count 78 = .ok (.ireturn, 1) := by decide +kernel
theorem dX9_count_79 : decode cX9_count 79 = .ok (.aload_n 0, 1) := by decide +kernel
theorem dX9_count_80 : decode cX9_count 80 = .ok (.getfield 231, 3) := by decide +kernel
theorem dX9_count_83 : decode cX9_count 83 = .ok (.ireturn, 1) := by decide +kernel
theorem dX9_count_84 : decode cX9_count 84 = .ok (.bipush (-2), 2) := by decide +kernel
theorem dX9_count_86 : decode cX9_count 86 = .ok (.ireturn, 1) := by decide +kernel
theorem dX9_tenthDigest_0 : decode cX9_tenthDigest 0 = .ok (.lload_n 1, 1) := by decide +kernel
theorem dX9_tenthDigest_1 : decode cX9_tenthDigest 1 = .ok (.lstore 4, 2) := by decide +kernel
theorem dX9_tenthDigest_3 : decode cX9_tenthDigest 3 = .ok (.ldc2_w 245, 3) := by decide +kernel
theorem dX9_tenthDigest_6 : decode cX9_tenthDigest 6 = .ok (.lload 4, 2) := by decide +kernel
theorem dX9_tenthDigest_8 : decode cX9_tenthDigest 8 = .ok (.lmul, 1) := by decide +kernel
theorem dX9_tenthDigest_9 : decode cX9_tenthDigest 9 = .ok (.aload_n 0, 1) := by decide +kernel
theorem dX9_tenthDigest_10 : decode cX9_tenthDigest 10 = .ok (.iload_n 3, 1) := by decide +kernel
theorem dX9_tenthDigest_11 : decode cX9_tenthDigest 11 = .ok (.invokevirtual 114, 3) := by decide +kernel
theorem dX9_tenthDigest_14 : decode cX9_tenthDigest 14 = .ok (.i2l, 1) := by decide +kernel
theorem dX9_tenthDigest_15 : decode cX9_tenthDigest 15 = .ok (.ladd, 1) := by decide +kernel
theorem dX9_tenthDigest_16 : decode cX9_tenthDigest 16 = .ok (.lstore 4, 2) := by decide +kernel
theorem dX9_tenthDigest_18 : decode cX9_tenthDigest 18 = .ok (.ldc2_w 245, 3) := by decide +kernel
theorem dX9_tenthDigest_21 : decode cX9_tenthDigest 21 = .ok (.lload 4, 2) := by decide +kernel
theorem dX9_tenthDigest_23 : decode cX9_tenthDigest 23 = .ok (.lmul, 1) := by decide +kernel
theorem dX9_tenthDigest_24 : decode cX9_tenthDigest 24 = .ok (.aload_n 0, 1) := by decide +kernel
theorem dX9_tenthDigest_25 : decode cX9_tenthDigest 25 = .ok (.iload_n 3, 1) := by decide +kernel
theorem dX9_tenthDigest_26 : decode cX9_tenthDigest 26 = .ok (.invokevirtual 123, 3) := by decide +kernel
theorem dX9_tenthDigest_29 : decode cX9_tenthDigest 29 = .ok (.i2l, 1) := by decide +kernel
theorem dX9_tenthDigest_30 : decode cX9_tenthDigest 30 = .ok (.ladd, 1) := by decide +kernel
theorem dX9_tenthDigest_31 : decode cX9_tenthDigest 31 = .ok (.lstore 4, 2) := by decide +kernel
theorem dX9_tenthDigest_33 : decode cX9_tenthDigest 33 = .ok (.ldc2_w 245, 3) := by decide +kernel
theorem dX9_tenthDigest_36 : decode cX9_tenthDigest 36 = .ok (.lload 4, 2) := by decide +kernel
theorem dX9_tenthDigest_38 : decode cX9_tenthDigest 38 = .ok (.lmul, 1) := by decide +kernel
theorem dX9_tenthDigest_39 : decode cX9_tenthDigest 39 = .ok (.aload_n 0, 1) := by decide +kernel
theorem dX9_tenthDigest_40 : decode cX9_tenthDigest 40 = .ok (.iload_n 3, 1) := by decide +kernel
theorem dX9_tenthDigest_41 : decode cX9_tenthDigest 41 = .ok (.invokevirtual 129, 3) := by decide +kernel
theorem dX9_tenthDigest_44 : decode cX9_tenthDigest 44 = .ok (.i2l, 1) := by decide +kernel
theorem dX9_tenthDigest_45 : decode cX9_tenthDigest 45 = .ok (.ladd, 1) := by decide +kernel
theorem dX9_tenthDigest_46 : decode cX9_tenthDigest 46 = .ok (.lstore 4, 2) := by decide +kernel
theorem dX9_tenthDigest_48 : decode cX9_tenthDigest 48 = .ok (.ldc2_w 245, 3) := by decide +kernel
theorem dX9_tenthDigest_51 : decode cX9_tenthDigest 51 = .ok (.lload 4, 2) := by decide +kernel
theorem dX9_tenthDigest_53 : decode cX9_tenthDigest 53 = .ok (.lmul, 1) := by decide +kernel
theorem dX9_tenthDigest_54 : decode cX9_tenthDigest 54 = .ok (.aload_n 0, 1) := by decide +kernel
theorem dX9_tenthDigest_55 : decode cX9_tenthDigest 55 = .ok (.iload_n 3, 1) := by decide +kernel
theorem dX9_tenthDigest_56 : decode cX9_tenthDigest 56 = .ok (.iconst 2, 1) := by decide +kernel
theorem dX9_tenthDigest_57 : decode cX9_tenthDigest 57 = .ok (.invokevirtual 135, 3) := by decide +kernel
theorem dX9_tenthDigest_60 : decode cX9_tenthDigest 60 = .ok (.i2l, 1) := by decide +kernel
theorem dX9_tenthDigest_61 : decode cX9_tenthDigest 61 = .ok (.ladd, 1) := by decide +kernel
theorem dX9_tenthDigest_62 : decode cX9_tenthDigest 62 = .ok (.lstore 4, 2) := by decide +kernel
theorem dX9_tenthDigest_64 : decode cX9_tenthDigest 64 = .ok (.ldc2_w 245, 3) := by decide +kernel
theorem dX9_tenthDigest_67 : decode cX9_tenthDigest 67 = .ok (.lload 4, 2) := by decide +kernel
theorem dX9_tenthDigest_69 : decode cX9_tenthDigest 69 = .ok (.lmul, 1) := by decide +kernel
theorem dX9_tenthDigest_70 : decode cX9_tenthDigest 70 = .ok (.aload_n 0, 1) := by decide +kernel
theorem dX9_tenthDigest_71 : decode cX9_tenthDigest 71 = .ok (.iload_n 3, 1) := by decide +kernel
theorem dX9_tenthDigest_72 : decode cX9_tenthDigest 72 = .ok (.invokevirtual 138, 3) := by decide +kernel
theorem dX9_tenthDigest_75 : decode cX9_tenthDigest 75 = .ok (.i2l, 1) := by decide +kernel
theorem dX9_tenthDigest_76 : decode cX9_tenthDigest 76 = .ok (.ladd, 1) := by decide +kernel
theorem dX9_tenthDigest_77 : decode cX9_tenthDigest 77 = .ok (.lstore 4, 2) := by decide +kernel
theorem dX9_tenthDigest_79 : decode cX9_tenthDigest 79 = .ok (.ldc2_w 245, 3) := by decide +kernel
theorem dX9_tenthDigest_82 : decode cX9_tenthDigest 82 = .ok (.lload 4, 2) := by decide +kernel
theorem dX9_tenthDigest_84 : decode cX9_tenthDigest 84 = .ok (.lmul, 1) := by decide +kernel
theorem dX9_tenthDigest_85 : decode cX9_tenthDigest 85 = .ok (.aload_n 0, 1) := by decide +kernel
theorem dX9_tenthDigest_86 : decode cX9_tenthDigest 86 = .ok (.iload_n 3, 1) := by decide +kernel
theorem dX9_tenthDigest_87 : decode cX9_tenthDigest 87 = .ok (.bipush 20, 2) := by decide +kernel
theorem dX9_tenthDigest_89 : decode cX9_tenthDigest 89 = .ok (.iconst 0, 1) := by decide +kernel
theorem dX9_tenthDigest_90 : decode cX9_tenthDigest 90 = .ok (.invokevirtual 144, 3) := by decide +kernel
theorem dX9_tenthDigest_93 : decode cX9_tenthDigest 93 = .ok (.i2l, 1) := by decide +kernel
theorem dX9_tenthDigest_94 : decode cX9_tenthDigest 94 = .ok (.ladd, 1) := by decide +kernel
theorem dX9_tenthDigest_95 : decode cX9_tenthDigest 95 = .ok (.lstore 4, 2) := by decide +kernel
theorem dX9_tenthDigest_97 : decode cX9_tenthDigest 97 = .ok (.ldc2_w 245, 3) := by decide +kernel
theorem dX9_tenthDigest_100 : decode cX9_tenthDigest 100 = .ok (.lload 4, 2) := by decide +kernel
theorem dX9_tenthDigest_102 : decode cX9_tenthDigest 102 = .ok (.lmul, 1) := by decide +kernel
theorem dX9_tenthDigest_103 : decode cX9_tenthDigest 103 = .ok (.aload_n 0, 1) := by decide +kernel
theorem dX9_tenthDigest_104 : decode cX9_tenthDigest 104 = .ok (.iload_n 3, 1) := by decide +kernel
theorem dX9_tenthDigest_105 : decode cX9_tenthDigest 105 = .ok (.bipush 20, 2) := by decide +kernel
theorem dX9_tenthDigest_107 : decode cX9_tenthDigest 107 = .ok (.iconst 1, 1) := by decide +kernel
theorem dX9_tenthDigest_108 : decode cX9_tenthDigest 108 = .ok (.invokevirtual 144, 3) := by decide +kernel
theorem dX9_tenthDigest_111 : decode cX9_tenthDigest 111 = .ok (.i2l, 1) := by decide +kernel
theorem dX9_tenthDigest_112 : decode cX9_tenthDigest 112 = .ok (.ladd, 1) := by decide +kernel
theorem dX9_tenthDigest_113 : decode cX9_tenthDigest 113 = .ok (.lstore 4, 2) := by decide +kernel
theorem dX9_tenthDigest_115 : decode cX9_tenthDigest 115 = .ok (.ldc2_w 245, 3) := by decide +kernel
theorem dX9_tenthDigest_118 : decode cX9_tenthDigest 118 = .ok (.lload 4, 2) := by decide +kernel
theorem dX9_tenthDigest_120 : decode cX9_tenthDigest 120 = .ok (.lmul, 1) := by decide +kernel
theorem dX9_tenthDigest_121 : decode cX9_tenthDigest 121 = .ok (.aload_n 0, 1) := by decide +kernel
theorem dX9_tenthDigest_122 : decode cX9_tenthDigest 122 = .ok (.iload_n 3, 1) := by decide +kernel
theorem dX9_tenthDigest_123 : decode cX9_tenthDigest 123 = .ok (.invokevirtual 151, 3) := by decide +kernel
theorem dX9_tenthDigest_126 : decode cX9_tenthDigest 126 = .ok (.i2l, 1) := by decide +kernel
theorem dX9_tenthDigest_127 : decode cX9_tenthDigest 127 = .ok (.ladd, 1) := by decide +kernel
theorem dX9_tenthDigest_128 : decode cX9_tenthDigest 128 = .ok (.lstore 4, 2) := by decide +kernel
theorem dX9_tenthDigest_130 : decode cX9_tenthDigest 130 = .ok (.ldc2_w 245, 3) := by decide +kernel
theorem dX9_tenthDigest_133 : decode cX9_tenthDigest 133 = .ok (.lload 4, 2) := by decide +kernel
theorem dX9_tenthDigest_135 : decode cX9_tenthDigest 135 = .ok (.lmul, 1) := by decide +kernel
theorem dX9_tenthDigest_136 : decode cX9_tenthDigest 136 = .ok (.aload_n 0, 1) := by decide +kernel
theorem dX9_tenthDigest_137 : decode cX9_tenthDigest 137 = .ok (.iload_n 3, 1) := by decide +kernel
theorem dX9_tenthDigest_138 : decode cX9_tenthDigest 138 = .ok (.invokevirtual 157, 3) := by decide +kernel
theorem dX9_tenthDigest_141 : decode cX9_tenthDigest 141 = .ok (.i2l, 1) := by decide +kernel
theorem dX9_tenthDigest_142 : decode cX9_tenthDigest 142 = .ok (.ladd, 1) := by decide +kernel
theorem dX9_tenthDigest_143 : decode cX9_tenthDigest 143 = .ok (.lstore 4, 2) := by decide +kernel
theorem dX9_tenthDigest_145 : decode cX9_tenthDigest 145 = .ok (.ldc2_w 245, 3) := by decide +kernel
theorem dX9_tenthDigest_148 : decode cX9_tenthDigest 148 = .ok (.lload 4, 2) := by decide +kernel
theorem dX9_tenthDigest_150 : decode cX9_tenthDigest 150 = .ok (.lmul, 1) := by decide +kernel
theorem dX9_tenthDigest_151 : decode cX9_tenthDigest 151 = .ok (.aload_n 0, 1) := by decide +kernel
theorem dX9_tenthDigest_152 : decode cX9_tenthDigest 152 = .ok (.iload_n 3, 1) := by decide +kernel
theorem dX9_tenthDigest_153 : decode cX9_tenthDigest 153 = .ok (.invokevirtual 166, 3) := by decide +kernel
theorem dX9_tenthDigest_156 : decode cX9_tenthDigest 156 = .ok (.i2l, 1) := by decide +kernel
theorem dX9_tenthDigest_157 : decode cX9_tenthDigest 157 = .ok (.ladd, 1) := by decide +kernel
theorem dX9_tenthDigest_158 : decode cX9_tenthDigest 158 = .ok (.lstore 4, 2) := by decide +kernel
theorem dX9_tenthDigest_160 : decode cX9_tenthDigest 160 = .ok (.ldc2_w 245, 3) := by decide +kernel
theorem dX9_tenthDigest_163 : decode cX9_tenthDigest 163 = .ok (.lload 4, 2) := by decide +kernel
theorem dX9_tenthDigest_165 : decode cX9_tenthDigest 165 = .ok (.lmul, 1) := by decide +kernel
theorem dX9_tenthDigest_166 : decode cX9_tenthDigest 166 = .ok (.aload_n 0, 1) := by decide +kernel
theorem dX9_tenthDigest_167 : decode cX9_tenthDigest 167 = .ok (.iload_n 3, 1) := by decide +kernel
theorem dX9_tenthDigest_168 : decode cX9_tenthDigest 168 = .ok (.invokevirtual 169, 3) := by decide +kernel
theorem dX9_tenthDigest_171 : decode cX9_tenthDigest 171 = .ok (.i2l, 1) := by decide +kernel
theorem dX9_tenthDigest_172 : decode cX9_tenthDigest 172 = .ok (.ladd, 1) := by decide +kernel
theorem dX9_tenthDigest_173 : decode cX9_tenthDigest 173 = .ok (.lstore 4, 2) := by decide +kernel
theorem dX9_tenthDigest_175 : decode cX9_tenthDigest 175 = .ok (.ldc2_w 245, 3) := by decide +kernel
theorem dX9_tenthDigest_178 : decode cX9_tenthDigest 178 = .ok (.lload 4, 2) := by decide +kernel
theorem dX9_tenthDigest_180 : decode cX9_tenthDigest 180 = .ok (.lmul, 1) := by decide +kernel
theorem dX9_tenthDigest_181 : decode cX9_tenthDigest 181 = .ok (.aload_n 0, 1) := by decide +kernel
theorem dX9_tenthDigest_182 : decode cX9_tenthDigest 182 = .ok (.iload_n 3, 1) := by decide +kernel
theorem dX9_tenthDigest_183 : decode cX9_tenthDigest 183 = .ok (.iconst 0, 1) := by decide +kernel
theorem dX9_tenthDigest_184 : decode cX9_tenthDigest 184 = .ok (.invokevirtual 184, 3) := by decide +kernel
theorem dX9_tenthDigest_187 : decode cX9_tenthDigest 187 = .ok (.ladd, 1) := by decide +kernel
theorem dX9_tenthDigest_188 : decode cX9_tenthDigest 188 = .ok (.lstore 4, 2) := by decide +kernel
theorem dX9_tenthDigest_190 : decode cX9_tenthDigest 190 = .ok (.ldc2_w 245, 3) := by decide +kernel
theorem dX9_tenthDigest_193 : decode cX9_tenthDigest 193 = .ok (.lload 4, 2) := by decide +kernel
theorem dX9_tenthDigest_195 : decode cX9_tenthDigest 195 = .ok (.lmul, 1) := by decide +kernel
theorem dX9_tenthDigest_196 : decode cX9_tenthDigest 196 = .ok (.aload_n 0, 1) := by decide +kernel
theorem dX9_tenthDigest_197 : decode cX9_tenthDigest 197 = .ok (.iload_n 3, 1) := by decide +kernel
theorem dX9_tenthDigest_198 : decode cX9_tenthDigest 198 = .ok (.iconst 1, 1) := by decide +kernel
theorem dX9_tenthDigest_199 : decode cX9_tenthDigest 199 = .ok (.invokevirtual 184, 3) := by decide +kernel
theorem dX9_tenthDigest_202 : decode cX9_tenthDigest 202 = .ok (.ladd, 1) := by decide +kernel
theorem dX9_tenthDigest_203 : decode cX9_tenthDigest 203 = .ok (.lstore 4, 2) := by decide +kernel
theorem dX9_tenthDigest_205 : decode cX9_tenthDigest 205 = .ok (.ldc2_w 245, 3) := by decide +kernel
theorem dX9_tenthDigest_208 : decode cX9_tenthDigest 208 = .ok (.lload 4, 2) := by decide +kernel
theorem dX9_tenthDigest_210 : decode cX9_tenthDigest 210 = .ok (.lmul, 1) := by decide +kernel
theorem dX9_tenthDigest_211 : decode cX9_tenthDigest 211 = .ok (.aload_n 0, 1) := by decide +kernel
theorem dX9_tenthDigest_212 : decode cX9_tenthDigest 212 = .ok (.iload_n 3, 1) := by decide +kernel
theorem dX9_tenthDigest_213 : decode cX9_tenthDigest 213 = .ok (.bipush 30, 2) := by decide +kernel
theorem dX9_tenthDigest_215 : decode cX9_tenthDigest 215 = .ok (.invokevirtual 190, 3) := by decide +kernel
theorem dX9_tenthDigest_218 : decode cX9_tenthDigest 218 = .ok (.i2l, 1) := by decide +kernel
theorem dX9_tenthDigest_219 : decode cX9_tenthDigest 219 = .ok (.ladd, 1) := by decide +kernel
theorem dX9_tenthDigest_220 : decode cX9_tenthDigest 220 = .ok (.lstore 4, 2) := by decide +kernel
theorem dX9_tenthDigest_222 : decode cX9_tenthDigest 222 = .ok (.ldc2_w 245, 3) := by decide +kernel
theorem dX9_tenthDigest_225 : decode cX9_tenthDigest 225 = .ok (.lload 4, 2) := by decide +kernel
theorem dX9_tenthDigest_227 : decode cX9_tenthDigest 227 = .ok (.lmul, 1) := by decide +kernel
theorem dX9_tenthDigest_228 : decode cX9_tenthDigest 228 = .ok (.aload_n 0, 1) := by decide +kernel
theorem dX9_tenthDigest_229 : decode cX9_tenthDigest 229 = .ok (.iload_n 3, 1) := by decide +kernel
theorem dX9_tenthDigest_230 : decode cX9_tenthDigest 230 = .ok (.bipush 30, 2) := by decide +kernel
theorem dX9_tenthDigest_232 : decode cX9_tenthDigest 232 = .ok (.invokevirtual 193, 3) := by decide +kernel
theorem dX9_tenthDigest_235 : decode cX9_tenthDigest 235 = .ok (.i2l, 1) := by decide +kernel
theorem dX9_tenthDigest_236 : decode cX9_tenthDigest 236 = .ok (.ladd, 1) := by decide +kernel
theorem dX9_tenthDigest_237 : decode cX9_tenthDigest 237 = .ok (.lstore 4, 2) := by decide +kernel
theorem dX9_tenthDigest_239 : decode cX9_tenthDigest 239 = .ok (.ldc2_w 245, 3) := by decide +kernel
theorem dX9_tenthDigest_242 : decode cX9_tenthDigest 242 = .ok (.lload 4, 2) := by decide +kernel
theorem dX9_tenthDigest_244 : decode cX9_tenthDigest 244 = .ok (.lmul, 1) := by decide +kernel
theorem dX9_tenthDigest_245 : decode cX9_tenthDigest 245 = .ok (.aload_n 0, 1) := by decide +kernel
theorem dX9_tenthDigest_246 : decode cX9_tenthDigest 246 = .ok (.iload_n 3, 1) := by decide +kernel
theorem dX9_tenthDigest_247 : decode cX9_tenthDigest 247 = .ok (.bipush 30, 2) := by decide +kernel
theorem dX9_tenthDigest_249 : decode cX9_tenthDigest 249 = .ok (.iconst 0, 1) := by decide +kernel
theorem dX9_tenthDigest_250 : decode cX9_tenthDigest 250 = .ok (.invokevirtual 196, 3) := by decide +kernel
theorem dX9_tenthDigest_253 : decode cX9_tenthDigest 253 = .ok (.i2l, 1) := by decide +kernel
theorem dX9_tenthDigest_254 : decode cX9_tenthDigest 254 = .ok (.ladd, 1) := by decide +kernel
theorem dX9_tenthDigest_255 : decode cX9_tenthDigest 255 = .ok (.lstore 4, 2) := by decide +kernel
theorem dX9_tenthDigest_257 : decode cX9_tenthDigest 257 = .ok (.ldc2_w 245, 3) := by decide +kernel
theorem dX9_tenthDigest_260 : decode cX9_tenthDigest 260 = .ok (.lload 4, 2) := by decide +kernel
theorem dX9_tenthDigest_262 : decode cX9_tenthDigest 262 = .ok (.lmul, 1) := by decide +kernel
theorem dX9_tenthDigest_263 : decode cX9_tenthDigest 263 = .ok (.aload_n 0, 1) := by decide +kernel
theorem dX9_tenthDigest_264 : decode cX9_tenthDigest 264 = .ok (.iload_n 3, 1) := by decide +kernel
theorem dX9_tenthDigest_265 : decode cX9_tenthDigest 265 = .ok (.bipush 30, 2) := by decide +kernel
theorem dX9_tenthDigest_267 : decode cX9_tenthDigest 267 = .ok (.iconst 1, 1) := by decide +kernel
theorem dX9_tenthDigest_268 : decode cX9_tenthDigest 268 = .ok (.invokevirtual 196, 3) := by decide +kernel
theorem dX9_tenthDigest_271 : decode cX9_tenthDigest 271 = .ok (.i2l, 1) := by decide +kernel
theorem dX9_tenthDigest_272 : decode cX9_tenthDigest 272 = .ok (.ladd, 1) := by decide +kernel
theorem dX9_tenthDigest_273 : decode cX9_tenthDigest 273 = .ok (.lstore 4, 2) := by decide +kernel
theorem dX9_tenthDigest_275 : decode cX9_tenthDigest 275 = .ok (.ldc2_w 245, 3) := by decide +kernel
theorem dX9_tenthDigest_278 : decode cX9_tenthDigest 278 = .ok (.lload 4, 2) := by decide +kernel
theorem dX9_tenthDigest_280 : decode cX9_tenthDigest 280 = .ok (.lmul, 1) := by decide +kernel
theorem dX9_tenthDigest_281 : decode cX9_tenthDigest 281 = .ok (.aload_n 0, 1) := by decide +kernel
theorem dX9_tenthDigest_282 : decode cX9_tenthDigest 282 = .ok (.iload_n 3, 1) := by decide +kernel
theorem dX9_tenthDigest_283 : decode cX9_tenthDigest 283 = .ok (.bipush 30, 2) := by decide +kernel
theorem dX9_tenthDigest_285 : decode cX9_tenthDigest 285 = .ok (.invokevirtual 203, 3) := by decide +kernel
theorem dX9_tenthDigest_288 : decode cX9_tenthDigest 288 = .ok (.i2l, 1) := by decide +kernel
theorem dX9_tenthDigest_289 : decode cX9_tenthDigest 289 = .ok (.ladd, 1) := by decide +kernel
theorem dX9_tenthDigest_290 : decode cX9_tenthDigest 290 = .ok (.lreturn, 1) := by decide +kernel
theorem dX9_digest_0 : decode cX9_digest 0 = .ok (.ldc2_w 247, 3) := by decide +kernel
theorem dX9_digest_3 : decode cX9_digest 3 = .ok (.lstore_n 1, 1) := by decide +kernel
theorem dX9_digest_4 : decode cX9_digest 4 = .ok (.iconst 0, 1) := by decide +kernel
theorem dX9_digest_5 : decode cX9_digest 5 = .ok (.istore_n 3, 1) := by decide +kernel
theorem dX9_digest_6 : decode cX9_digest 6 = .ok (.iload_n 3, 1) := by decide +kernel
theorem dX9_digest_7 : decode cX9_digest 7 = .ok (.bipush 8, 2) := by decide +kernel
theorem dX9_digest_9 : decode cX9_digest 9 = .ok (.if_icmp .ge 22, 3) := by decide +kernel
theorem dX9_digest_12 : decode cX9_digest 12 = .ok (.ldc2_w 245, 3) := by decide +kernel
theorem dX9_digest_15 : decode cX9_digest 15 = .ok (.lload_n 1, 1) := by decide +kernel
theorem dX9_digest_16 : decode cX9_digest 16 = .ok (.lmul, 1) := by decide +kernel
theorem dX9_digest_17 : decode cX9_digest 17 = .ok (.aload_n 0, 1) := by decide +kernel
theorem dX9_digest_18 : decode cX9_digest 18 = .ok (.iload_n 3, 1) := by decide +kernel
theorem dX9_digest_19 : decode cX9_digest 19 = .ok (.invokevirtual 249, 3) := by decide +kernel
theorem dX9_digest_22 : decode cX9_digest 22 = .ok (.i2l, 1) := by decide +kernel
theorem dX9_digest_23 : decode cX9_digest 23 = .ok (.ladd, 1) := by decide +kernel
theorem dX9_digest_24 : decode cX9_digest 24 = .ok (.lstore_n 1, 1) := by decide +kernel
theorem dX9_digest_25 : decode cX9_digest 25 = .ok (.iinc 3 1, 3) := by decide +kernel
theorem dX9_digest_28 : decode cX9_digest 28 = .ok (.goto (-22), 3) := by decide +kernel
theorem dX9_digest_31 : decode cX9_digest 31 = .ok (.ldc2_w 245, 3) := by decide +kernel
theorem dX9_digest_34 : decode cX9_digest 34 = .ok (.lload_n 1, 1) := by decide +kernel
theorem dX9_digest_35 : decode cX9_digest 35 = .ok (.lmul, 1) := by decide +kernel
theorem dX9_digest_36 : decode cX9_digest 36 = .ok (.aload_n 0, 1) := by decide +kernel
theorem dX9_digest_37 : decode cX9_digest 37 = .ok (.iconst 0, 1) := by decide +kernel
theorem dX9_digest_38 : decode cX9_digest 38 = .ok (.invokevirtual 78, 3) := by decide +kernel
theorem dX9_digest_41 : decode cX9_digest 41 = .ok (.i2l, 1) := by decide +kernel
theorem dX9_digest_42 : decode cX9_digest 42 = .ok (.ladd, 1) := by decide +kernel
theorem dX9_digest_43 : decode cX9_digest 43 = .ok (.lstore_n 1, 1) := by decide +kernel
theorem dX9_digest_44 : decode cX9_digest 44 = .ok (.ldc2_w 245, 3) := by decide +kernel
theorem dX9_digest_47 : decode cX9_digest 47 = .ok (.lload_n 1, 1) := by decide +kernel
theorem dX9_digest_48 : decode cX9_digest 48 = .ok (.lmul, 1) := by decide +kernel
theorem dX9_digest_49 : decode cX9_digest 49 = .ok (.aload_n 0, 1) := by decide +kernel
theorem dX9_digest_50 : decode cX9_digest 50 = .ok (.iconst 1, 1) := by decide +kernel
theorem dX9_digest_51 : decode cX9_digest 51 = .ok (.invokevirtual 78, 3) := by decide +kernel
theorem dX9_digest_54 : decode cX9_digest 54 = .ok (.i2l, 1) := by decide +kernel
theorem dX9_digest_55 : decode cX9_digest 55 = .ok (.ladd, 1) := by decide +kernel
theorem dX9_digest_56 : decode cX9_digest 56 = .ok (.lstore_n 1, 1) := by decide +kernel
theorem dX9_digest_57 : decode cX9_digest 57 = .ok (.iconst 0, 1) := by decide +kernel
theorem dX9_digest_58 : decode cX9_digest 58 = .ok (.istore_n 3, 1) := by decide +kernel
theorem dX9_digest_59 : decode cX9_digest 59 = .ok (.iload_n 3, 1) := by decide +kernel
theorem dX9_digest_60 : decode cX9_digest 60 = .ok (.aload_n 0, 1) := by decide +kernel
theorem dX9_digest_61 : decode cX9_digest 61 = .ok (.getfield 63, 3) := by decide +kernel
theorem dX9_digest_64 : decode cX9_digest 64 = .ok (.if_icmp .ge 65, 3) := by decide +kernel
theorem dX9_digest_67 : decode cX9_digest 67 = .ok (.ldc2_w 245, 3) := by decide +kernel
theorem dX9_digest_70 : decode cX9_digest 70 = .ok (.lload_n 1, 1) := by decide +kernel
theorem dX9_digest_71 : decode cX9_digest 71 = .ok (.lmul, 1) := by decide +kernel
theorem dX9_digest_72 : decode cX9_digest 72 = .ok (.aload_n 0, 1) := by decide +kernel
theorem dX9_digest_73 : decode cX9_digest 73 = .ok (.getfield 16, 3) := by decide +kernel
theorem dX9_digest_76 : decode cX9_digest 76 = .ok (.iload_n 3, 1) := by decide +kernel
theorem dX9_digest_77 : decode cX9_digest 77 = .ok (.iaload, 1) := by decide +kernel
theorem dX9_digest_78 : decode cX9_digest 78 = .ok (.i2l, 1) := by decide +kernel
theorem dX9_digest_79 : decode cX9_digest 79 = .ok (.ladd, 1) := by decide +kernel
theorem dX9_digest_80 : decode cX9_digest 80 = .ok (.lstore_n 1, 1) := by decide +kernel
theorem dX9_digest_81 : decode cX9_digest 81 = .ok (.ldc2_w 245, 3) := by decide +kernel
theorem dX9_digest_84 : decode cX9_digest 84 = .ok (.lload_n 1, 1) := by decide +kernel
theorem dX9_digest_85 : decode cX9_digest 85 = .ok (.lmul, 1) := by decide +kernel
theorem dX9_digest_86 : decode cX9_digest 86 = .ok (.aload_n 0, 1) := by decide +kernel
theorem dX9_digest_87 : decode cX9_digest 87 = .ok (.getfield 19, 3) := by decide +kernel
theorem dX9_digest_90 : decode cX9_digest 90 = .ok (.iload_n 3, 1) := by decide +kernel
theorem dX9_digest_91 : decode cX9_digest 91 = .ok (.iaload, 1) := by decide +kernel
theorem dX9_digest_92 : decode cX9_digest 92 = .ok (.i2l, 1) := by decide +kernel
theorem dX9_digest_93 : decode cX9_digest 93 = .ok (.ladd, 1) := by decide +kernel
theorem dX9_digest_94 : decode cX9_digest 94 = .ok (.lstore_n 1, 1) := by decide +kernel
theorem dX9_digest_95 : decode cX9_digest 95 = .ok (.ldc2_w 245, 3) := by decide +kernel
theorem dX9_digest_98 : decode cX9_digest 98 = .ok (.lload_n 1, 1) := by decide +kernel
theorem dX9_digest_99 : decode cX9_digest 99 = .ok (.lmul, 1) := by decide +kernel
theorem dX9_digest_100 : decode cX9_digest 100 = .ok (.aload_n 0, 1) := by decide +kernel
theorem dX9_digest_101 : decode cX9_digest 101 = .ok (.iload_n 3, 1) := by decide +kernel
theorem dX9_digest_102 : decode cX9_digest 102 = .ok (.iconst (-1), 1) := by decide +kernel
theorem dX9_digest_103 : decode cX9_digest 103 = .ok (.invokevirtual 218, 3) := by decide +kernel
theorem dX9_digest_106 : decode cX9_digest 106 = .ok (.i2l, 1) := by decide +kernel
theorem dX9_digest_107 : decode cX9_digest 107 = .ok (.ladd, 1) := by decide +kernel
theorem dX9_digest_108 : decode cX9_digest 108 = .ok (.lstore_n 1, 1) := by decide +kernel
theorem dX9_digest_109 : decode cX9_digest 109 = .ok (.ldc2_w 245, 3) := by decide +kernel
theorem dX9_digest_112 : decode cX9_digest 112 = .ok (.lload_n 1, 1) := by decide +kernel
theorem dX9_digest_113 : decode cX9_digest 113 = .ok (.lmul, 1) := by decide +kernel
theorem dX9_digest_114 : decode cX9_digest 114 = .ok (.aload_n 0, 1) := by decide +kernel
theorem dX9_digest_115 : decode cX9_digest 115 = .ok (.iload_n 3, 1) := by decide +kernel
theorem dX9_digest_116 : decode cX9_digest 116 = .ok (.iconst 0, 1) := by decide +kernel
theorem dX9_digest_117 : decode cX9_digest 117 = .ok (.invokevirtual 218, 3) := by decide +kernel
theorem dX9_digest_120 : decode cX9_digest 120 = .ok (.i2l, 1) := by decide +kernel
theorem dX9_digest_121 : decode cX9_digest 121 = .ok (.ladd, 1) := by decide +kernel
theorem dX9_digest_122 : decode cX9_digest 122 = .ok (.lstore_n 1, 1) := by decide +kernel
theorem dX9_digest_123 : decode cX9_digest 123 = .ok (.iinc 3 1, 3) := by decide +kernel
theorem dX9_digest_126 : decode cX9_digest 126 = .ok (.goto (-67), 3) := by decide +kernel
theorem dX9_digest_129 : decode cX9_digest 129 = .ok (.ldc2_w 245, 3) := by decide +kernel
theorem dX9_digest_132 : decode cX9_digest 132 = .ok (.lload_n 1, 1) := by decide +kernel
theorem dX9_digest_133 : decode cX9_digest 133 = .ok (.lmul, 1) := by decide +kernel
theorem dX9_digest_134 : decode cX9_digest 134 = .ok (.aload_n 0, 1) := by decide +kernel
theorem dX9_digest_135 : decode cX9_digest 135 = .ok (.iconst 0, 1) := by decide +kernel
theorem dX9_digest_136 : decode cX9_digest 136 = .ok (.invokevirtual 87, 3) := by decide +kernel
theorem dX9_digest_139 : decode cX9_digest 139 = .ok (.i2l, 1) := by decide +kernel
theorem dX9_digest_140 : decode cX9_digest 140 = .ok (.ladd, 1) := by decide +kernel
theorem dX9_digest_141 : decode cX9_digest 141 = .ok (.lstore_n 1, 1) := by decide +kernel
theorem dX9_digest_142 : decode cX9_digest 142 = .ok (.ldc2_w 245, 3) := by decide +kernel
theorem dX9_digest_145 : decode cX9_digest 145 = .ok (.lload_n 1, 1) := by decide +kernel
theorem dX9_digest_146 : decode cX9_digest 146 = .ok (.lmul, 1) := by decide +kernel
theorem dX9_digest_147 : decode cX9_digest 147 = .ok (.aload_n 0, 1) := by decide +kernel
theorem dX9_digest_148 : decode cX9_digest 148 = .ok (.iconst 1, 1) := by decide +kernel
theorem dX9_digest_149 : decode cX9_digest 149 = .ok (.invokevirtual 87, 3) := by decide +kernel
theorem dX9_digest_152 : decode cX9_digest 152 = .ok (.i2l, 1) := by decide +kernel
theorem dX9_digest_153 : decode cX9_digest 153 = .ok (.ladd, 1) := by decide +kernel
theorem dX9_digest_154 : decode cX9_digest 154 = .ok (.lstore_n 1, 1) := by decide +kernel
theorem dX9_digest_155 : decode cX9_digest 155 = .ok (.aload_n 0, 1) := by decide +kernel
theorem dX9_digest_156 : decode cX9_digest 156 = .ok (.lload_n 1, 1) := by decide +kernel
theorem dX9_digest_157 : decode cX9_digest 157 = .ok (.iconst 0, 1) := by decide +kernel
theorem dX9_digest_158 : decode cX9_digest 158 = .ok (.invokevirtual 252, 3) := by decide +kernel
theorem dX9_digest_161 : decode cX9_digest 161 = .ok (.lstore_n 1, 1) := by decide +kernel
theorem dX9_digest_162 : decode cX9_digest 162 = .ok (.aload_n 0, 1) := by decide +kernel
theorem dX9_digest_163 : decode cX9_digest 163 = .ok (.lload_n 1, 1) := by decide +kernel
theorem dX9_digest_164 : decode cX9_digest 164 = .ok (.iconst 1, 1) := by decide +kernel
theorem dX9_digest_165 : decode cX9_digest 165 = .ok (.invokevirtual 252, 3) := by decide +kernel
theorem dX9_digest_168 : decode cX9_digest 168 = .ok (.lstore_n 1, 1) := by decide +kernel
theorem dX9_digest_169 : decode cX9_digest 169 = .ok (.aload_n 0, 1) := by decide +kernel
theorem dX9_digest_170 : decode cX9_digest 170 = .ok (.lload_n 1, 1) := by decide +kernel
theorem dX9_digest_171 : decode cX9_digest 171 = .ok (.bipush 37, 2) := by decide +kernel
theorem dX9_digest_173 : decode cX9_digest 173 = .ok (.invokevirtual 252, 3) := by decide +kernel
theorem dX9_digest_176 : decode cX9_digest 176 = .ok (.lstore_n 1, 1) := by decide +kernel
theorem dX9_digest_177 : decode cX9_digest 177 = .ok (.aload_n 0, 1) := by decide +kernel
theorem dX9_digest_178 : decode cX9_digest 178 = .ok (.lload_n 1, 1) := by decide +kernel
theorem dX9_digest_179 : decode cX9_digest 179 = .ok (.sipush 200, 3) := by decide +kernel
theorem dX9_digest_182 : decode cX9_digest 182 = .ok (.invokevirtual 252, 3) := by decide +kernel
theorem dX9_digest_185 : decode cX9_digest 185 = .ok (.lstore_n 1, 1) := by decide +kernel
theorem dX9_digest_186 : decode cX9_digest 186 = .ok (.aload_n 0, 1) := by decide +kernel
theorem dX9_digest_187 : decode cX9_digest 187 = .ok (.lload_n 1, 1) := by decide +kernel
theorem dX9_digest_188 : decode cX9_digest 188 = .ok (.sipush 399, 3) := by decide +kernel
theorem dX9_digest_191 : decode cX9_digest 191 = .ok (.invokevirtual 252, 3) := by decide +kernel
theorem dX9_digest_194 : decode cX9_digest 194 = .ok (.lstore_n 1, 1) := by decide +kernel
theorem dX9_digest_195 : decode cX9_digest 195 = .ok (.ldc2_w 245, 3) := by decide +kernel
theorem dX9_digest_198 : decode cX9_digest 198 = .ok (.lload_n 1, 1) := by decide +kernel
theorem dX9_digest_199 : decode cX9_digest 199 = .ok (.lmul, 1) := by decide +kernel
theorem dX9_digest_200 : decode cX9_digest 200 = .ok (.aload_n 0, 1) := by decide +kernel
theorem dX9_digest_201 : decode cX9_digest 201 = .ok (.invokevirtual 199, 3) := by decide +kernel
theorem dX9_digest_204 : decode cX9_digest 204 = .ok (.i2l, 1) := by decide +kernel
theorem dX9_digest_205 : decode cX9_digest 205 = .ok (.ladd, 1) := by decide +kernel
theorem dX9_digest_206 : decode cX9_digest 206 = .ok (.lstore_n 1, 1) := by decide +kernel
theorem dX9_digest_207 : decode cX9_digest 207 = .ok (.ldc2_w 245, 3) := by decide +kernel
theorem dX9_digest_210 : decode cX9_digest 210 = .ok (.lload_n 1, 1) := by decide +kernel
theorem dX9_digest_211 : decode cX9_digest 211 = .ok (.lmul, 1) := by decide +kernel
theorem dX9_digest_212 : decode cX9_digest 212 = .ok (.aload_n 0, 1) := by decide +kernel
theorem dX9_digest_213 : decode cX9_digest 213 = .ok (.bipush 7, 2) := by decide +kernel
theorem dX9_digest_215 : decode cX9_digest 215 = .ok (.iconst 5, 1) := by decide +kernel
theorem dX9_digest_216 : decode cX9_digest 216 = .ok (.invokevirtual 228, 3) := by decide +kernel
theorem dX9_digest_219 : decode cX9_digest 219 = .ok (.i2l, 1) := by decide +kernel
theorem dX9_digest_220 : decode cX9_digest 220 = .ok (.ladd, 1) := by decide +kernel
theorem dX9_digest_221 : decode cX9_digest 221 = .ok (.lreturn, 1) := by decide +kernel
