theorem dX9_in_0 : decode cX9_in 0 = .ok (.lload_n 0, 1) := by decide +kernel
theorem dX9_in_1 : decode cX9_in 1 = .ok (.lload_n 2, 1) := by decide +kernel
theorem dX9_in_2 : decode cX9_in 2 = .ok (.lcmp, 1) := by decide +kernel
theorem dX9_in_3 : decode cX9_in 3 = .ok (.ifCond .lt 14, 3) := by decide +kernel
theorem dX9_in_6 : decode cX9_in 6 = .ok (.lload_n 0, 1) := by decide +kernel
theorem dX9_in_7 : decode cX9_in 7 = .ok (.lload 4, 2) := by decide +kernel
theorem dX9_in_9 : decode cX9_in 9 = .ok (.lcmp, 1) := by decide +kernel
theorem dX9_in_10 : decode cX9_in 10 = .ok (.ifCond .gt 7, 3) := by decide +kernel
theorem dX9_in_13 : decode cX9_in 13 = .ok (.iconst 1, 1) := by decide +kernel
theorem dX9_in_14 : decode cX9_in 14 = .ok (.goto 4, 3) := by decide +kernel
theorem dX9_in_17 : decode cX9_in 17 = .ok (.iconst 0, 1) := by decide +kernel
theorem dX9_in_18 : decode cX9_in 18 = .ok (.ireturn, 1) := by decide +kernel
theorem dX9_init_0 : decode cX9_init 0 = .ok (.aload_n 0, 1) := by decide +kernel
theorem dX9_init_1 : decode cX9_init 1 = .ok (.invokespecial 1, 3) := by decide +kernel
theorem dX9_init_4 : decode cX9_init 4 = .ok (.aload_n 0, 1) := by decide +kernel
theorem dX9_init_5 : decode cX9_init 5 = .ok (.iconst 3, 1) := by decide +kernel
theorem dX9_init_6 : decode cX9_init 6 = .ok (.newarray .int, 2) := by decide +kernel
theorem dX9_init_8 : decode cX9_init 8 = .ok (.putfield 7, 3) := by decide +kernel
theorem dX9_init_11 : decode cX9_init 11 = .ok (.aload_n 0, 1) := by decide +kernel
theorem dX9_init_12 : decode cX9_init 12 = .ok (.bipush 20, 2) := by decide +kernel
theorem dX9_init_14 : decode cX9_init 14 = .ok (.newarray .int, 2) := by decide +kernel
theorem dX9_init_16 : decode cX9_init 16 = .ok (.putfield 13, 3) := by decide +kernel
theorem dX9_init_19 : decode cX9_init 19 = .ok (.aload_n 0, 1) := by decide +kernel
theorem dX9_init_20 : decode cX9_init 20 = .ok (.bipush 18, 2) := by decide +kernel
theorem dX9_init_22 : decode cX9_init 22 = .ok (.newarray .int, 2) := by decide +kernel
theorem dX9_init_24 : decode cX9_init 24 = .ok (.putfield 16, 3) := by decide +kernel
theorem dX9_init_27 : decode cX9_init 27 = .ok (.aload_n 0, 1) := by decide +kernel
theorem dX9_init_28 : decode cX9_init 28 = .ok (.bipush 32, 2) := by decide +kernel
theorem dX9_init_30 : decode cX9_init 30 = .ok (.newarray .int, 2) := by decide +kernel
theorem dX9_init_32 : decode cX9_init 32 = .ok (.putfield 19, 3) := by decide +kernel
theorem dX9_init_35 : decode cX9_init 35 = .ok (.aload_n 0, 1) := by decide +kernel
theorem dX9_init_36 : decode cX9_init 36 = .ok (.bipush 60, 2) := by decide +kernel
theorem dX9_init_38 : decode cX9_init 38 = .ok (.newarray .int, 2) := by decide +kernel
theorem dX9_init_40 : decode cX9_init 40 = .ok (.putfield 22, 3) := by decide +kernel
theorem dX9_init_43 : decode cX9_init 43 = .ok (.aload_n 0, 1) := by decide +kernel
theorem dX9_init_44 : decode cX9_init 44 = .ok (.bipush 20, 2) := by decide +kernel
theorem dX9_init_46 : decode cX9_init 46 = .ok (.newarray .int, 2) := by decide +kernel
theorem dX9_init_48 : decode cX9_init 48 = .ok (.putfield 25, 3) := by decide +kernel
theorem dX9_init_51 : decode cX9_init 51 = .ok (.aload_n 0, 1) := by decide +kernel
theorem dX9_init_52 : decode cX9_init 52 = .ok (.sipush 900, 3) := by decide +kernel
theorem dX9_init_55 : decode cX9_init 55 = .ok (.newarray .int, 2) := by decide +kernel
theorem dX9_init_57 : decode cX9_init 57 = .ok (.putfield 28, 3) := by decide +kernel
theorem dX9_init_60 : decode cX9_init 60 = .ok (.aload_n 0, 1) := by decide +kernel
theorem dX9_init_61 : decode cX9_init 61 = .ok (.bipush 100, 2) := by decide +kernel
theorem dX9_init_63 : decode cX9_init 63 = .ok (.newarray .int, 2) := by decide +kernel
theorem dX9_init_65 : decode cX9_init 65 = .ok (.putfield 31, 3) := by decide +kernel
theorem dX9_init_68 : decode cX9_init 68 = .ok (.aload_n 0, 1) := by decide +kernel
theorem dX9_init_69 : decode cX9_init 69 = .ok (.bipush 100, 2) := by decide +kernel
theorem dX9_init_71 : decode cX9_init 71 = .ok (.newarray .int, 2) := by decide +kernel
theorem dX9_init_73 : decode cX9_init 73 = .ok (.putfield 34, 3) := by decide +kernel
theorem dX9_init_76 : decode cX9_init 76 = .ok (.aload_n 0, 1) := by decide +kernel
theorem dX9_init_77 : decode cX9_init 77 = .ok (.bipush (-4), 2) := by decide +kernel
theorem dX9_init_79 : decode cX9_init 79 = .ok (.putfield 37, 3) := by decide +kernel
theorem dX9_init_82 : decode cX9_init 82 = .ok (.aload_n 0, 1) := by decide +kernel
theorem dX9_init_83 : decode cX9_init 83 = .ok (.bipush 90, 2) := by decide +kernel
theorem dX9_init_85 : decode cX9_init 85 = .ok (.newarray .int, 2) := by decide +kernel
theorem dX9_init_87 : decode cX9_init 87 = .ok (.putfield 41, 3) := by decide +kernel
theorem dX9_init_90 : decode cX9_init 90 = .ok (.aload_n 0, 1) := by decide +kernel
theorem dX9_init_91 : decode cX9_init 91 = .ok (.bipush 90, 2) := by decide +kernel
theorem dX9_init_93 : decode cX9_init 93 = .ok (.newarray .int, 2) := by decide +kernel
theorem dX9_init_95 : decode cX9_init 95 = .ok (.putfield 44, 3) := by decide +kernel
theorem dX9_init_98 : decode cX9_init 98 = .ok (.aload_n 0, 1) := by decide +kernel
theorem dX9_init_99 : decode cX9_init 99 = .ok (.bipush 90, 2) := by decide +kernel
theorem dX9_init_101 : decode cX9_init 101 = .ok (.newarray .int, 2) := by decide +kernel
theorem dX9_init_103 : decode cX9_init 103 = .ok (.putfield 47, 3) := by decide +kernel
theorem dX9_init_106 : decode cX9_init 106 = .ok (.aload_n 0, 1) := by decide +kernel
theorem dX9_init_107 : decode cX9_init 107 = .ok (.sipush 1629, 3) := by decide +kernel
theorem dX9_init_110 : decode cX9_init 110 = .ok (.newarray .int, 2) := by decide +kernel
theorem dX9_init_112 : decode cX9_init 112 = .ok (.putfield 50, 3) := by decide +kernel
theorem dX9_init_115 : decode cX9_init 115 = .ok (.aload_n 0, 1) := by decide +kernel
theorem dX9_init_116 : decode cX9_init 116 = .ok (.bipush 80, 2) := by decide +kernel
theorem dX9_init_118 : decode cX9_init 118 = .ok (.newarray .int, 2) := by decide +kernel
theorem dX9_init_120 : decode cX9_init 120 = .ok (.putfield 53, 3) := by decide +kernel
theorem dX9_init_123 : decode cX9_init 123 = .ok (.aload_n 0, 1) := by decide +kernel
theorem dX9_init_124 : decode cX9_init 124 = .ok (.iconst 4, 1) := by decide +kernel
theorem dX9_init_125 : decode cX9_init 125 = .ok (.newarray .int, 2) := by decide +kernel
theorem dX9_init_127 : decode cX9_init 127 = .ok (.putfield 56, 3) := by decide +kernel
theorem dX9_init_130 : decode cX9_init 130 = .ok (.aload_n 0, 1) := by decide +kernel
theorem dX9_init_131 : decode cX9_init 131 = .ok (.iconst 4, 1) := by decide +kernel
theorem dX9_init_132 : decode cX9_init 132 = .ok (.newarray .int, 2) := by decide +kernel
theorem dX9_init_134 : decode cX9_init 134 = .ok (.putfield 59, 3) := by decide +kernel
theorem dX9_init_137 : decode cX9_init 137 = .ok (.aload_n 0, 1) := by decide +kernel
theorem dX9_init_138 : decode cX9_init 138 = .ok (.bipush 96, 2) := by decide +kernel
theorem dX9_init_140 : decode cX9_init 140 = .ok (.newarray .int, 2) := by decide +kernel
theorem dX9_init_142 : decode cX9_init 142 = .ok (.putfield 62, 3) := by decide +kernel
theorem dX9_init_145 : decode cX9_init 145 = .ok (.aload_n 0, 1) := by decide +kernel
theorem dX9_init_146 : decode cX9_init 146 = .ok (.bipush 24, 2) := by decide +kernel
theorem dX9_init_148 : decode cX9_init 148 = .ok (.newarray .int, 2) := by decide +kernel
theorem dX9_init_150 : decode cX9_init 150 = .ok (.putfield 65, 3) := by decide +kernel
theorem dX9_init_153 : decode cX9_init 153 = .ok (.iconst 0, 1) := by decide +kernel
theorem dX9_init_154 : decode cX9_init 154 = .ok (.istore_n 1, 1) := by decide +kernel
theorem dX9_init_155 : decode cX9_init 155 = .ok (.iload_n 1, 1) := by decide +kernel
theorem dX9_init_156 : decode cX9_init 156 = .ok (.iconst 4, 1) := by decide +kernel
theorem dX9_init_157 : decode cX9_init 157 = .ok (.if_icmp .ge 16, 3) := by decide +kernel
theorem dX9_init_160 : decode cX9_init 160 = .ok (.aload_n 0, 1) := by decide +kernel
theorem dX9_init_161 : decode cX9_init 161 = .ok (.getfield 56, 3) := by decide +kernel
theorem dX9_init_164 : decode cX9_init 164 = .ok (.iload_n 1, 1) := by decide +kernel
theorem dX9_init_165 : decode cX9_init 165 = .ok (.iconst (-1), 1) := by decide +kernel
theorem dX9_init_166 : decode cX9_init 166 = .ok (.iastore, 1) := by decide +kernel
theorem dX9_init_167 : decode cX9_init 167 = .ok (.iinc 1 1, 3) := by decide +kernel
theorem dX9_init_170 : decode cX9_init 170 = .ok (.goto (-15), 3) := by decide +kernel
theorem dX9_init_173 : decode cX9_init 173 = .ok (.aload_n 0, 1) := by decide +kernel
theorem dX9_init_174 : decode cX9_init 174 = .ok (.getfield 7, 3) := by decide +kernel
theorem dX9_init_177 : decode cX9_init 177 = .ok (.iconst 0, 1) := by decide +kernel
theorem dX9_init_178 : decode cX9_init 178 = .ok (.bipush 30, 2) := by decide +kernel
theorem dX9_init_180 : decode cX9_init 180 = .ok (.iastore, 1) := by decide +kernel
theorem dX9_init_181 : decode cX9_init 181 = .ok (.aload_n 0, 1) := by decide +kernel
theorem dX9_init_182 : decode cX9_init 182 = .ok (.getfield 7, 3) := by decide +kernel
theorem dX9_init_185 : decode cX9_init 185 = .ok (.iconst 1, 1) := by decide +kernel
theorem dX9_init_186 : decode cX9_init 186 = .ok (.iconst 1, 1) := by decide +kernel
theorem dX9_init_187 : decode cX9_init 187 = .ok (.iastore, 1) := by decide +kernel
theorem dX9_init_188 : decode cX9_init 188 = .ok (.aload_n 0, 1) := by decide +kernel
theorem dX9_init_189 : decode cX9_init 189 = .ok (.getfield 7, 3) := by decide +kernel
theorem dX9_init_192 : decode cX9_init 192 = .ok (.iconst 2, 1) := by decide +kernel
theorem dX9_init_193 : decode cX9_init 193 = .ok (.bipush 6, 2) := by decide +kernel
theorem dX9_init_195 : decode cX9_init 195 = .ok (.iastore, 1) := by decide +kernel
theorem dX9_init_196 : decode cX9_init 196 = .ok (.return_, 1) := by decide +kernel
theorem dX9_isCup_0 : decode cX9_isCup 0 = .ok (.iload_n 1, 1) := by decide +kernel
theorem dX9_isCup_1 : decode cX9_isCup 1 = .ok (.i2l, 1) := by decide +kernel
theorem dX9_isCup_2 : decode cX9_isCup 2 = .ok (.lconst 0, 1) := by decide +kernel
theorem dX9_isCup_3 : decode cX9_isCup 3 = .ok (.aload_n 0, 1) := by decide +kernel
theorem dX9_isCup_4 : decode cX9_isCup 4 = .ok (.getfield 68, 3) := by decide +kernel
theorem dX9_isCup_7 : decode cX9_isCup 7 = .ok (.iconst 1, 1) := by decide +kernel
theorem dX9_isCup_8 : decode cX9_isCup 8 = .ok (.isub, 1) := by decide +kernel
theorem dX9_isCup_9 : decode cX9_isCup 9 = .ok (.i2l, 1) := by decide +kernel
theorem dX9_isCup_10 : decode cX9_isCup 10 = .ok (.invokestatic 71, 3) := by decide +kernel
theorem dX9_isCup_13 : decode cX9_isCup 13 = .ok (.ireturn, 1) := by decide +kernel
theorem dX9_set_0 : decode cX9_set 0 = .ok (.iload_n 1, 1) := by decide +kernel
theorem dX9_set_1 : decode cX9_set 1 = .ok (.i2l, 1) := by decide +kernel
theorem dX9_set_2 : decode cX9_set 2 = .ok (.lconst 0, 1) := by decide +kernel
theorem dX9_set_3 : decode cX9_set 3 = .ok (.ldc2_w 75, 3) := by decide +kernel
theorem dX9_set_6 : decode cX9_set 6 = .ok (.invokestatic 71, 3) := by decide +kernel
theorem dX9_set_9 : decode cX9_set 9 = .ok (.ifCond .eq 55, 3) := by decide +kernel
theorem dX9_set_12 : decode cX9_set 12 = .ok (.iload_n 2, 1) := by decide +kernel
theorem dX9_set_13 : decode cX9_set 13 = .ok (.i2l, 1) := by decide +kernel
theorem dX9_set_14 : decode cX9_set 14 = .ok (.iload_n 1, 1) := by decide +kernel
theorem dX9_set_15 : decode cX9_set 15 = .ok (.ifCond .ne 9, 3) := by decide +kernel
theorem dX9_set_18 : decode cX9_set 18 = .ok (.ldc2_w 77, 3) := by decide +kernel
theorem dX9_set_21 : decode cX9_set 21 = .ok (.goto 13, 3) := by decide +kernel
theorem dX9_set_24 : decode cX9_set 24 = .ok (.iload_n 1, 1) := by decide +kernel
theorem dX9_set_25 : decode cX9_set 25 = .ok (.iconst 1, 1) := by decide +kernel
theorem dX9_set_26 : decode cX9_set 26 = .ok (.if_icmp .ne 7, 3) := by decide +kernel
theorem dX9_set_29 : decode cX9_set 29 = .ok (.lconst 1, 1) := by decide +kernel
theorem dX9_set_30 : decode cX9_set 30 = .ok (.goto 4, 3) := by decide +kernel
theorem dX9_set_33 : decode cX9_set 33 = .ok (.lconst 0, 1) := by decide +kernel
theorem dX9_set_34 : decode cX9_set 34 = .ok (.iload_n 1, 1) := by decide +kernel
theorem dX9_set_35 : decode cX9_set 35 = .ok (.ifCond .ne 9, 3) := by decide +kernel
theorem dX9_set_38 : decode cX9_set 38 = .ok (.ldc2_w 79, 3) := by decide +kernel
theorem dX9_set_41 : decode cX9_set 41 = .ok (.goto 17, 3) := by decide +kernel
theorem dX9_set_44 : decode cX9_set 44 = .ok (.iload_n 1, 1) := by decide +kernel
theorem dX9_set_45 : decode cX9_set 45 = .ok (.iconst 1, 1) := by decide +kernel
theorem dX9_set_46 : decode cX9_set 46 = .ok (.if_icmp .ne 9, 3) := by decide +kernel
theorem dX9_set_49 : decode cX9_set 49 = .ok (.ldc2_w 81, 3) := by decide +kernel
theorem dX9_set_52 : decode cX9_set 52 = .ok (.goto 6, 3) := by decide +kernel
theorem dX9_set_55 : decode cX9_set 55 = .ok (.ldc2_w 83, 3) := by decide +kernel
theorem dX9_set_58 : decode cX9_set 58 = .ok (.invokestatic 71, 3) := by decide +kernel
theorem dX9_set_61 : decode cX9_set 61 = .ok (.ifCond .ne 5, 3) := by decide +kernel
theorem dX9_set_64 : decode cX9_set 64 = .ok (.iconst (-1), 1) := by decide +kernel
theorem dX9_set_65 : decode cX9_set 65 = .ok (.ireturn, 1) := by decide +kernel
theorem dX9_set_66 : decode cX9_set 66 = .ok (.aload_n 0, 1) := by decide +kernel
theorem dX9_set_67 : decode cX9_set 67 = .ok (.getfield 7, 3) := by decide +kernel
theorem dX9_set_70 : decode cX9_set 70 = .ok (.iload_n 1, 1) := by decide +kernel
theorem dX9_set_71 : decode cX9_set 71 = .ok (.iaload, 1) := by decide +kernel
theorem dX9_set_72 : decode cX9_set 72 = .ok (.istore_n 3, 1) := by decide +kernel
theorem dX9_set_73 : decode cX9_set 73 = .ok (.aload_n 0, 1) := by decide +kernel
theorem dX9_set_74 : decode cX9_set 74 = .ok (.getfield 7, 3) := by decide +kernel
theorem dX9_set_77 : decode cX9_set 77 = .ok (.iload_n 1, 1) := by decide +kernel
theorem dX9_set_78 : decode cX9_set 78 = .ok (.iload_n 2, 1) := by decide +kernel
theorem dX9_set_79 : decode cX9_set 79 = .ok (.iastore, 1) := by decide +kernel
theorem dX9_set_80 : decode cX9_set 80 = .ok (.iload_n 3, 1) := by decide +kernel
theorem dX9_set_81 : decode cX9_set 81 = .ok (.ireturn, 1) := by decide +kernel
theorem dX9_cupIs_0 : decode cX9_cupIs 0 = .ok (.aload_n 0, 1) := by decide +kernel
theorem dX9_cupIs_1 : decode cX9_cupIs 1 = .ok (.getfield 13, 3) := by decide +kernel
theorem dX9_cupIs_4 : decode cX9_cupIs 4 = .ok (.iconst 5, 1) := by decide +kernel
theorem dX9_cupIs_5 : decode cX9_cupIs 5 = .ok (.iload_n 1, 1) := by decide +kernel
theorem dX9_cupIs_6 : decode cX9_cupIs 6 = .ok (.imul, 1) := by decide +kernel
theorem dX9_cupIs_7 : decode cX9_cupIs 7 = .ok (.iload_n 2, 1) := by decide +kernel
theorem dX9_cupIs_8 : decode cX9_cupIs 8 = .ok (.iastore, 1) := by decide +kernel
theorem dX9_cupIs_9 : decode cX9_cupIs 9 = .ok (.aload_n 0, 1) := by decide +kernel
theorem dX9_cupIs_10 : decode cX9_cupIs 10 = .ok (.getfield 13, 3) := by decide +kernel
theorem dX9_cupIs_13 : decode cX9_cupIs 13 = .ok (.iconst 5, 1) := by decide +kernel
theorem dX9_cupIs_14 : decode cX9_cupIs 14 = .ok (.iload_n 1, 1) := by decide +kernel
theorem dX9_cupIs_15 : decode cX9_cupIs 15 = .ok (.imul, 1) := by decide +kernel
theorem dX9_cupIs_16 : decode cX9_cupIs 16 = .ok (.iconst 1, 1) := by decide +kernel
theorem dX9_cupIs_17 : decode cX9_cupIs 17 = .ok (.iadd, 1) := by decide +kernel
theorem dX9_cupIs_18 : decode cX9_cupIs 18 = .ok (.iload_n 3, 1) := by decide +kernel
theorem dX9_cupIs_19 : decode cX9_cupIs 19 = .ok (.iastore, 1) := by decide +kernel
theorem dX9_cupIs_20 : decode cX9_cupIs 20 = .ok (.aload_n 0, 1) := by decide +kernel
theorem dX9_cupIs_21 : decode cX9_cupIs 21 = .ok (.getfield 13, 3) := by decide +kernel
theorem dX9_cupIs_24 : decode cX9_cupIs 24 = .ok (.iconst 5, 1) := by decide +kernel
theorem dX9_cupIs_25 : decode cX9_cupIs 25 = .ok (.iload_n 1, 1) := by decide +kernel
theorem dX9_cupIs_26 : decode cX9_cupIs 26 = .ok (.imul, 1) := by decide +kernel
theorem dX9_cupIs_27 : decode cX9_cupIs 27 = .ok (.iconst 2, 1) := by decide +kernel
theorem dX9_cupIs_28 : decode cX9_cupIs 28 = .ok (.iadd, 1) := by decide +kernel
theorem dX9_cupIs_29 : decode cX9_cupIs 29 = .ok (.iload 4, 2) := by decide +kernel
theorem dX9_cupIs_31 : decode cX9_cupIs 31 = .ok (.iastore, 1) := by decide +kernel
theorem dX9_cupIs_32 : decode cX9_cupIs 32 = .ok (.aload_n 0, 1) := by decide +kernel
theorem dX9_cupIs_33 : decode cX9_cupIs 33 = .ok (.getfield 13, 3) := by decide +kernel
theorem dX9_cupIs_36 : decode cX9_cupIs 36 = .ok (.iconst 5, 1) := by decide +kernel
theorem dX9_cupIs_37 : decode cX9_cupIs 37 = .ok (.iload_n 1, 1) := by decide +kernel
theorem dX9_cupIs_38 : decode cX9_cupIs 38 = .ok (.imul, 1) := by decide +kernel
theorem dX9_cupIs_39 : decode cX9_cupIs 39 = .ok (.iconst 3, 1) := by decide +kernel
theorem dX9_cupIs_40 : decode cX9_cupIs 40 = .ok (.iadd, 1) := by decide +kernel
theorem dX9_cupIs_41 : decode cX9_cupIs 41 = .ok (.iload 5, 2) := by decide +kernel
theorem dX9_cupIs_43 : decode cX9_cupIs 43 = .ok (.iastore, 1) := by decide +kernel
theorem dX9_cupIs_44 : decode cX9_cupIs 44 = .ok (.aload_n 0, 1) := by decide +kernel
theorem dX9_cupIs_45 : decode cX9_cupIs 45 = .ok (.getfield 13, 3) := by decide +kernel
theorem dX9_cupIs_48 : decode cX9_cupIs 48 = .ok (.iconst 5, 1) := by decide +kernel
theorem dX9_cupIs_49 : decode cX9_cupIs 49 = .ok (.iload_n 1, 1) := by decide +kernel
theorem dX9_cupIs_50 : decode cX9_cupIs 50 = .ok (.imul, 1) := by decide +kernel
theorem dX9_cupIs_51 : decode cX9_cupIs 51 = .ok (.iconst 4, 1) := by decide +kernel
theorem dX9_cupIs_52 : decode cX9_cupIs 52 = .ok (.iadd, 1) := by decide +kernel
theorem dX9_cupIs_53 : decode cX9_cupIs 53 = .ok (.iload 6, 2) := by decide +kernel
theorem dX9_cupIs_55 : decode cX9_cupIs 55 = .ok (.iastore, 1) := by decide +kernel
theorem dX9_cupIs_56 : decode cX9_cupIs 56 = .ok (.return_, 1) := by decide +kernel
theorem dX9_cup_0 : decode cX9_cup 0 = .ok (.iload_n 1, 1) := by decide +kernel
theorem dX9_cup_1 : decode cX9_cup 1 = .ok (.i2l, 1) := by decide +kernel
theorem dX9_cup_2 : decode cX9_cup 2 = .ok (.ldc2_w 85, 3) := by decide +kernel
theorem dX9_cup_5 : decode cX9_cup 5 = .ok (.ldc2_w 87, 3) := by decide +kernel
theorem dX9_cup_8 : decode cX9_cup 8 = .ok (.invokestatic 71, 3) := by decide +kernel
theorem dX9_cup_11 : decode cX9_cup 11 = .ok (.ifCond .eq 42, 3) := by decide +kernel
theorem dX9_cup_14 : decode cX9_cup 14 = .ok (.iload_n 2, 1) := by decide +kernel
theorem dX9_cup_15 : decode cX9_cup 15 = .ok (.i2l, 1) := by decide +kernel
theorem dX9_cup_16 : decode cX9_cup 16 = .ok (.ldc2_w 85, 3) := by decide +kernel
theorem dX9_cup_19 : decode cX9_cup 19 = .ok (.ldc2_w 87, 3) := by decide +kernel
theorem dX9_cup_22 : decode cX9_cup 22 = .ok (.invokestatic 71, 3) := by decide +kernel
theorem dX9_cup_25 : decode cX9_cup 25 = .ok (.ifCond .eq 28, 3) := by decide +kernel
theorem dX9_cup_28 : decode cX9_cup 28 = .ok (.iload_n 3, 1) := by decide +kernel
theorem dX9_cup_29 : decode cX9_cup 29 = .ok (.i2l, 1) := by decide +kernel
theorem dX9_cup_30 : decode cX9_cup 30 = .ok (.lconst 0, 1) := by decide +kernel
theorem dX9_cup_31 : decode cX9_cup 31 = .ok (.ldc2_w 87, 3) := by decide +kernel
theorem dX9_cup_34 : decode cX9_cup 34 = .ok (.invokestatic 71, 3) := by decide +kernel
theorem dX9_cup_37 : decode cX9_cup 37 = .ok (.ifCond .eq 16, 3) := by decide +kernel
theorem dX9_cup_40 : decode cX9_cup 40 = .ok (.iload 4, 2) := by decide +kernel
theorem dX9_cup_42 : decode cX9_cup 42 = .ok (.i2l, 1) := by decide +kernel
theorem dX9_cup_43 : decode cX9_cup 43 = .ok (.lconst 0, 1) := by decide +kernel
theorem dX9_cup_44 : decode cX9_cup 44 = .ok (.ldc2_w 89, 3) := by decide +kernel
theorem dX9_cup_47 : decode cX9_cup 47 = .ok (.invokestatic 71, 3) := by decide +kernel
theorem dX9_cup_50 : decode cX9_cup 50 = .ok (.ifCond .ne 5, 3) := by decide +kernel
theorem dX9_cup_53 : decode cX9_cup 53 = .ok (.iconst (-1), 1) := by decide +kernel
theorem dX9_cup_54 : decode cX9_cup 54 = .ok (.ireturn, 1) := by decide +kernel
theorem dX9_cup_55 : decode cX9_cup 55 = .ok (.aload_n 0, 1) := by decide +kernel
theorem dX9_cup_56 : decode cX9_cup 56 = .ok (.getfield 68, 3) := by decide +kernel
theorem dX9_cup_59 : decode cX9_cup 59 = .ok (.iconst 4, 1) := by decide +kernel
theorem dX9_cup_60 : decode cX9_cup 60 = .ok (.if_icmp .ne 6, 3) := by decide +kernel
theorem dX9_cup_63 : decode cX9_cup 63 = .ok (.bipush (-3), 2) := by decide +kernel
theorem dX9_cup_65 : decode cX9_cup 65 = .ok (.ireturn, 1) := by decide +kernel
theorem dX9_cup_66 : decode cX9_cup 66 = .ok (.aload_n 0, 1) := by decide +kernel
theorem dX9_cup_67 : decode cX9_cup 67 = .ok (.aload_n 0, 1) := by decide +kernel
theorem dX9_cup_68 : decode cX9_cup 68 = .ok (.getfield 68, 3) := by decide +kernel
theorem dX9_cup_71 : decode cX9_cup 71 = .ok (.iload_n 1, 1) := by decide +kernel
theorem dX9_cup_72 : decode cX9_cup 72 = .ok (.iload_n 2, 1) := by decide +kernel
theorem dX9_cup_73 : decode cX9_cup 73 = .ok (.iload_n 3, 1) := by decide +kernel
theorem dX9_cup_74 : decode cX9_cup 74 = .ok (.iload 4, 2) := by decide +kernel
theorem dX9_cup_76 : decode cX9_cup 76 = .ok (.iload 5, 2) := by decide +kernel
theorem dX9_cup_78 : decode cX9_cup 78 = .ok (.ifCond .eq 7, 3) := by decide +kernel
theorem dX9_cup_81 : decode cX9_cup 81 = .ok (.iconst 1, 1) := by decide +kernel
theorem dX9_cup_82 : decode cX9_cup 82 = .ok (.goto 4, 3) := by decide +kernel
theorem dX9_cup_85 : decode cX9_cup 85 = .ok (.iconst 0, 1) := by decide +kernel
theorem dX9_cup_86 : decode cX9_cup 86 = .ok (.invokevirtual 91, 3) := by decide +kernel
theorem dX9_cup_89 : decode cX9_cup 89 = .ok (.aload_n 0, 1) := by decide +kernel
theorem dX9_cup_90 : decode cX9_cup 90 = .ok (.dup, 1) := by decide +kernel
theorem dX9_cup_91 : decode cX9_cup 91 = .ok (.getfield 68, 3) := by decide +kernel
theorem dX9_cup_94 : decode cX9_cup 94 = .ok (.iconst 1, 1) := by decide +kernel
theorem dX9_cup_95 : decode cX9_cup 95 = .ok (.iadd, 1) := by decide +kernel
theorem dX9_cup_96 : decode cX9_cup 96 = .ok (.putfield 68, 3) := by decide +kernel
theorem dX9_cup_99 : decode cX9_cup 99 = .ok (.aload_n 0, 1) := by decide +kernel
theorem dX9_cup_100 : decode cX9_cup 100 = .ok (.getfield 68, 3) := by decide +kernel
theorem dX9_cup_103 : decode cX9_cup 103 = .ok (.iconst 1, 1) := by decide +kernel
theorem dX9_cup_104 : decode cX9_cup 104 = .ok (.isub, 1) := by decide +kernel
theorem dX9_cup_105 : decode cX9_cup 105 = .ok (.ireturn, 1) := by decide +kernel
theorem dX9_told_0 : decode cX9_told 0 = .ok (.aload_n 0, 1) := by decide +kernel
theorem dX9_told_1 : decode cX9_told 1 = .ok (.iload_n 1, 1) := by decide +kernel
theorem dX9_told_2 : decode cX9_told 2 = .ok (.invokevirtual 95, 3) := by decide +kernel
theorem dX9_told_5 : decode cX9_told 5 = .ok (.ifCond .eq 28, 3) := by decide +kernel
theorem dX9_told_8 : decode cX9_told 8 = .ok (.iload_n 2, 1) := by decide +kernel
theorem dX9_told_9 : decode cX9_told 9 = .ok (.i2l, 1) := by decide +kernel
theorem dX9_told_10 : decode cX9_told 10 = .ok (.lconst 0, 1) := by decide +kernel
theorem dX9_told_11 : decode cX9_told 11 = .ok (.ldc2_w 81, 3) := by decide +kernel
theorem dX9_told_14 : decode cX9_told 14 = .ok (.invokestatic 71, 3) := by decide +kernel
theorem dX9_told_17 : decode cX9_told 17 = .ok (.ifCond .eq 16, 3) := by decide +kernel
theorem dX9_told_20 : decode cX9_told 20 = .ok (.aload_n 0, 1) := by decide +kernel
theorem dX9_told_21 : decode cX9_told 21 = .ok (.getfield 13, 3) := by decide +kernel
theorem dX9_told_24 : decode cX9_told 24 = .ok (.iconst 5, 1) := by decide +kernel
theorem dX9_told_25 : decode cX9_told 25 = .ok (.iload_n 1, 1) := by decide +kernel
theorem dX9_told_26 : decode cX9_told 26 = .ok (.imul, 1) := by decide +kernel
theorem dX9_told_27 : decode cX9_told 27 = .ok (.iload_n 2, 1) := by decide +kernel
theorem dX9_told_28 : decode cX9_told 28 = .ok (.iadd, 1) := by decide +kernel
theorem dX9_told_29 : decode cX9_told 29 = .ok (.iaload, 1) := by decide +kernel
theorem dX9_told_30 : decode cX9_told 30 = .ok (.goto 5, 3) := by decide +kernel
theorem dX9_told_33 : decode cX9_told 33 = .ok (.ldc 99, 2) := by decide +kernel
theorem dX9_told_35 : decode cX9_told 35 = .ok (.ireturn, 1) := by decide +kernel
theorem dX9_partIs_0 : decode cX9_partIs 0 = .ok (.aload_n 0, 1) := by decide +kernel
theorem dX9_partIs_1 : decode cX9_partIs 1 = .ok (.getfield 16, 3) := by decide +kernel
theorem dX9_partIs_4 : decode cX9_partIs 4 = .ok (.iconst 3, 1) := by decide +kernel
theorem dX9_partIs_5 : decode cX9_partIs 5 = .ok (.iload_n 1, 1) := by decide +kernel
theorem dX9_partIs_6 : decode cX9_partIs 6 = .ok (.imul, 1) := by decide +kernel
theorem dX9_partIs_7 : decode cX9_partIs 7 = .ok (.iload_n 2, 1) := by decide +kernel
theorem dX9_partIs_8 : decode cX9_partIs 8 = .ok (.iastore, 1) := by decide +kernel
theorem dX9_partIs_9 : decode cX9_partIs 9 = .ok (.aload_n 0, 1) := by decide +kernel
theorem dX9_partIs_10 : decode cX9_partIs 10 = .ok (.getfield 16, 3) := by decide +kernel
theorem dX9_partIs_13 : decode cX9_partIs 13 = .ok (.iconst 3, 1) := by decide +kernel
theorem dX9_partIs_14 : decode cX9_partIs 14 = .ok (.iload_n 1, 1) := by decide +kernel
theorem dX9_partIs_15 : decode cX9_partIs 15 = .ok (.imul, 1) := by decide +kernel
theorem dX9_partIs_16 : decode cX9_partIs 16 = .ok (.iconst 1, 1) := by decide +kernel
theorem dX9_partIs_17 : decode cX9_partIs 17 = .ok (.iadd, 1) := by decide +kernel
theorem dX9_partIs_18 : decode cX9_partIs 18 = .ok (.iload_n 3, 1) := by decide +kernel
theorem dX9_partIs_19 : decode cX9_partIs 19 = .ok (.iastore, 1) := by decide +kernel
theorem dX9_partIs_20 : decode cX9_partIs 20 = .ok (.aload_n 0, 1) := by decide +kernel
theorem dX9_partIs_21 : decode cX9_partIs 21 = .ok (.getfield 16, 3) := by decide +kernel
theorem dX9_partIs_24 : decode cX9_partIs 24 = .ok (.iconst 3, 1) := by decide +kernel
theorem dX9_partIs_25 : decode cX9_partIs 25 = .ok (.iload_n 1, 1) := by decide +kernel
theorem dX9_partIs_26 : decode cX9_partIs 26 = .ok (.imul, 1) := by decide +kernel
theorem dX9_partIs_27 : decode cX9_partIs 27 = .ok (.iconst 2, 1) := by decide +kernel
theorem dX9_partIs_28 : decode cX9_partIs 28 = .ok (.iadd, 1) := by decide +kernel
theorem dX9_partIs_29 : decode cX9_partIs 29 = .ok (.iload 4, 2) := by decide +kernel
theorem dX9_partIs_31 : decode cX9_partIs 31 = .ok (.iastore, 1) := by decide +kernel
theorem dX9_partIs_32 : decode cX9_partIs 32 = .ok (.return_, 1) := by decide +kernel
theorem dX9_part_0 : decode cX9_part 0 = .ok (.iload_n 1, 1) := by decide +kernel
theorem dX9_part_1 : decode cX9_part 1 = .ok (.i2l, 1) := by decide +kernel
theorem dX9_part_2 : decode cX9_part 2 = .ok (.lconst 1, 1) := by decide +kernel
theorem dX9_part_3 : decode cX9_part 3 = .ok (.ldc2_w 83, 3) := by decide +kernel
theorem dX9_part_6 : decode cX9_part 6 = .ok (.invokestatic 71, 3) := by decide +kernel
theorem dX9_part_9 : decode cX9_part 9 = .ok (.ifCond .eq 31, 3) := by decide +kernel
theorem dX9_part_12 : decode cX9_part 12 = .ok (.iload_n 2, 1) := by decide +kernel
theorem dX9_part_13 : decode cX9_part 13 = .ok (.i2l, 1) := by decide +kernel
theorem dX9_part_14 : decode cX9_part 14 = .ok (.ldc2_w 85, 3) := by decide +kernel
theorem dX9_part_17 : decode cX9_part 17 = .ok (.ldc2_w 87, 3) := by decide +kernel
theorem dX9_part_20 : decode cX9_part 20 = .ok (.invokestatic 71, 3) := by decide +kernel
theorem dX9_part_23 : decode cX9_part 23 = .ok (.ifCond .eq 17, 3) := by decide +kernel
theorem dX9_part_26 : decode cX9_part 26 = .ok (.iload_n 3, 1) := by decide +kernel
theorem dX9_part_27 : decode cX9_part 27 = .ok (.i2l, 1) := by decide +kernel
theorem dX9_part_28 : decode cX9_part 28 = .ok (.ldc2_w 85, 3) := by decide +kernel
theorem dX9_part_31 : decode cX9_part 31 = .ok (.ldc2_w 87, 3) := by decide +kernel
theorem dX9_part_34 : decode cX9_part 34 = .ok (.invokestatic 71, 3) := by decide +kernel
theorem dX9_part_37 : decode cX9_part 37 = .ok (.ifCond .ne 5, 3) := by decide +kernel
theorem dX9_part_40 : decode cX9_part 40 = .ok (.iconst (-1), 1) := by decide +kernel
theorem dX9_part_41 : decode cX9_part 41 = .ok (.ireturn, 1) := by decide +kernel
theorem dX9_part_42 : decode cX9_part 42 = .ok (.aload_n 0, 1) := by decide +kernel
theorem dX9_part_43 : decode cX9_part 43 = .ok (.getfield 100, 3) := by decide +kernel
theorem dX9_part_46 : decode cX9_part 46 = .ok (.bipush 6, 2) := by decide +kernel
theorem dX9_part_48 : decode cX9_part 48 = .ok (.if_icmp .ne 6, 3) := by decide +kernel
theorem dX9_part_51 : decode cX9_part 51 = .ok (.bipush (-3), 2) := by decide +kernel
theorem dX9_part_53 : decode cX9_part 53 = .ok (.ireturn, 1) := by decide +kernel
theorem dX9_part_54 : decode cX9_part 54 = .ok (.aload_n 0, 1) := by decide +kernel
theorem dX9_part_55 : decode cX9_part 55 = .ok (.aload_n 0, 1) := by decide +kernel
theorem dX9_part_56 : decode cX9_part 56 = .ok (.getfield 100, 3) := by decide +kernel
theorem dX9_part_59 : decode cX9_part 59 = .ok (.iload_n 1, 1) := by decide +kernel
theorem dX9_part_60 : decode cX9_part 60 = .ok (.iload_n 2, 1) := by decide +kernel
theorem dX9_part_61 : decode cX9_part 61 = .ok (.iload_n 3, 1) := by decide +kernel
theorem dX9_part_62 : decode cX9_part 62 = .ok (.invokevirtual 103, 3) := by decide +kernel
theorem dX9_part_65 : decode cX9_part 65 = .ok (.aload_n 0, 1) := by decide +kernel
theorem dX9_part_66 : decode cX9_part 66 = .ok (.dup, 1) := by decide +kernel
theorem dX9_part_67 : decode cX9_part 67 = .ok (.getfield 100, 3) := by decide +kernel
theorem dX9_part_70 : decode cX9_part 70 = .ok (.iconst 1, 1) := by decide +kernel
theorem dX9_part_71 : decode cX9_part 71 = .ok (.iadd, 1) := by decide +kernel
theorem dX9_part_72 : decode cX9_part 72 = .ok (.putfield 100, 3) := by decide +kernel
theorem dX9_part_75 : decode cX9_part 75 = .ok (.aload_n 0, 1) := by decide +kernel
theorem dX9_part_76 : decode cX9_part 76 = .ok (.getfield 100, 3) := by decide +kernel
theorem dX9_part_79 : decode cX9_part 79 = .ok (.iconst 1, 1) := by decide +kernel
theorem dX9_part_80 : decode cX9_part 80 = .ok (.isub, 1) := by decide +kernel
theorem dX9_part_81 : decode cX9_part 81 = .ok (.ireturn, 1) := by decide +kernel
theorem dX9_pull_0 : decode cX9_pull 0 = .ok (.iload_n 1, 1) := by decide +kernel
theorem dX9_pull_1 : decode cX9_pull 1 = .ok (.i2l, 1) := by decide +kernel
theorem dX9_pull_2 : decode cX9_pull 2 = .ok (.lconst 0, 1) := by decide +kernel
theorem dX9_pull_3 : decode cX9_pull 3 = .ok (.aload_n 0, 1) := by decide +kernel
theorem dX9_pull_4 : decode cX9_pull 4 = .ok (.getfield 100, 3) := by decide +kernel
theorem dX9_pull_7 : decode cX9_pull 7 = .ok (.iconst 1, 1) := by decide +kernel
theorem dX9_pull_8 : decode cX9_pull 8 = .ok (.isub, 1) := by decide +kernel
theorem dX9_pull_9 : decode cX9_pull 9 = .ok (.i2l, 1) := by decide +kernel
theorem dX9_pull_10 : decode cX9_pull 10 = .ok (.invokestatic 71, 3) := by decide +kernel
theorem dX9_pull_13 : decode cX9_pull 13 = .ok (.ifCond .eq 28, 3) := by decide +kernel
theorem dX9_pull_16 : decode cX9_pull 16 = .ok (.iload_n 2, 1) := by decide +kernel
theorem dX9_pull_17 : decode cX9_pull 17 = .ok (.i2l, 1) := by decide +kernel
theorem dX9_pull_18 : decode cX9_pull 18 = .ok (.lconst 0, 1) := by decide +kernel
theorem dX9_pull_19 : decode cX9_pull 19 = .ok (.ldc2_w 75, 3) := by decide +kernel
theorem dX9_pull_22 : decode cX9_pull 22 = .ok (.invokestatic 71, 3) := by decide +kernel
theorem dX9_pull_25 : decode cX9_pull 25 = .ok (.ifCond .eq 16, 3) := by decide +kernel
theorem dX9_pull_28 : decode cX9_pull 28 = .ok (.aload_n 0, 1) := by decide +kernel
theorem dX9_pull_29 : decode cX9_pull 29 = .ok (.getfield 16, 3) := by decide +kernel
theorem dX9_pull_32 : decode cX9_pull 32 = .ok (.iconst 3, 1) := by decide +kernel
theorem dX9_pull_33 : decode cX9_pull 33 = .ok (.iload_n 1, 1) := by decide +kernel
theorem dX9_pull_34 : decode cX9_pull 34 = .ok (.imul, 1) := by decide +kernel
theorem dX9_pull_35 : decode cX9_pull 35 = .ok (.iload_n 2, 1) := by decide +kernel
theorem dX9_pull_36 : decode cX9_pull 36 = .ok (.iadd, 1) := by decide +kernel
theorem dX9_pull_37 : decode cX9_pull 37 = .ok (.iaload, 1) := by decide +kernel
theorem dX9_pull_38 : decode cX9_pull 38 = .ok (.goto 5, 3) := by decide +kernel
theorem dX9_pull_41 : decode cX9_pull 41 = .ok (.ldc 99, 2) := by decide +kernel
theorem dX9_pull_43 : decode cX9_pull 43 = .ok (.ireturn, 1) := by decide +kernel
theorem dX9_still_0 : decode cX9_still 0 = .ok (.aload_n 0, 1) := by decide +kernel
theorem dX9_still_1 : decode cX9_still 1 = .ok (.getfield 100, 3) := by decide +kernel
theorem dX9_still_4 : decode cX9_still 4 = .ok (.istore_n 1, 1) := by decide +kernel
theorem dX9_still_5 : decode cX9_still 5 = .ok (.aload_n 0, 1) := by decide +kernel
theorem dX9_still_6 : decode cX9_still 6 = .ok (.iconst 0, 1) := by decide +kernel
theorem dX9_still_7 : decode cX9_still 7 = .ok (.putfield 100, 3) := by decide +kernel
theorem dX9_still_10 : decode cX9_still 10 = .ok (.iload_n 1, 1) := by decide +kernel
theorem dX9_still_11 : decode cX9_still 11 = .ok (.ireturn, 1) := by decide +kernel
theorem dX9_type_0 : decode cX9_type 0 = .ok (.iload_n 3, 1) := by decide +kernel
theorem dX9_type_1 : decode cX9_type 1 = .ok (.i2l, 1) := by decide +kernel
theorem dX9_type_2 : decode cX9_type 2 = .ok (.lconst 1, 1) := by decide +kernel
theorem dX9_type_3 : decode cX9_type 3 = .ok (.ldc2_w 107, 3) := by decide +kernel
theorem dX9_type_6 : decode cX9_type 6 = .ok (.invokestatic 71, 3) := by decide +kernel
theorem dX9_type_9 : decode cX9_type 9 = .ok (.ifCond .ne 5, 3) := by decide +kernel
theorem dX9_type_12 : decode cX9_type 12 = .ok (.iconst (-1), 1) := by decide +kernel
theorem dX9_type_13 : decode cX9_type 13 = .ok (.ireturn, 1) := by decide +kernel
theorem dX9_type_14 : decode cX9_type 14 = .ok (.iconst 0, 1) := by decide +kernel
theorem dX9_type_15 : decode cX9_type 15 = .ok (.istore 4, 2) := by decide +kernel
theorem dX9_type_17 : decode cX9_type 17 = .ok (.iload 4, 2) := by decide +kernel
theorem dX9_type_19 : decode cX9_type 19 = .ok (.iload_n 3, 1) := by decide +kernel
theorem dX9_type_20 : decode cX9_type 20 = .ok (.if_icmp .ge 34, 3) := by decide +kernel
theorem dX9_type_23 : decode cX9_type 23 = .ok (.lload_n 1, 1) := by decide +kernel
theorem dX9_type_24 : decode cX9_type 24 = .ok (.bipush 8, 2) := by decide +kernel
theorem dX9_type_26 : decode cX9_type 26 = .ok (.iload 4, 2) := by decide +kernel
theorem dX9_type_28 : decode cX9_type 28 = .ok (.imul, 1) := by decide +kernel
theorem dX9_type_29 : decode cX9_type 29 = .ok (.lshr, 1) := by decide +kernel
theorem dX9_type_30 : decode cX9_type 30 = .ok (.ldc2_w 109, 3) := by decide +kernel
theorem dX9_type_33 : decode cX9_type 33 = .ok (.land, 1) := by decide +kernel
theorem dX9_type_34 : decode cX9_type 34 = .ok (.ldc2_w 111, 3) := by decide +kernel
theorem dX9_type_37 : decode cX9_type 37 = .ok (.ldc2_w 113, 3) := by decide +kernel
theorem dX9_type_40 : decode cX9_type 40 = .ok (.invokestatic 71, 3) := by decide +kernel
theorem dX9_type_43 : decode cX9_type 43 = .ok (.ifCond .ne 5, 3) := by decide +kernel
theorem dX9_type_46 : decode cX9_type 46 = .ok (.iconst (-1), 1) := by decide +kernel
theorem dX9_type_47 : decode cX9_type 47 = .ok (.ireturn, 1) := by decide +kernel
theorem dX9_type_48 : decode cX9_type 48 = .ok (.iinc 4 1, 3) := by decide +kernel
theorem dX9_type_51 : decode cX9_type 51 = .ok (.goto (-34), 3) := by decide +kernel
theorem dX9_type_54 : decode cX9_type 54 = .ok (.aload_n 0, 1) := by decide +kernel
theorem dX9_type_55 : decode cX9_type 55 = .ok (.getfield 115, 3) := by decide +kernel
theorem dX9_type_58 : decode cX9_type 58 = .ok (.iload_n 3, 1) := by decide +kernel
theorem dX9_type_59 : decode cX9_type 59 = .ok (.iadd, 1) := by decide +kernel
theorem dX9_type_60 : decode cX9_type 60 = .ok (.bipush 60, 2) := by decide +kernel
theorem dX9_type_62 : decode cX9_type 62 = .ok (.if_icmp .le 6, 3) := by decide +kernel
theorem dX9_type_65 : decode cX9_type 65 = .ok (.bipush (-3), 2) := by decide +kernel
theorem dX9_type_67 : decode cX9_type 67 = .ok (.ireturn, 1) := by decide +kernel
theorem dX9_type_68 : decode cX9_type 68 = .ok (.iload_n 3, 1) := by decide +kernel
theorem dX9_type_69 : decode cX9_type 69 = .ok (.iconst 1, 1) := by decide +kernel
theorem dX9_type_70 : decode cX9_type 70 = .ok (.isub, 1) := by decide +kernel
theorem dX9_type_71 : decode cX9_type 71 = .ok (.istore 4, 2) := by decide +kernel
theorem dX9_type_73 : decode cX9_type 73 = .ok (.iload 4, 2) := by decide +kernel
theorem dX9_type_75 : decode cX9_type 75 = .ok (.ifCond .lt 40, 3) := by decide +kernel
theorem dX9_type_78 : decode cX9_type 78 = .ok (.aload_n 0, 1) := by decide +kernel
theorem dX9_type_79 : decode cX9_type 79 = .ok (.getfield 22, 3) := by decide +kernel
theorem dX9_type_82 : decode cX9_type 82 = .ok (.aload_n 0, 1) := by decide +kernel
theorem dX9_type_83 : decode cX9_type 83 = .ok (.getfield 115, 3) := by decide +kernel
theorem dX9_type_86 : decode cX9_type 86 = .ok (.lload_n 1, 1) := by decide +kernel
theorem dX9_type_87 : decode cX9_type 87 = .ok (.bipush 8, 2) := by decide +kernel
theorem dX9_type_89 : decode cX9_type 89 = .ok (.iload 4, 2) := by decide +kernel
theorem dX9_type_91 : decode cX9_type 91 = .ok (.imul, 1) := by decide +kernel
theorem dX9_type_92 : decode cX9_type 92 = .ok (.lshr, 1) := by decide +kernel
theorem dX9_type_93 : decode cX9_type 93 = .ok (.ldc2_w 109, 3) := by decide +kernel
theorem dX9_type_96 : decode cX9_type 96 = .ok (.land, 1) := by decide +kernel
theorem dX9_type_97 : decode cX9_type 97 = .ok (.l2i, 1) := by decide +kernel
theorem dX9_type_98 : decode cX9_type 98 = .ok (.iastore, 1) := by decide +kernel
theorem dX9_type_99 : decode cX9_type 99 = .ok (.aload_n 0, 1) := by decide +kernel
theorem dX9_type_100 : decode cX9_type 100 = .ok (.dup, 1) := by decide +kernel
theorem dX9_type_101 : decode cX9_type 101 = .ok (.getfield 115, 3) := by decide +kernel
theorem dX9_type_104 : decode cX9_type 104 = .ok (.iconst 1, 1) := by decide +kernel
theorem dX9_type_105 : decode cX9_type 105 = .ok (.iadd, 1) := by decide +kernel
theorem dX9_type_106 : decode cX9_type 106 = .ok (.putfield 115, 3) := by decide +kernel
theorem dX9_type_109 : decode cX9_type 109 = .ok (.iinc 4 (-1), 3) := by decide +kernel
theorem dX9_type_112 : decode cX9_type 112 = .ok (.goto (-39), 3) := by decide +kernel
theorem dX9_type_115 : decode cX9_type 115 = .ok (.aload_n 0, 1) := by decide +kernel
theorem dX9_type_116 : decode cX9_type 116 = .ok (.getfield 115, 3) := by decide +kernel
theorem dX9_type_119 : decode cX9_type 119 = .ok (.ireturn, 1) := by decide +kernel
theorem dX9_here_0 : decode cX9_here 0 = .ok (.aload_n 0, 1) := by decide +kernel
theorem dX9_here_1 : decode cX9_here 1 = .ok (.getfield 118, 3) := by decide +kernel
theorem dX9_here_4 : decode cX9_here 4 = .ok (.aload_n 0, 1) := by decide +kernel
theorem dX9_here_5 : decode cX9_here 5 = .ok (.getfield 115, 3) := by decide +kernel
theorem dX9_here_8 : decode cX9_here 8 = .ok (.if_icmp .ge 30, 3) := by decide +kernel
theorem dX9_here_11 : decode cX9_here 11 = .ok (.aload_n 0, 1) := by decide +kernel
theorem dX9_here_12 : decode cX9_here 12 = .ok (.getfield 22, 3) := by decide +kernel
theorem dX9_here_15 : decode cX9_here 15 = .ok (.aload_n 0, 1) := by decide +kernel
theorem dX9_here_16 : decode cX9_here 16 = .ok (.getfield 118, 3) := by decide +kernel
theorem dX9_here_19 : decode cX9_here 19 = .ok (.iaload, 1) := by decide +kernel
theorem dX9_here_20 : decode cX9_here 20 = .ok (.bipush 32, 2) := by decide +kernel
theorem dX9_here_22 : decode cX9_here 22 = .ok (.if_icmp .ne 16, 3) := by decide +kernel
theorem dX9_here_25 : decode cX9_here 25 = .ok (.aload_n 0, 1) := by decide +kernel
theorem dX9_here_26 : decode cX9_here 26 = .ok (.dup, 1) := by decide +kernel
theorem dX9_here_27 : decode cX9_here 27 = .ok (.getfield 118, 3) := by decide +kernel
theorem dX9_here_30 : decode cX9_here 30 = .ok (.iconst 1, 1) := by decide +kernel
theorem dX9_here_31 : decode cX9_here 31 = .ok (.iadd, 1) := by decide +kernel
theorem dX9_here_32 : decode cX9_here 32 = .ok (.putfield 118, 3) := by decide +kernel
theorem dX9_here_35 : decode cX9_here 35 = .ok (.goto (-35), 3) := by decide +kernel
theorem dX9_here_38 : decode cX9_here 38 = .ok (.aload_n 0, 1) := by decide +kernel
theorem dX9_here_39 : decode cX9_here 39 = .ok (.getfield 118, 3) := by decide +kernel
theorem dX9_here_42 : decode cX9_here 42 = .ok (.aload_n 0, 1) := by decide +kernel
theorem dX9_here_43 : decode cX9_here 43 = .ok (.getfield 115, 3) := by decide +kernel
theorem dX9_here_46 : decode cX9_here 46 = .ok (.if_icmp .ge 15, 3) := by decide +kernel
theorem dX9_here_49 : decode cX9_here 49 = .ok (.aload_n 0, 1) := by decide +kernel
theorem dX9_here_50 : decode cX9_here 50 = .ok (.getfield 22, 3) := by decide +kernel
theorem dX9_here_53 : decode cX9_here 53 = .ok (.aload_n 0, 1) := by decide +kernel
theorem dX9_here_54 : decode cX9_here 54 = .ok (.getfield 118, 3) := by decide +kernel
theorem dX9_here_57 : decode cX9_here 57 = .ok (.iaload, 1) := by decide +kernel
theorem dX9_here_58 : decode cX9_here 58 = .ok (.goto 4, 3) := by decide +kernel
theorem dX9_here_61 : decode cX9_here 61 = .ok (.iconst 0, 1) := by decide +kernel
theorem dX9_here_62 : decode cX9_here 62 = .ok (.ireturn, 1) := by decide +kernel
theorem dX9_has_0 : decode cX9_has 0 = .ok (.aload_n 0, 1) := by decide +kernel
theorem dX9_has_1 : decode cX9_has 1 = .ok (.getfield 121, 3) := by decide +kernel
theorem dX9_has_4 : decode cX9_has 4 = .ok (.ifCond .ne 15, 3) := by decide +kernel
theorem dX9_has_7 : decode cX9_has 7 = .ok (.aload_n 0, 1) := by decide +kernel
theorem dX9_has_8 : decode cX9_has 8 = .ok (.invokevirtual 125, 3) := by decide +kernel
theorem dX9_has_11 : decode cX9_has 11 = .ok (.iload_n 1, 1) := by decide +kernel
theorem dX9_has_12 : decode cX9_has 12 = .ok (.if_icmp .ne 7, 3) := by decide +kernel
theorem dX9_has_15 : decode cX9_has 15 = .ok (.iconst 1, 1) := by decide +kernel
theorem dX9_has_16 : decode cX9_has 16 = .ok (.goto 4, 3) := by decide +kernel
theorem dX9_has_19 : decode cX9_has 19 = .ok (.iconst 0, 1) := by decide +kernel
theorem dX9_has_20 : decode cX9_has 20 = .ok (.istore_n 2, 1) := by decide +kernel
theorem dX9_has_21 : decode cX9_has 21 = .ok (.aload_n 0, 1) := by decide +kernel
theorem dX9_has_22 : decode cX9_has 22 = .ok (.dup, 1) := by decide +kernel
theorem dX9_has_23 : decode cX9_has 23 = .ok (.getfield 118, 3) := by decide +kernel
theorem dX9_has_26 : decode cX9_has 26 = .ok (.iload_n 2, 1) := by decide +kernel
theorem dX9_has_27 : decode cX9_has 27 = .ok (.ifCond .eq 7, 3) := by decide +kernel
theorem dX9_has_30 : decode cX9_has 30 = .ok (.iconst 1, 1) := by decide +kernel
theorem dX9_has_31 : decode cX9_has 31 = .ok (.goto 4, 3) := by decide +kernel
theorem dX9_has_34 : decode cX9_has 34 = .ok (.iconst 0, 1) := by decide +kernel
theorem dX9_has_35 : decode cX9_has 35 = .ok (.iadd, 1) := by decide +kernel
theorem dX9_has_36 : decode cX9_has 36 = .ok (.putfield 118, 3) := by decide +kernel
theorem dX9_has_39 : decode cX9_has 39 = .ok (.iload_n 2, 1) := by decide +kernel
theorem dX9_has_40 : decode cX9_has 40 = .ok (.ireturn, 1) := by decide +kernel
theorem dX9_number_0 : decode cX9_number 0 = .ok (.aload_n 0, 1) := by decide +kernel
theorem dX9_number_1 : decode cX9_number 1 = .ok (.getfield 121, 3) := by decide +kernel
theorem dX9_number_4 : decode cX9_number 4 = .ok (.ifCond .ne 20, 3) := by decide +kernel
theorem dX9_number_7 : decode cX9_number 7 = .ok (.aload_n 0, 1) := by decide +kernel
theorem dX9_number_8 : decode cX9_number 8 = .ok (.invokevirtual 125, 3) := by decide +kernel
theorem dX9_number_11 : decode cX9_number 11 = .ok (.i2l, 1) := by decide +kernel
theorem dX9_number_12 : decode cX9_number 12 = .ok (.ldc2_w 129, 3) := by decide +kernel
theorem dX9_number_15 : decode cX9_number 15 = .ok (.ldc2_w 131, 3) := by decide +kernel
theorem dX9_number_18 : decode cX9_number 18 = .ok (.invokestatic 71, 3) := by decide +kernel
theorem dX9_number_21 : decode cX9_number 21 = .ok (.ifCond .ne 10, 3) := by decide +kernel
theorem dX9_number_24 : decode cX9_number 24 = .ok (.aload_n 0, 1) := by decide +kernel
theorem dX9_number_25 : decode cX9_number 25 = .ok (.iconst 1, 1) := by decide +kernel
theorem dX9_number_26 : decode cX9_number 26 = .ok (.putfield 121, 3) := by decide +kernel
theorem dX9_number_29 : decode cX9_number 29 = .ok (.iconst 0, 1) := by decide +kernel
theorem dX9_number_30 : decode cX9_number 30 = .ok (.ireturn, 1) := by decide +kernel
theorem dX9_number_31 : decode cX9_number 31 = .ok (.aload_n 0, 1) := by decide +kernel
theorem dX9_number_32 : decode cX9_number 32 = .ok (.getfield 118, 3) := by decide +kernel
theorem dX9_number_35 : decode cX9_number 35 = .ok (.istore_n 3, 1) := by decide +kernel
theorem dX9_number_36 : decode cX9_number 36 = .ok (.iconst 0, 1) := by decide +kernel
theorem dX9_number_37 : decode cX9_number 37 = .ok (.istore 4, 2) := by decide +kernel
theorem dX9_number_39 : decode cX9_number 39 = .ok (.aload_n 0, 1) := by decide +kernel
theorem dX9_number_40 : decode cX9_number 40 = .ok (.getfield 118, 3) := by decide +kernel
theorem dX9_number_43 : decode cX9_number 43 = .ok (.aload_n 0, 1) := by decide +kernel
theorem dX9_number_44 : decode cX9_number 44 = .ok (.getfield 115, 3) := by decide +kernel
theorem dX9_number_47 : decode cX9_number 47 = .ok (.if_icmp .ge 71, 3) := by decide +kernel
theorem dX9_number_50 : decode cX9_number 50 = .ok (.aload_n 0, 1) := by decide +kernel
theorem dX9_number_51 : decode cX9_number 51 = .ok (.getfield 22, 3) := by decide +kernel
theorem dX9_number_54 : decode cX9_number 54 = .ok (.aload_n 0, 1) := by decide +kernel
theorem dX9_number_55 : decode cX9_number 55 = .ok (.getfield 118, 3) := by decide +kernel
theorem dX9_number_58 : decode cX9_number 58 = .ok (.iaload, 1) := by decide +kernel
theorem dX9_number_59 : decode cX9_number 59 = .ok (.i2l, 1) := by decide +kernel
theorem dX9_number_60 : decode cX9_number 60 = .ok (.ldc2_w 129, 3) := by decide +kernel
theorem dX9_number_63 : decode cX9_number 63 = .ok (.ldc2_w 131, 3) := by decide +kernel
theorem dX9_number_66 : decode cX9_number 66 = .ok (.invokestatic 71, 3) := by decide +kernel
theorem dX9_number_69 : decode cX9_number 69 = .ok (.ifCond .eq 49, 3) := by decide +kernel
theorem dX9_number_72 : decode cX9_number 72 = .ok (.iload 4, 2) := by decide +kernel
theorem dX9_number_74 : decode cX9_number 74 = .ok (.sipush 999, 3) := by decide +kernel
theorem dX9_number_77 : decode cX9_number 77 = .ok (.if_icmp .le 8, 3) := by decide +kernel
theorem dX9_number_80 : decode cX9_number 80 = .ok (.iload 4, 2) := by decide +kernel
theorem dX9_number_82 : decode cX9_number 82 = .ok (.goto 21, 3) := by decide +kernel
theorem dX9_number_85 : decode cX9_number 85 = .ok (.bipush 10, 2) := by decide +kernel
theorem dX9_number_87 : decode cX9_number 87 = .ok (.iload 4, 2) := by decide +kernel
theorem dX9_number_89 : decode cX9_number 89 = .ok (.imul, 1) := by decide +kernel
theorem dX9_number_90 : decode cX9_number 90 = .ok (.aload_n 0, 1) := by decide +kernel
theorem dX9_number_91 : decode cX9_number 91 = .ok (.getfield 22, 3) := by decide +kernel
theorem dX9_number_94 : decode cX9_number 94 = .ok (.aload_n 0, 1) := by decide +kernel
theorem dX9_number_95 : decode cX9_number 95 = .ok (.getfield 118, 3) := by decide +kernel
theorem dX9_number_98 : decode cX9_number 98 = .ok (.iaload, 1) := by decide +kernel
theorem dX9_number_99 : decode cX9_number 99 = .ok (.iadd, 1) := by decide +kernel
theorem dX9_number_100 : decode cX9_number 100 = .ok (.bipush 48, 2) := by decide +kernel
theorem dX9_number_102 : decode cX9_number 102 = .ok (.isub, 1) := by decide +kernel
theorem dX9_number_103 : decode cX9_number 103 = .ok (.istore 4, 2) := by decide +kernel
theorem dX9_number_105 : decode cX9_number 105 = .ok (.aload_n 0, 1) := by decide +kernel
theorem dX9_number_106 : decode cX9_number 106 = .ok (.dup, 1) := by decide +kernel
theorem dX9_number_107 : decode cX9_number 107 = .ok (.getfield 118, 3) := by decide +kernel
theorem dX9_number_110 : decode cX9_number 110 = .ok (.iconst 1, 1) := by decide +kernel
theorem dX9_number_111 : decode cX9_number 111 = .ok (.iadd, 1) := by decide +kernel
theorem dX9_number_112 : decode cX9_number 112 = .ok (.putfield 118, 3) := by decide +kernel
theorem dX9_number_115 : decode cX9_number 115 = .ok (.goto (-76), 3) := by decide +kernel
theorem dX9_number_118 : decode cX9_number 118 = .ok (.aload_n 0, 1) := by decide +kernel
theorem dX9_number_119 : decode cX9_number 119 = .ok (.iload 4, 2) := by decide +kernel
theorem dX9_number_121 : decode cX9_number 121 = .ok (.i2l, 1) := by decide +kernel
theorem dX9_number_122 : decode cX9_number 122 = .ok (.iload_n 1, 1) := by decide +kernel
theorem dX9_number_123 : decode cX9_number 123 = .ok (.i2l, 1) := by decide +kernel
theorem dX9_number_124 : decode cX9_number 124 = .ok (.iload_n 2, 1) := by decide +kernel
theorem dX9_number_125 : decode cX9_number 125 = .ok (.i2l, 1) := by decide +kernel
theorem dX9_number_126 : decode cX9_number 126 = .ok (.invokestatic 71, 3) := by decide +kernel
theorem dX9_number_129 : decode cX9_number 129 = .ok (.ifCond .ne 7, 3) := by decide +kernel
theorem dX9_number_132 : decode cX9_number 132 = .ok (.iconst 1, 1) := by decide +kernel
theorem dX9_number_133 : decode cX9_number 133 = .ok (.goto 4, 3) := by decide +kernel
theorem dX9_number_136 : decode cX9_number 136 = .ok (.iconst 0, 1) := by decide +kernel
theorem dX9_number_137 : decode cX9_number 137 = .ok (.putfield 121, 3) := by decide +kernel
theorem dX9_number_140 : decode cX9_number 140 = .ok (.aload_n 0, 1) := by decide +kernel
theorem dX9_number_141 : decode cX9_number 141 = .ok (.aload_n 0, 1) := by decide +kernel
theorem dX9_number_142 : decode cX9_number 142 = .ok (.getfield 121, 3) := by decide +kernel
theorem dX9_number_145 : decode cX9_number 145 = .ok (.ifCond .eq 7, 3) := by decide +kernel
theorem dX9_number_148 : decode cX9_number 148 = .ok (.iload_n 3, 1) := by decide +kernel
theorem dX9_number_149 : decode cX9_number 149 = .ok (.goto 7, 3) := by decide +kernel
theorem dX9_number_152 : decode cX9_number 152 = .ok (.aload_n 0, 1) := by decide +kernel
theorem dX9_number_153 : decode cX9_number 153 = .ok (.getfield 118, 3) := by decide +kernel
theorem dX9_number_156 : decode cX9_number 156 = .ok (.putfield 118, 3) := by decide +kernel
theorem dX9_number_159 : decode cX9_number 159 = .ok (.iload 4, 2) := by decide +kernel
theorem dX9_number_161 : decode cX9_number 161 = .ok (.ireturn, 1) := by decide +kernel
theorem dX9_digit_0 : decode cX9_digit 0 = .ok (.aload_n 0, 1) := by decide +kernel
theorem dX9_digit_1 : decode cX9_digit 1 = .ok (.aload_n 0, 1) := by decide +kernel
theorem dX9_digit_2 : decode cX9_digit 2 = .ok (.getfield 121, 3) := by decide +kernel
theorem dX9_digit_5 : decode cX9_digit 5 = .ok (.ifCond .ne 20, 3) := by decide +kernel
theorem dX9_digit_8 : decode cX9_digit 8 = .ok (.aload_n 0, 1) := by decide +kernel
theorem dX9_digit_9 : decode cX9_digit 9 = .ok (.invokevirtual 125, 3) := by decide +kernel
theorem dX9_digit_12 : decode cX9_digit 12 = .ok (.i2l, 1) := by decide +kernel
theorem dX9_digit_13 : decode cX9_digit 13 = .ok (.ldc2_w 129, 3) := by decide +kernel
theorem dX9_digit_16 : decode cX9_digit 16 = .ok (.ldc2_w 131, 3) := by decide +kernel
theorem dX9_digit_19 : decode cX9_digit 19 = .ok (.invokestatic 71, 3) := by decide +kernel
theorem dX9_digit_22 : decode cX9_digit 22 = .ok (.ifCond .ne 7, 3) := by decide +kernel
theorem dX9_digit_25 : decode cX9_digit 25 = .ok (.iconst 1, 1) := by decide +kernel
theorem dX9_digit_26 : decode cX9_digit 26 = .ok (.goto 4, 3) := by decide +kernel
theorem dX9_digit_29 : decode cX9_digit 29 = .ok (.iconst 0, 1) := by decide +kernel
theorem dX9_digit_30 : decode cX9_digit 30 = .ok (.putfield 121, 3) := by decide +kernel
theorem dX9_digit_33 : decode cX9_digit 33 = .ok (.aload_n 0, 1) := by decide +kernel
theorem dX9_digit_34 : decode cX9_digit 34 = .ok (.getfield 121, 3) := by decide +kernel
theorem dX9_digit_37 : decode cX9_digit 37 = .ok (.ifCond .eq 7, 3) := by decide +kernel
theorem dX9_digit_40 : decode cX9_digit 40 = .ok (.iconst 0, 1) := by decide +kernel
theorem dX9_digit_41 : decode cX9_digit 41 = .ok (.goto 10, 3) := by decide +kernel
theorem dX9_digit_44 : decode cX9_digit 44 = .ok (.aload_n 0, 1) := by decide +kernel
theorem dX9_digit_45 : decode cX9_digit 45 = .ok (.invokevirtual 125, 3) := by decide +kernel
theorem dX9_digit_48 : decode cX9_digit 48 = .ok (.bipush 48, 2) := by decide +kernel
theorem dX9_digit_50 : decode cX9_digit 50 = .ok (.isub, 1) := by decide +kernel
theorem dX9_digit_51 : decode cX9_digit 51 = .ok (.istore_n 1, 1) := by decide +kernel
theorem dX9_digit_52 : decode cX9_digit 52 = .ok (.aload_n 0, 1) := by decide +kernel
theorem dX9_digit_53 : decode cX9_digit 53 = .ok (.dup, 1) := by decide +kernel
theorem dX9_digit_54 : decode cX9_digit 54 = .ok (.getfield 118, 3) := by decide +kernel
theorem dX9_digit_57 : decode cX9_digit 57 = .ok (.aload_n 0, 1) := by decide +kernel
theorem dX9_digit_58 : decode cX9_digit 58 = .ok (.getfield 121, 3) := by decide +kernel
theorem dX9_digit_61 : decode cX9_digit 61 = .ok (.ifCond .eq 7, 3) := by decide +kernel
theorem dX9_digit_64 : decode cX9_digit 64 = .ok (.iconst 0, 1) := by decide +kernel
theorem dX9_digit_65 : decode cX9_digit 65 = .ok (.goto 4, 3) := by decide +kernel
theorem dX9_digit_68 : decode cX9_digit 68 = .ok (.iconst 1, 1) := by decide +kernel
theorem dX9_digit_69 : decode cX9_digit 69 = .ok (.iadd, 1) := by decide +kernel
theorem dX9_digit_70 : decode cX9_digit 70 = .ok (.putfield 118, 3) := by decide +kernel
theorem dX9_digit_73 : decode cX9_digit 73 = .ok (.iload_n 1, 1) := by decide +kernel
theorem dX9_digit_74 : decode cX9_digit 74 = .ok (.ireturn, 1) := by decide +kernel
theorem dX9_signed_0 : decode cX9_signed 0 = .ok (.aload_n 0, 1) := by decide +kernel
theorem dX9_signed_1 : decode cX9_signed 1 = .ok (.bipush 45, 2) := by decide +kernel
theorem dX9_signed_3 : decode cX9_signed 3 = .ok (.invokevirtual 133, 3) := by decide +kernel
theorem dX9_signed_6 : decode cX9_signed 6 = .ok (.istore_n 1, 1) := by decide +kernel
theorem dX9_signed_7 : decode cX9_signed 7 = .ok (.aload_n 0, 1) := by decide +kernel
theorem dX9_signed_8 : decode cX9_signed 8 = .ok (.aload_n 0, 1) := by decide +kernel
theorem dX9_signed_9 : decode cX9_signed 9 = .ok (.getfield 121, 3) := by decide +kernel
theorem dX9_signed_12 : decode cX9_signed 12 = .ok (.ifCond .ne 16, 3) := by decide +kernel
theorem dX9_signed_15 : decode cX9_signed 15 = .ok (.iload_n 1, 1) := by decide +kernel
theorem dX9_signed_16 : decode cX9_signed 16 = .ok (.ifCond .ne 16, 3) := by decide +kernel
theorem dX9_signed_19 : decode cX9_signed 19 = .ok (.aload_n 0, 1) := by decide +kernel
theorem dX9_signed_20 : decode cX9_signed 20 = .ok (.bipush 43, 2) := by decide +kernel
theorem dX9_signed_22 : decode cX9_signed 22 = .ok (.invokevirtual 133, 3) := by decide +kernel
theorem dX9_signed_25 : decode cX9_signed 25 = .ok (.ifCond .ne 7, 3) := by decide +kernel
theorem dX9_signed_28 : decode cX9_signed 28 = .ok (.iconst 1, 1) := by decide +kernel
theorem dX9_signed_29 : decode cX9_signed 29 = .ok (.goto 4, 3) := by decide +kernel
theorem dX9_signed_32 : decode cX9_signed 32 = .ok (.iconst 0, 1) := by decide +kernel
theorem dX9_signed_33 : decode cX9_signed 33 = .ok (.putfield 121, 3) := by decide +kernel
theorem dX9_signed_36 : decode cX9_signed 36 = .ok (.aload_n 0, 1) := by decide +kernel
theorem dX9_signed_37 : decode cX9_signed 37 = .ok (.invokevirtual 136, 3) := by decide +kernel
theorem dX9_signed_40 : decode cX9_signed 40 = .ok (.istore_n 2, 1) := by decide +kernel
theorem dX9_signed_41 : decode cX9_signed 41 = .ok (.iload_n 1, 1) := by decide +kernel
theorem dX9_signed_42 : decode cX9_signed 42 = .ok (.ifCond .eq 8, 3) := by decide +kernel
theorem dX9_signed_45 : decode cX9_signed 45 = .ok (.iload_n 2, 1) := by decide +kernel
theorem dX9_signed_46 : decode cX9_signed 46 = .ok (.ineg, 1) := by decide +kernel
theorem dX9_signed_47 : decode cX9_signed 47 = .ok (.goto 4, 3) := by decide +kernel
theorem dX9_signed_50 : decode cX9_signed 50 = .ok (.iload_n 2, 1) := by decide +kernel
theorem dX9_signed_51 : decode cX9_signed 51 = .ok (.ireturn, 1) := by decide +kernel
theorem dX9_cupClause_0 : decode cX9_cupClause 0 = .ok (.aload_n 0, 1) := by decide +kernel
theorem dX9_cupClause_1 : decode cX9_cupClause 1 = .ok (.getfield 25, 3) := by decide +kernel
theorem dX9_cupClause_4 : decode cX9_cupClause 4 = .ok (.iload_n 1, 1) := by decide +kernel
theorem dX9_cupClause_5 : decode cX9_cupClause 5 = .ok (.aload_n 0, 1) := by decide +kernel
theorem dX9_cupClause_6 : decode cX9_cupClause 6 = .ok (.invokevirtual 139, 3) := by decide +kernel
theorem dX9_cupClause_9 : decode cX9_cupClause 9 = .ok (.iastore, 1) := by decide +kernel
theorem dX9_cupClause_10 : decode cX9_cupClause 10 = .ok (.aload_n 0, 1) := by decide +kernel
theorem dX9_cupClause_11 : decode cX9_cupClause 11 = .ok (.getfield 25, 3) := by decide +kernel
theorem dX9_cupClause_14 : decode cX9_cupClause 14 = .ok (.iload_n 1, 1) := by decide +kernel
theorem dX9_cupClause_15 : decode cX9_cupClause 15 = .ok (.iconst 1, 1) := by decide +kernel
theorem dX9_cupClause_16 : decode cX9_cupClause 16 = .ok (.iadd, 1) := by decide +kernel
theorem dX9_cupClause_17 : decode cX9_cupClause 17 = .ok (.aload_n 0, 1) := by decide +kernel
theorem dX9_cupClause_18 : decode cX9_cupClause 18 = .ok (.invokevirtual 139, 3) := by decide +kernel
theorem dX9_cupClause_21 : decode cX9_cupClause 21 = .ok (.iastore, 1) := by decide +kernel
theorem dX9_cupClause_22 : decode cX9_cupClause 22 = .ok (.aload_n 0, 1) := by decide +kernel
theorem dX9_cupClause_23 : decode cX9_cupClause 23 = .ok (.getfield 25, 3) := by decide +kernel
theorem dX9_cupClause_26 : decode cX9_cupClause 26 = .ok (.iload_n 1, 1) := by decide +kernel
theorem dX9_cupClause_27 : decode cX9_cupClause 27 = .ok (.iconst 2, 1) := by decide +kernel
theorem dX9_cupClause_28 : decode cX9_cupClause 28 = .ok (.iadd, 1) := by decide +kernel
theorem dX9_cupClause_29 : decode cX9_cupClause 29 = .ok (.aload_n 0, 1) := by decide +kernel
theorem dX9_cupClause_30 : decode cX9_cupClause 30 = .ok (.invokevirtual 136, 3) := by decide +kernel
theorem dX9_cupClause_33 : decode cX9_cupClause 33 = .ok (.iastore, 1) := by decide +kernel
theorem dX9_cupClause_34 : decode cX9_cupClause 34 = .ok (.aload_n 0, 1) := by decide +kernel
theorem dX9_cupClause_35 : decode cX9_cupClause 35 = .ok (.getfield 25, 3) := by decide +kernel
theorem dX9_cupClause_38 : decode cX9_cupClause 38 = .ok (.iload_n 1, 1) := by decide +kernel
theorem dX9_cupClause_39 : decode cX9_cupClause 39 = .ok (.iconst 4, 1) := by decide +kernel
theorem dX9_cupClause_40 : decode cX9_cupClause 40 = .ok (.iadd, 1) := by decide +kernel
theorem dX9_cupClause_41 : decode cX9_cupClause 41 = .ok (.aload_n 0, 1) := by decide +kernel
theorem dX9_cupClause_42 : decode cX9_cupClause 42 = .ok (.bipush 115, 2) := by decide +kernel
theorem dX9_cupClause_44 : decode cX9_cupClause 44 = .ok (.invokevirtual 133, 3) := by decide +kernel
theorem dX9_cupClause_47 : decode cX9_cupClause 47 = .ok (.ifCond .eq 7, 3) := by decide +kernel
theorem dX9_cupClause_50 : decode cX9_cupClause 50 = .ok (.iconst 1, 1) := by decide +kernel
theorem dX9_cupClause_51 : decode cX9_cupClause 51 = .ok (.goto 4, 3) := by decide +kernel
theorem dX9_cupClause_54 : decode cX9_cupClause 54 = .ok (.iconst 0, 1) := by decide +kernel
theorem dX9_cupClause_55 : decode cX9_cupClause 55 = .ok (.iastore, 1) := by decide +kernel
theorem dX9_cupClause_56 : decode cX9_cupClause 56 = .ok (.aload_n 0, 1) := by decide +kernel
theorem dX9_cupClause_57 : decode cX9_cupClause 57 = .ok (.getfield 25, 3) := by decide +kernel
theorem dX9_cupClause_60 : decode cX9_cupClause 60 = .ok (.iload_n 1, 1) := by decide +kernel
theorem dX9_cupClause_61 : decode cX9_cupClause 61 = .ok (.iconst 3, 1) := by decide +kernel
theorem dX9_cupClause_62 : decode cX9_cupClause 62 = .ok (.iadd, 1) := by decide +kernel
theorem dX9_cupClause_63 : decode cX9_cupClause 63 = .ok (.aload_n 0, 1) := by decide +kernel
theorem dX9_cupClause_64 : decode cX9_cupClause 64 = .ok (.bipush 58, 2) := by decide +kernel
theorem dX9_cupClause_66 : decode cX9_cupClause 66 = .ok (.invokevirtual 133, 3) := by decide +kernel
theorem dX9_cupClause_69 : decode cX9_cupClause 69 = .ok (.ifCond .eq 13, 3) := by decide +kernel
theorem dX9_cupClause_72 : decode cX9_cupClause 72 = .ok (.aload_n 0, 1) := by decide +kernel
theorem dX9_cupClause_73 : decode cX9_cupClause 73 = .ok (.iconst 0, 1) := by decide +kernel
theorem dX9_cupClause_74 : decode cX9_cupClause 74 = .ok (.bipush 99, 2) := by decide +kernel
theorem dX9_cupClause_76 : decode cX9_cupClause 76 = .ok (.invokevirtual 142, 3) := by decide +kernel
theorem dX9_cupClause_79 : decode cX9_cupClause 79 = .ok (.goto 4, 3) := by decide +kernel
theorem dX9_cupClause_82 : decode cX9_cupClause 82 = .ok (.iconst 1, 1) := by decide +kernel
theorem dX9_cupClause_83 : decode cX9_cupClause 83 = .ok (.iastore, 1) := by decide +kernel
theorem dX9_cupClause_84 : decode cX9_cupClause 84 = .ok (.return_, 1) := by decide +kernel
theorem dX9_partClause_0 : decode cX9_partClause 0 = .ok (.aload_n 0, 1) := by decide +kernel
theorem dX9_partClause_1 : decode cX9_partClause 1 = .ok (.getfield 25, 3) := by decide +kernel
theorem dX9_partClause_4 : decode cX9_partClause 4 = .ok (.iload_n 1, 1) := by decide +kernel
theorem dX9_partClause_5 : decode cX9_partClause 5 = .ok (.aload_n 0, 1) := by decide +kernel
theorem dX9_partClause_6 : decode cX9_partClause 6 = .ok (.iconst 1, 1) := by decide +kernel
theorem dX9_partClause_7 : decode cX9_partClause 7 = .ok (.bipush 20, 2) := by decide +kernel
theorem dX9_partClause_9 : decode cX9_partClause 9 = .ok (.invokevirtual 142, 3) := by decide +kernel
theorem dX9_partClause_12 : decode cX9_partClause 12 = .ok (.iastore, 1) := by decide +kernel
theorem dX9_partClause_13 : decode cX9_partClause 13 = .ok (.aload_n 0, 1) := by decide +kernel
theorem dX9_partClause_14 : decode cX9_partClause 14 = .ok (.getfield 25, 3) := by decide +kernel
theorem dX9_partClause_17 : decode cX9_partClause 17 = .ok (.iload_n 1, 1) := by decide +kernel
theorem dX9_partClause_18 : decode cX9_partClause 18 = .ok (.iconst 1, 1) := by decide +kernel
theorem dX9_partClause_19 : decode cX9_partClause 19 = .ok (.iadd, 1) := by decide +kernel
theorem dX9_partClause_20 : decode cX9_partClause 20 = .ok (.aload_n 0, 1) := by decide +kernel
theorem dX9_partClause_21 : decode cX9_partClause 21 = .ok (.invokevirtual 139, 3) := by decide +kernel
theorem dX9_partClause_24 : decode cX9_partClause 24 = .ok (.iastore, 1) := by decide +kernel
theorem dX9_partClause_25 : decode cX9_partClause 25 = .ok (.aload_n 0, 1) := by decide +kernel
theorem dX9_partClause_26 : decode cX9_partClause 26 = .ok (.getfield 25, 3) := by decide +kernel
theorem dX9_partClause_29 : decode cX9_partClause 29 = .ok (.iload_n 1, 1) := by decide +kernel
theorem dX9_partClause_30 : decode cX9_partClause 30 = .ok (.iconst 2, 1) := by decide +kernel
theorem dX9_partClause_31 : decode cX9_partClause 31 = .ok (.iadd, 1) := by decide +kernel
theorem dX9_partClause_32 : decode cX9_partClause 32 = .ok (.aload_n 0, 1) := by decide +kernel
theorem dX9_partClause_33 : decode cX9_partClause 33 = .ok (.invokevirtual 139, 3) := by decide +kernel
theorem dX9_partClause_36 : decode cX9_partClause 36 = .ok (.iastore, 1) := by decide +kernel
theorem dX9_partClause_37 : decode cX9_partClause 37 = .ok (.return_, 1) := by decide +kernel
theorem dX9_readAll_0 : decode cX9_readAll 0 = .ok (.aload_n 0, 1) := by decide +kernel
theorem dX9_readAll_1 : decode cX9_readAll 1 = .ok (.iconst 0, 1) := by decide +kernel
theorem dX9_readAll_2 : decode cX9_readAll 2 = .ok (.putfield 118, 3) := by decide +kernel
theorem dX9_readAll_5 : decode cX9_readAll 5 = .ok (.aload_n 0, 1) := by decide +kernel
theorem dX9_readAll_6 : decode cX9_readAll 6 = .ok (.iconst 0, 1) := by decide +kernel
theorem dX9_readAll_7 : decode cX9_readAll 7 = .ok (.putfield 121, 3) := by decide +kernel
theorem dX9_readAll_10 : decode cX9_readAll 10 = .ok (.iconst 0, 1) := by decide +kernel
theorem dX9_readAll_11 : decode cX9_readAll 11 = .ok (.istore_n 2, 1) := by decide +kernel
theorem dX9_readAll_12 : decode cX9_readAll 12 = .ok (.iconst 1, 1) := by decide +kernel
theorem dX9_readAll_13 : decode cX9_readAll 13 = .ok (.istore_n 3, 1) := by decide +kernel
theorem dX9_readAll_14 : decode cX9_readAll 14 = .ok (.iload_n 3, 1) := by decide +kernel
theorem dX9_readAll_15 : decode cX9_readAll 15 = .ok (.ifCond .eq 59, 3) := by decide +kernel
theorem dX9_readAll_18 : decode cX9_readAll 18 = .ok (.iload_n 1, 1) := by decide +kernel
theorem dX9_readAll_19 : decode cX9_readAll 19 = .ok (.ifCond .eq 13, 3) := by decide +kernel
theorem dX9_readAll_22 : decode cX9_readAll 22 = .ok (.aload_n 0, 1) := by decide +kernel
theorem dX9_readAll_23 : decode cX9_readAll 23 = .ok (.iconst 5, 1) := by decide +kernel
theorem dX9_readAll_24 : decode cX9_readAll 24 = .ok (.iload_n 2, 1) := by decide +kernel
theorem dX9_readAll_25 : decode cX9_readAll 25 = .ok (.imul, 1) := by decide +kernel
theorem dX9_readAll_26 : decode cX9_readAll 26 = .ok (.invokevirtual 146, 3) := by decide +kernel
theorem dX9_readAll_29 : decode cX9_readAll 29 = .ok (.goto 10, 3) := by decide +kernel
theorem dX9_readAll_32 : decode cX9_readAll 32 = .ok (.aload_n 0, 1) := by decide +kernel
theorem dX9_readAll_33 : decode cX9_readAll 33 = .ok (.iconst 3, 1) := by decide +kernel
theorem dX9_readAll_34 : decode cX9_readAll 34 = .ok (.iload_n 2, 1) := by decide +kernel
theorem dX9_readAll_35 : decode cX9_readAll 35 = .ok (.imul, 1) := by decide +kernel
theorem dX9_readAll_36 : decode cX9_readAll 36 = .ok (.invokevirtual 150, 3) := by decide +kernel
theorem dX9_readAll_39 : decode cX9_readAll 39 = .ok (.iinc 2 1, 3) := by decide +kernel
theorem dX9_readAll_42 : decode cX9_readAll 42 = .ok (.iload_n 2, 1) := by decide +kernel
theorem dX9_readAll_43 : decode cX9_readAll 43 = .ok (.iload_n 1, 1) := by decide +kernel
theorem dX9_readAll_44 : decode cX9_readAll 44 = .ok (.ifCond .eq 7, 3) := by decide +kernel
theorem dX9_readAll_47 : decode cX9_readAll 47 = .ok (.iconst 4, 1) := by decide +kernel
theorem dX9_readAll_48 : decode cX9_readAll 48 = .ok (.goto 5, 3) := by decide +kernel
theorem dX9_readAll_51 : decode cX9_readAll 51 = .ok (.bipush 6, 2) := by decide +kernel
theorem dX9_readAll_53 : decode cX9_readAll 53 = .ok (.if_icmp .ge 16, 3) := by decide +kernel
theorem dX9_readAll_56 : decode cX9_readAll 56 = .ok (.aload_n 0, 1) := by decide +kernel
theorem dX9_readAll_57 : decode cX9_readAll 57 = .ok (.bipush 59, 2) := by decide +kernel
theorem dX9_readAll_59 : decode cX9_readAll 59 = .ok (.invokevirtual 133, 3) := by decide +kernel
theorem dX9_readAll_62 : decode cX9_readAll 62 = .ok (.ifCond .eq 7, 3) := by decide +kernel
theorem dX9_readAll_65 : decode cX9_readAll 65 = .ok (.iconst 1, 1) := by decide +kernel
theorem dX9_readAll_66 : decode cX9_readAll 66 = .ok (.goto 4, 3) := by decide +kernel
theorem dX9_readAll_69 : decode cX9_readAll 69 = .ok (.iconst 0, 1) := by decide +kernel
theorem dX9_readAll_70 : decode cX9_readAll 70 = .ok (.istore_n 3, 1) := by decide +kernel
theorem dX9_readAll_71 : decode cX9_readAll 71 = .ok (.goto (-57), 3) := by decide +kernel
theorem dX9_readAll_74 : decode cX9_readAll 74 = .ok (.aload_n 0, 1) := by decide +kernel
theorem dX9_readAll_75 : decode cX9_readAll 75 = .ok (.aload_n 0, 1) := by decide +kernel
theorem dX9_readAll_76 : decode cX9_readAll 76 = .ok (.getfield 121, 3) := by decide +kernel
theorem dX9_readAll_79 : decode cX9_readAll 79 = .ok (.ifCond .ne 10, 3) := by decide +kernel
theorem dX9_readAll_82 : decode cX9_readAll 82 = .ok (.aload_n 0, 1) := by decide +kernel
theorem dX9_readAll_83 : decode cX9_readAll 83 = .ok (.invokevirtual 125, 3) := by decide +kernel
theorem dX9_readAll_86 : decode cX9_readAll 86 = .ok (.ifCond .eq 7, 3) := by decide +kernel
theorem dX9_readAll_89 : decode cX9_readAll 89 = .ok (.iconst 1, 1) := by decide +kernel
theorem dX9_readAll_90 : decode cX9_readAll 90 = .ok (.goto 4, 3) := by decide +kernel
theorem dX9_readAll_93 : decode cX9_readAll 93 = .ok (.iconst 0, 1) := by decide +kernel
theorem dX9_readAll_94 : decode cX9_readAll 94 = .ok (.putfield 121, 3) := by decide +kernel
theorem dX9_readAll_97 : decode cX9_readAll 97 = .ok (.aload_n 0, 1) := by decide +kernel
theorem dX9_readAll_98 : decode cX9_readAll 98 = .ok (.iconst 0, 1) := by decide +kernel
theorem dX9_readAll_99 : decode cX9_readAll 99 = .ok (.putfield 115, 3) := by decide +kernel
theorem dX9_readAll_102 : decode cX9_readAll 102 = .ok (.aload_n 0, 1) := by decide +kernel
theorem dX9_readAll_103 : decode cX9_readAll 103 = .ok (.getfield 121, 3) := by decide +kernel
theorem dX9_readAll_106 : decode cX9_readAll 106 = .ok (.ifCond .eq 13, 3) := by decide +kernel
theorem dX9_readAll_109 : decode cX9_readAll 109 = .ok (.bipush (-20), 2) := by decide +kernel
theorem dX9_readAll_111 : decode cX9_readAll 111 = .ok (.aload_n 0, 1) := by decide +kernel
theorem dX9_readAll_112 : decode cX9_readAll 112 = .ok (.getfield 118, 3) := by decide +kernel
theorem dX9_readAll_115 : decode cX9_readAll 115 = .ok (.isub, 1) := by decide +kernel
theorem dX9_readAll_116 : decode cX9_readAll 116 = .ok (.goto 4, 3) := by decide +kernel
theorem dX9_readAll_119 : decode cX9_readAll 119 = .ok (.iload_n 2, 1) := by decide +kernel
theorem dX9_readAll_120 : decode cX9_readAll 120 = .ok (.ireturn, 1) := by decide +kernel
theorem dX9_toy_0 : decode cX9_toy 0 = .ok (.aload_n 0, 1) := by decide +kernel
theorem dX9_toy_1 : decode cX9_toy 1 = .ok (.iconst 1, 1) := by decide +kernel
theorem dX9_toy_2 : decode cX9_toy 2 = .ok (.invokevirtual 153, 3) := by decide +kernel
theorem dX9_toy_5 : decode cX9_toy 5 = .ok (.istore_n 1, 1) := by decide +kernel
theorem dX9_toy_6 : decode cX9_toy 6 = .ok (.aload_n 0, 1) := by decide +kernel
theorem dX9_toy_7 : decode cX9_toy 7 = .ok (.iload_n 1, 1) := by decide +kernel
theorem dX9_toy_8 : decode cX9_toy 8 = .ok (.ifCond .le 7, 3) := by decide +kernel
theorem dX9_toy_11 : decode cX9_toy 11 = .ok (.iload_n 1, 1) := by decide +kernel
theorem dX9_toy_12 : decode cX9_toy 12 = .ok (.goto 7, 3) := by decide +kernel
theorem dX9_toy_15 : decode cX9_toy 15 = .ok (.aload_n 0, 1) := by decide +kernel
theorem dX9_toy_16 : decode cX9_toy 16 = .ok (.getfield 68, 3) := by decide +kernel
theorem dX9_toy_19 : decode cX9_toy 19 = .ok (.putfield 68, 3) := by decide +kernel
theorem dX9_toy_22 : decode cX9_toy 22 = .ok (.iconst 0, 1) := by decide +kernel
theorem dX9_toy_23 : decode cX9_toy 23 = .ok (.istore_n 2, 1) := by decide +kernel
theorem dX9_toy_24 : decode cX9_toy 24 = .ok (.iload_n 2, 1) := by decide +kernel
theorem dX9_toy_25 : decode cX9_toy 25 = .ok (.iload_n 1, 1) := by decide +kernel
theorem dX9_toy_26 : decode cX9_toy 26 = .ok (.if_icmp .ge 62, 3) := by decide +kernel
theorem dX9_toy_29 : decode cX9_toy 29 = .ok (.aload_n 0, 1) := by decide +kernel
theorem dX9_toy_30 : decode cX9_toy 30 = .ok (.iload_n 2, 1) := by decide +kernel
theorem dX9_toy_31 : decode cX9_toy 31 = .ok (.aload_n 0, 1) := by decide +kernel
theorem dX9_toy_32 : decode cX9_toy 32 = .ok (.getfield 25, 3) := by decide +kernel
theorem dX9_toy_35 : decode cX9_toy 35 = .ok (.iconst 5, 1) := by decide +kernel
theorem dX9_toy_36 : decode cX9_toy 36 = .ok (.iload_n 2, 1) := by decide +kernel
theorem dX9_toy_37 : decode cX9_toy 37 = .ok (.imul, 1) := by decide +kernel
theorem dX9_toy_38 : decode cX9_toy 38 = .ok (.iaload, 1) := by decide +kernel
theorem dX9_toy_39 : decode cX9_toy 39 = .ok (.aload_n 0, 1) := by decide +kernel
theorem dX9_toy_40 : decode cX9_toy 40 = .ok (.getfield 25, 3) := by decide +kernel
theorem dX9_toy_43 : decode cX9_toy 43 = .ok (.iconst 5, 1) := by decide +kernel
theorem dX9_toy_44 : decode cX9_toy 44 = .ok (.iload_n 2, 1) := by decide +kernel
theorem dX9_toy_45 : decode cX9_toy 45 = .ok (.imul, 1) := by decide +kernel
theorem dX9_toy_46 : decode cX9_toy 46 = .ok (.iconst 1, 1) := by decide +kernel
theorem dX9_toy_47 : decode cX9_toy 47 = .ok (.iadd, 1) := by decide +kernel
theorem dX9_toy_48 : decode cX9_toy 48 = .ok (.iaload, 1) := by decide +kernel
theorem dX9_toy_49 : decode cX9_toy 49 = .ok (.aload_n 0, 1) := by decide +kernel
theorem dX9_toy_50 : decode cX9_toy 50 = .ok (.getfield 25, 3) := by decide +kernel
theorem dX9_toy_53 : decode cX9_toy 53 = .ok (.iconst 5, 1) := by decide +kernel
theorem dX9_toy_54 : decode cX9_toy 54 = .ok (.iload_n 2, 1) := by decide +kernel
theorem dX9_toy_55 : decode cX9_toy 55 = .ok (.imul, 1) := by decide +kernel
theorem dX9_toy_56 : decode cX9_toy 56 = .ok (.iconst 2, 1) := by decide +kernel
theorem dX9_toy_57 : decode cX9_toy 57 = .ok (.iadd, 1) := by decide +kernel
theorem dX9_toy_58 : decode cX9_toy 58 = .ok (.iaload, 1) := by decide +kernel
theorem dX9_toy_59 : decode cX9_toy 59 = .ok (.aload_n 0, 1) := by decide +kernel
theorem dX9_toy_60 : decode cX9_toy 60 = .ok (.getfield 25, 3) := by decide +kernel
theorem dX9_toy_63 : decode cX9_toy 63 = .ok (.iconst 5, 1) := by decide +kernel
theorem dX9_toy_64 : decode cX9_toy 64 = .ok (.iload_n 2, 1) := by decide +kernel
theorem dX9_toy_65 : decode cX9_toy 65 = .ok (.imul, 1) := by decide +kernel
theorem dX9_toy_66 : decode cX9_toy 66 = .ok (.iconst 3, 1) := by decide +kernel
theorem dX9_toy_67 : decode cX9_toy 67 = .ok (.iadd, 1) := by decide +kernel
theorem dX9_toy_68 : decode cX9_toy 68 = .ok (.iaload, 1) := by decide +kernel
theorem dX9_toy_69 : decode cX9_toy 69 = .ok (.aload_n 0, 1) := by decide +kernel
theorem dX9_toy_70 : decode cX9_toy 70 = .ok (.getfield 25, 3) := by decide +kernel
theorem dX9_toy_73 : decode cX9_toy 73 = .ok (.iconst 5, 1) := by decide +kernel
theorem dX9_toy_74 : decode cX9_toy 74 = .ok (.iload_n 2, 1) := by decide +kernel
theorem dX9_toy_75 : decode cX9_toy 75 = .ok (.imul, 1) := by decide +kernel
theorem dX9_toy_76 : decode cX9_toy 76 = .ok (.iconst 4, 1) := by decide +kernel
theorem dX9_toy_77 : decode cX9_toy 77 = .ok (.iadd, 1) := by decide +kernel
theorem dX9_toy_78 : decode cX9_toy 78 = .ok (.iaload, 1) := by decide +kernel
theorem dX9_toy_79 : decode cX9_toy 79 = .ok (.invokevirtual 91, 3) := by decide +kernel
theorem dX9_toy_82 : decode cX9_toy 82 = .ok (.iinc 2 1, 3) := by decide +kernel
theorem dX9_toy_85 : decode cX9_toy 85 = .ok (.goto (-61), 3) := by decide +kernel
theorem dX9_toy_88 : decode cX9_toy 88 = .ok (.iload_n 1, 1) := by decide +kernel
theorem dX9_toy_89 : decode cX9_toy 89 = .ok (.ireturn, 1) := by decide +kernel
theorem dX9_pulls_0 : decode cX9_pulls 0 = .ok (.aload_n 0, 1) := by decide +kernel
theorem dX9_pulls_1 : decode cX9_pulls 1 = .ok (.iconst 0, 1) := by decide +kernel
theorem dX9_pulls_2 : decode cX9_pulls 2 = .ok (.invokevirtual 153, 3) := by decide +kernel
theorem dX9_pulls_5 : decode cX9_pulls 5 = .ok (.istore_n 1, 1) := by decide +kernel
theorem dX9_pulls_6 : decode cX9_pulls 6 = .ok (.aload_n 0, 1) := by decide +kernel
theorem dX9_pulls_7 : decode cX9_pulls 7 = .ok (.iload_n 1, 1) := by decide +kernel
theorem dX9_pulls_8 : decode cX9_pulls 8 = .ok (.ifCond .le 7, 3) := by decide +kernel
theorem dX9_pulls_11 : decode cX9_pulls 11 = .ok (.iload_n 1, 1) := by decide +kernel
theorem dX9_pulls_12 : decode cX9_pulls 12 = .ok (.goto 7, 3) := by decide +kernel
theorem dX9_pulls_15 : decode cX9_pulls 15 = .ok (.aload_n 0, 1) := by decide +kernel
theorem dX9_pulls_16 : decode cX9_pulls 16 = .ok (.getfield 100, 3) := by decide +kernel
theorem dX9_pulls_19 : decode cX9_pulls 19 = .ok (.putfield 100, 3) := by decide +kernel
theorem dX9_pulls_22 : decode cX9_pulls 22 = .ok (.iconst 0, 1) := by decide +kernel
theorem dX9_pulls_23 : decode cX9_pulls 23 = .ok (.istore_n 2, 1) := by decide +kernel
theorem dX9_pulls_24 : decode cX9_pulls 24 = .ok (.iload_n 2, 1) := by decide +kernel
theorem dX9_pulls_25 : decode cX9_pulls 25 = .ok (.iload_n 1, 1) := by decide +kernel
theorem dX9_pulls_26 : decode cX9_pulls 26 = .ok (.if_icmp .ge 42, 3) := by decide +kernel
theorem dX9_pulls_29 : decode cX9_pulls 29 = .ok (.aload_n 0, 1) := by decide +kernel
theorem dX9_pulls_30 : decode cX9_pulls 30 = .ok (.iload_n 2, 1) := by decide +kernel
theorem dX9_pulls_31 : decode cX9_pulls 31 = .ok (.aload_n 0, 1) := by decide +kernel
theorem dX9_pulls_32 : decode cX9_pulls 32 = .ok (.getfield 25, 3) := by decide +kernel
theorem dX9_pulls_35 : decode cX9_pulls 35 = .ok (.iconst 3, 1) := by decide +kernel
theorem dX9_pulls_36 : decode cX9_pulls 36 = .ok (.iload_n 2, 1) := by decide +kernel
theorem dX9_pulls_37 : decode cX9_pulls 37 = .ok (.imul, 1) := by decide +kernel
theorem dX9_pulls_38 : decode cX9_pulls 38 = .ok (.iaload, 1) := by decide +kernel
theorem dX9_pulls_39 : decode cX9_pulls 39 = .ok (.aload_n 0, 1) := by decide +kernel
theorem dX9_pulls_40 : decode cX9_pulls 40 = .ok (.getfield 25, 3) := by decide +kernel
theorem dX9_pulls_43 : decode cX9_pulls 43 = .ok (.iconst 3, 1) := by decide +kernel
