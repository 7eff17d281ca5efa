theorem dX9_cord_56 : decode cX9_cord 56 = .ok (.getfield 7, 3) := by decide +kernel
theorem dX9_cord_59 : decode cX9_cord 59 = .ok (.iconst 0, 1) := by decide +kernel
theorem dX9_cord_60 : decode cX9_cord 60 = .ok (.iload 6, 2) := by decide +kernel
theorem dX9_cord_62 : decode cX9_cord 62 = .ok (.iastore, 1) := by decide +kernel
theorem dX9_cord_63 : decode cX9_cord 63 = .ok (.aload_n 0, 1) := by decide +kernel
theorem dX9_cord_64 : decode cX9_cord 64 = .ok (.iload_n 1, 1) := by decide +kernel
theorem dX9_cord_65 : decode cX9_cord 65 = .ok (.invokevirtual 244, 3) := by decide +kernel
theorem dX9_cord_68 : decode cX9_cord 68 = .ok (.istore 7, 2) := by decide +kernel
theorem dX9_cord_70 : decode cX9_cord 70 = .ok (.iload 7, 2) := by decide +kernel
theorem dX9_cord_72 : decode cX9_cord 72 = .ok (.iload 5, 2) := by decide +kernel
theorem dX9_cord_74 : decode cX9_cord 74 = .ok (.if_icmp .le 8, 3) := by decide +kernel
theorem dX9_cord_77 : decode cX9_cord 77 = .ok (.iload 6, 2) := by decide +kernel
theorem dX9_cord_79 : decode cX9_cord 79 = .ok (.goto 5, 3) := by decide +kernel
theorem dX9_cord_82 : decode cX9_cord 82 = .ok (.iload 4, 2) := by decide +kernel
theorem dX9_cord_84 : decode cX9_cord 84 = .ok (.istore 4, 2) := by decide +kernel
theorem dX9_cord_86 : decode cX9_cord 86 = .ok (.iload 7, 2) := by decide +kernel
theorem dX9_cord_88 : decode cX9_cord 88 = .ok (.iload 5, 2) := by decide +kernel
theorem dX9_cord_90 : decode cX9_cord 90 = .ok (.if_icmp .le 8, 3) := by decide +kernel
theorem dX9_cord_93 : decode cX9_cord 93 = .ok (.iload 7, 2) := by decide +kernel
theorem dX9_cord_95 : decode cX9_cord 95 = .ok (.goto 5, 3) := by decide +kernel
theorem dX9_cord_98 : decode cX9_cord 98 = .ok (.iload 5, 2) := by decide +kernel
theorem dX9_cord_100 : decode cX9_cord 100 = .ok (.istore 5, 2) := by decide +kernel
theorem dX9_cord_102 : decode cX9_cord 102 = .ok (.iinc 6 1, 3) := by decide +kernel
theorem dX9_cord_105 : decode cX9_cord 105 = .ok (.goto (-57), 3) := by decide +kernel
theorem dX9_cord_108 : decode cX9_cord 108 = .ok (.aload_n 0, 1) := by decide +kernel
theorem dX9_cord_109 : decode cX9_cord 109 = .ok (.getfield 7, 3) := by decide +kernel
theorem dX9_cord_112 : decode cX9_cord 112 = .ok (.iconst 0, 1) := by decide +kernel
theorem dX9_cord_113 : decode cX9_cord 113 = .ok (.iload_n 3, 1) := by decide +kernel
theorem dX9_cord_114 : decode cX9_cord 114 = .ok (.iastore, 1) := by decide +kernel
theorem dX9_cord_115 : decode cX9_cord 115 = .ok (.iload_n 2, 1) := by decide +kernel
theorem dX9_cord_116 : decode cX9_cord 116 = .ok (.ifCond .ne 8, 3) := by decide +kernel
theorem dX9_cord_119 : decode cX9_cord 119 = .ok (.iload 4, 2) := by decide +kernel
theorem dX9_cord_121 : decode cX9_cord 121 = .ok (.goto 5, 3) := by decide +kernel
theorem dX9_cord_124 : decode cX9_cord 124 = .ok (.iload 5, 2) := by decide +kernel
theorem dX9_cord_126 : decode cX9_cord 126 = .ok (.ireturn, 1) := by decide +kernel
theorem dX9_down_0 : decode cX9_down 0 = .ok (.iload_n 1, 1) := by decide +kernel
theorem dX9_down_1 : decode cX9_down 1 = .ok (.i2l, 1) := by decide +kernel
theorem dX9_down_2 : decode cX9_down 2 = .ok (.lconst 0, 1) := by decide +kernel
theorem dX9_down_3 : decode cX9_down 3 = .ok (.ldc2_w 89, 3) := by decide +kernel
theorem dX9_down_6 : decode cX9_down 6 = .ok (.invokestatic 71, 3) := by decide +kernel
theorem dX9_down_9 : decode cX9_down 9 = .ok (.ifCond .eq 15, 3) := by decide +kernel
theorem dX9_down_12 : decode cX9_down 12 = .ok (.iload_n 2, 1) := by decide +kernel
theorem dX9_down_13 : decode cX9_down 13 = .ok (.i2l, 1) := by decide +kernel
theorem dX9_down_14 : decode cX9_down 14 = .ok (.lconst 0, 1) := by decide +kernel
theorem dX9_down_15 : decode cX9_down 15 = .ok (.ldc2_w 89, 3) := by decide +kernel
theorem dX9_down_18 : decode cX9_down 18 = .ok (.invokestatic 71, 3) := by decide +kernel
theorem dX9_down_21 : decode cX9_down 21 = .ok (.ifCond .ne 5, 3) := by decide +kernel
theorem dX9_down_24 : decode cX9_down 24 = .ok (.iconst (-1), 1) := by decide +kernel
theorem dX9_down_25 : decode cX9_down 25 = .ok (.ireturn, 1) := by decide +kernel
theorem dX9_down_26 : decode cX9_down 26 = .ok (.aload_n 0, 1) := by decide +kernel
theorem dX9_down_27 : decode cX9_down 27 = .ok (.iconst 1, 1) := by decide +kernel
theorem dX9_down_28 : decode cX9_down 28 = .ok (.putfield 194, 3) := by decide +kernel
theorem dX9_down_31 : decode cX9_down 31 = .ok (.aload_n 0, 1) := by decide +kernel
theorem dX9_down_32 : decode cX9_down 32 = .ok (.invokevirtual 222, 3) := by decide +kernel
theorem dX9_down_35 : decode cX9_down 35 = .ok (.aload_n 0, 1) := by decide +kernel
theorem dX9_down_36 : decode cX9_down 36 = .ok (.iconst 0, 1) := by decide +kernel
theorem dX9_down_37 : decode cX9_down 37 = .ok (.putfield 194, 3) := by decide +kernel
theorem dX9_down_40 : decode cX9_down 40 = .ok (.bipush (-4), 2) := by decide +kernel
theorem dX9_down_42 : decode cX9_down 42 = .ok (.istore_n 3, 1) := by decide +kernel
theorem dX9_down_43 : decode cX9_down 43 = .ok (.bipush 99, 2) := by decide +kernel
theorem dX9_down_45 : decode cX9_down 45 = .ok (.istore 4, 2) := by decide +kernel
theorem dX9_down_47 : decode cX9_down 47 = .ok (.iload 4, 2) := by decide +kernel
theorem dX9_down_49 : decode cX9_down 49 = .ok (.iload_n 1, 1) := by decide +kernel
theorem dX9_down_50 : decode cX9_down 50 = .ok (.if_icmp .lt 70, 3) := by decide +kernel
theorem dX9_down_53 : decode cX9_down 53 = .ok (.aload_n 0, 1) := by decide +kernel
theorem dX9_down_54 : decode cX9_down 54 = .ok (.getfield 28, 3) := by decide +kernel
theorem dX9_down_57 : decode cX9_down 57 = .ok (.bipush 9, 2) := by decide +kernel
theorem dX9_down_59 : decode cX9_down 59 = .ok (.iload 4, 2) := by decide +kernel
theorem dX9_down_61 : decode cX9_down 61 = .ok (.imul, 1) := by decide +kernel
theorem dX9_down_62 : decode cX9_down 62 = .ok (.iconst 2, 1) := by decide +kernel
theorem dX9_down_63 : decode cX9_down 63 = .ok (.iadd, 1) := by decide +kernel
theorem dX9_down_64 : decode cX9_down 64 = .ok (.iaload, 1) := by decide +kernel
theorem dX9_down_65 : decode cX9_down 65 = .ok (.aload_n 0, 1) := by decide +kernel
theorem dX9_down_66 : decode cX9_down 66 = .ok (.getfield 31, 3) := by decide +kernel
theorem dX9_down_69 : decode cX9_down 69 = .ok (.iload 4, 2) := by decide +kernel
theorem dX9_down_71 : decode cX9_down 71 = .ok (.iaload, 1) := by decide +kernel
theorem dX9_down_72 : decode cX9_down 72 = .ok (.isub, 1) := by decide +kernel
theorem dX9_down_73 : decode cX9_down 73 = .ok (.invokestatic 197, 3) := by decide +kernel
theorem dX9_down_76 : decode cX9_down 76 = .ok (.iload_n 2, 1) := by decide +kernel
theorem dX9_down_77 : decode cX9_down 77 = .ok (.if_icmp .gt 35, 3) := by decide +kernel
theorem dX9_down_80 : decode cX9_down 80 = .ok (.aload_n 0, 1) := by decide +kernel
theorem dX9_down_81 : decode cX9_down 81 = .ok (.getfield 28, 3) := by decide +kernel
theorem dX9_down_84 : decode cX9_down 84 = .ok (.bipush 9, 2) := by decide +kernel
theorem dX9_down_86 : decode cX9_down 86 = .ok (.iload 4, 2) := by decide +kernel
theorem dX9_down_88 : decode cX9_down 88 = .ok (.imul, 1) := by decide +kernel
theorem dX9_down_89 : decode cX9_down 89 = .ok (.iconst 3, 1) := by decide +kernel
theorem dX9_down_90 : decode cX9_down 90 = .ok (.iadd, 1) := by decide +kernel
theorem dX9_down_91 : decode cX9_down 91 = .ok (.iaload, 1) := by decide +kernel
theorem dX9_down_92 : decode cX9_down 92 = .ok (.aload_n 0, 1) := by decide +kernel
theorem dX9_down_93 : decode cX9_down 93 = .ok (.getfield 34, 3) := by decide +kernel
theorem dX9_down_96 : decode cX9_down 96 = .ok (.iload 4, 2) := by decide +kernel
theorem dX9_down_98 : decode cX9_down 98 = .ok (.iaload, 1) := by decide +kernel
theorem dX9_down_99 : decode cX9_down 99 = .ok (.isub, 1) := by decide +kernel
theorem dX9_down_100 : decode cX9_down 100 = .ok (.invokestatic 197, 3) := by decide +kernel
theorem dX9_down_103 : decode cX9_down 103 = .ok (.iload_n 2, 1) := by decide +kernel
theorem dX9_down_104 : decode cX9_down 104 = .ok (.if_icmp .gt 8, 3) := by decide +kernel
theorem dX9_down_107 : decode cX9_down 107 = .ok (.iload 4, 2) := by decide +kernel
theorem dX9_down_109 : decode cX9_down 109 = .ok (.goto 4, 3) := by decide +kernel
theorem dX9_down_112 : decode cX9_down 112 = .ok (.iload_n 3, 1) := by decide +kernel
theorem dX9_down_113 : decode cX9_down 113 = .ok (.istore_n 3, 1) := by decide +kernel
theorem dX9_down_114 : decode cX9_down 114 = .ok (.iinc 4 (-1), 3) := by decide +kernel
theorem dX9_down_117 : decode cX9_down 117 = .ok (.goto (-70), 3) := by decide +kernel
theorem dX9_down_120 : decode cX9_down 120 = .ok (.iload_n 3, 1) := by decide +kernel
theorem dX9_down_121 : decode cX9_down 121 = .ok (.ireturn, 1) := by decide +kernel
theorem dX9_filmed_0 : decode cX9_filmed 0 = .ok (.iload_n 1, 1) := by decide +kernel
theorem dX9_filmed_1 : decode cX9_filmed 1 = .ok (.invokestatic 253, 3) := by decide +kernel
theorem dX9_filmed_4 : decode cX9_filmed 4 = .ok (.ifCond .eq 36, 3) := by decide +kernel
theorem dX9_filmed_7 : decode cX9_filmed 7 = .ok (.iload_n 2, 1) := by decide +kernel
theorem dX9_filmed_8 : decode cX9_filmed 8 = .ok (.invokestatic 256, 3) := by decide +kernel
theorem dX9_filmed_11 : decode cX9_filmed 11 = .ok (.ifCond .eq 29, 3) := by decide +kernel
theorem dX9_filmed_14 : decode cX9_filmed 14 = .ok (.iload 4, 2) := by decide +kernel
theorem dX9_filmed_16 : decode cX9_filmed 16 = .ok (.i2l, 1) := by decide +kernel
theorem dX9_filmed_17 : decode cX9_filmed 17 = .ok (.lconst 1, 1) := by decide +kernel
theorem dX9_filmed_18 : decode cX9_filmed 18 = .ok (.ldc2_w 259, 3) := by decide +kernel
theorem dX9_filmed_21 : decode cX9_filmed 21 = .ok (.invokestatic 71, 3) := by decide +kernel
theorem dX9_filmed_24 : decode cX9_filmed 24 = .ok (.ifCond .eq 16, 3) := by decide +kernel
theorem dX9_filmed_27 : decode cX9_filmed 27 = .ok (.iload 5, 2) := by decide +kernel
theorem dX9_filmed_29 : decode cX9_filmed 29 = .ok (.i2l, 1) := by decide +kernel
theorem dX9_filmed_30 : decode cX9_filmed 30 = .ok (.lconst 0, 1) := by decide +kernel
theorem dX9_filmed_31 : decode cX9_filmed 31 = .ok (.ldc2_w 75, 3) := by decide +kernel
theorem dX9_filmed_34 : decode cX9_filmed 34 = .ok (.invokestatic 71, 3) := by decide +kernel
theorem dX9_filmed_37 : decode cX9_filmed 37 = .ok (.ifCond .ne 6, 3) := by decide +kernel
theorem dX9_filmed_40 : decode cX9_filmed 40 = .ok (.ldc 99, 2) := by decide +kernel
theorem dX9_filmed_42 : decode cX9_filmed 42 = .ok (.ireturn, 1) := by decide +kernel
theorem dX9_filmed_43 : decode cX9_filmed 43 = .ok (.aload_n 0, 1) := by decide +kernel
theorem dX9_filmed_44 : decode cX9_filmed 44 = .ok (.iload_n 1, 1) := by decide +kernel
theorem dX9_filmed_45 : decode cX9_filmed 45 = .ok (.iload_n 2, 1) := by decide +kernel
theorem dX9_filmed_46 : decode cX9_filmed 46 = .ok (.iload_n 3, 1) := by decide +kernel
theorem dX9_filmed_47 : decode cX9_filmed 47 = .ok (.iconst 2, 1) := by decide +kernel
theorem dX9_filmed_48 : decode cX9_filmed 48 = .ok (.iload 4, 2) := by decide +kernel
theorem dX9_filmed_50 : decode cX9_filmed 50 = .ok (.imul, 1) := by decide +kernel
theorem dX9_filmed_51 : decode cX9_filmed 51 = .ok (.invokevirtual 261, 3) := by decide +kernel
theorem dX9_filmed_54 : decode cX9_filmed 54 = .ok (.istore 6, 2) := by decide +kernel
theorem dX9_filmed_56 : decode cX9_filmed 56 = .ok (.iload 6, 2) := by decide +kernel
theorem dX9_filmed_58 : decode cX9_filmed 58 = .ok (.ifCond .ge 10, 3) := by decide +kernel
theorem dX9_filmed_61 : decode cX9_filmed 61 = .ok (.iload 6, 2) := by decide +kernel
theorem dX9_filmed_63 : decode cX9_filmed 63 = .ok (.ldc_w 265, 3) := by decide +kernel
theorem dX9_filmed_66 : decode cX9_filmed 66 = .ok (.isub, 1) := by decide +kernel
theorem dX9_filmed_67 : decode cX9_filmed 67 = .ok (.ireturn, 1) := by decide +kernel
theorem dX9_filmed_68 : decode cX9_filmed 68 = .ok (.aload_n 0, 1) := by decide +kernel
theorem dX9_filmed_69 : decode cX9_filmed 69 = .ok (.getfield 100, 3) := by decide +kernel
theorem dX9_filmed_72 : decode cX9_filmed 72 = .ok (.ifCond .ne 6, 3) := by decide +kernel
theorem dX9_filmed_75 : decode cX9_filmed 75 = .ok (.ldc 238, 2) := by decide +kernel
theorem dX9_filmed_77 : decode cX9_filmed 77 = .ok (.ireturn, 1) := by decide +kernel
theorem dX9_filmed_78 : decode cX9_filmed 78 = .ok (.iconst 0, 1) := by decide +kernel
theorem dX9_filmed_79 : decode cX9_filmed 79 = .ok (.istore 7, 2) := by decide +kernel
theorem dX9_filmed_81 : decode cX9_filmed 81 = .ok (.bipush (-4), 2) := by decide +kernel
theorem dX9_filmed_83 : decode cX9_filmed 83 = .ok (.istore 8, 2) := by decide +kernel
theorem dX9_filmed_85 : decode cX9_filmed 85 = .ok (.bipush 89, 2) := by decide +kernel
theorem dX9_filmed_87 : decode cX9_filmed 87 = .ok (.istore 9, 2) := by decide +kernel
theorem dX9_filmed_89 : decode cX9_filmed 89 = .ok (.iload 9, 2) := by decide +kernel
theorem dX9_filmed_91 : decode cX9_filmed 91 = .ok (.ifCond .lt 148, 3) := by decide +kernel
theorem dX9_filmed_94 : decode cX9_filmed 94 = .ok (.aload_n 0, 1) := by decide +kernel
theorem dX9_filmed_95 : decode cX9_filmed 95 = .ok (.iload 9, 2) := by decide +kernel
theorem dX9_filmed_97 : decode cX9_filmed 97 = .ok (.bipush 10, 2) := by decide +kernel
theorem dX9_filmed_99 : decode cX9_filmed 99 = .ok (.idiv, 1) := by decide +kernel
theorem dX9_filmed_100 : decode cX9_filmed 100 = .ok (.iconst 4, 1) := by decide +kernel
theorem dX9_filmed_101 : decode cX9_filmed 101 = .ok (.isub, 1) := by decide +kernel
theorem dX9_filmed_102 : decode cX9_filmed 102 = .ok (.iload 9, 2) := by decide +kernel
theorem dX9_filmed_104 : decode cX9_filmed 104 = .ok (.bipush 10, 2) := by decide +kernel
theorem dX9_filmed_106 : decode cX9_filmed 106 = .ok (.irem, 1) := by decide +kernel
theorem dX9_filmed_107 : decode cX9_filmed 107 = .ok (.invokevirtual 227, 3) := by decide +kernel
theorem dX9_filmed_110 : decode cX9_filmed 110 = .ok (.pop, 1) := by decide +kernel
theorem dX9_filmed_111 : decode cX9_filmed 111 = .ok (.iconst 1, 1) := by decide +kernel
theorem dX9_filmed_112 : decode cX9_filmed 112 = .ok (.istore 10, 2) := by decide +kernel
theorem dX9_filmed_114 : decode cX9_filmed 114 = .ok (.iconst 0, 1) := by decide +kernel
theorem dX9_filmed_115 : decode cX9_filmed 115 = .ok (.istore 11, 2) := by decide +kernel
theorem dX9_filmed_117 : decode cX9_filmed 117 = .ok (.iload 11, 2) := by decide +kernel
theorem dX9_filmed_119 : decode cX9_filmed 119 = .ok (.iload 4, 2) := by decide +kernel
theorem dX9_filmed_121 : decode cX9_filmed 121 = .ok (.if_icmp .ge 83, 3) := by decide +kernel
theorem dX9_filmed_124 : decode cX9_filmed 124 = .ok (.iload 10, 2) := by decide +kernel
theorem dX9_filmed_126 : decode cX9_filmed 126 = .ok (.ifCond .eq 69, 3) := by decide +kernel
theorem dX9_filmed_129 : decode cX9_filmed 129 = .ok (.aload_n 0, 1) := by decide +kernel
theorem dX9_filmed_130 : decode cX9_filmed 130 = .ok (.getfield 62, 3) := by decide +kernel
theorem dX9_filmed_133 : decode cX9_filmed 133 = .ok (.bipush 24, 2) := by decide +kernel
theorem dX9_filmed_135 : decode cX9_filmed 135 = .ok (.iload_n 1, 1) := by decide +kernel
theorem dX9_filmed_136 : decode cX9_filmed 136 = .ok (.imul, 1) := by decide +kernel
theorem dX9_filmed_137 : decode cX9_filmed 137 = .ok (.iload_n 3, 1) := by decide +kernel
theorem dX9_filmed_138 : decode cX9_filmed 138 = .ok (.iadd, 1) := by decide +kernel
theorem dX9_filmed_139 : decode cX9_filmed 139 = .ok (.iconst 2, 1) := by decide +kernel
theorem dX9_filmed_140 : decode cX9_filmed 140 = .ok (.iload 11, 2) := by decide +kernel
theorem dX9_filmed_142 : decode cX9_filmed 142 = .ok (.imul, 1) := by decide +kernel
theorem dX9_filmed_143 : decode cX9_filmed 143 = .ok (.iadd, 1) := by decide +kernel
theorem dX9_filmed_144 : decode cX9_filmed 144 = .ok (.iaload, 1) := by decide +kernel
theorem dX9_filmed_145 : decode cX9_filmed 145 = .ok (.aload_n 0, 1) := by decide +kernel
theorem dX9_filmed_146 : decode cX9_filmed 146 = .ok (.getfield 28, 3) := by decide +kernel
theorem dX9_filmed_149 : decode cX9_filmed 149 = .ok (.bipush 9, 2) := by decide +kernel
theorem dX9_filmed_151 : decode cX9_filmed 151 = .ok (.iload 11, 2) := by decide +kernel
theorem dX9_filmed_153 : decode cX9_filmed 153 = .ok (.imul, 1) := by decide +kernel
theorem dX9_filmed_154 : decode cX9_filmed 154 = .ok (.iaload, 1) := by decide +kernel
theorem dX9_filmed_155 : decode cX9_filmed 155 = .ok (.if_icmp .ne 40, 3) := by decide +kernel
theorem dX9_filmed_158 : decode cX9_filmed 158 = .ok (.aload_n 0, 1) := by decide +kernel
theorem dX9_filmed_159 : decode cX9_filmed 159 = .ok (.getfield 62, 3) := by decide +kernel
theorem dX9_filmed_162 : decode cX9_filmed 162 = .ok (.bipush 24, 2) := by decide +kernel
theorem dX9_filmed_164 : decode cX9_filmed 164 = .ok (.iload_n 1, 1) := by decide +kernel
theorem dX9_filmed_165 : decode cX9_filmed 165 = .ok (.imul, 1) := by decide +kernel
theorem dX9_filmed_166 : decode cX9_filmed 166 = .ok (.iload_n 3, 1) := by decide +kernel
theorem dX9_filmed_167 : decode cX9_filmed 167 = .ok (.iadd, 1) := by decide +kernel
theorem dX9_filmed_168 : decode cX9_filmed 168 = .ok (.iconst 2, 1) := by decide +kernel
theorem dX9_filmed_169 : decode cX9_filmed 169 = .ok (.iload 11, 2) := by decide +kernel
theorem dX9_filmed_171 : decode cX9_filmed 171 = .ok (.imul, 1) := by decide +kernel
theorem dX9_filmed_172 : decode cX9_filmed 172 = .ok (.iadd, 1) := by decide +kernel
theorem dX9_filmed_173 : decode cX9_filmed 173 = .ok (.iconst 1, 1) := by decide +kernel
theorem dX9_filmed_174 : decode cX9_filmed 174 = .ok (.iadd, 1) := by decide +kernel
theorem dX9_filmed_175 : decode cX9_filmed 175 = .ok (.iaload, 1) := by decide +kernel
theorem dX9_filmed_176 : decode cX9_filmed 176 = .ok (.aload_n 0, 1) := by decide +kernel
theorem dX9_filmed_177 : decode cX9_filmed 177 = .ok (.getfield 28, 3) := by decide +kernel
theorem dX9_filmed_180 : decode cX9_filmed 180 = .ok (.bipush 9, 2) := by decide +kernel
theorem dX9_filmed_182 : decode cX9_filmed 182 = .ok (.iload 11, 2) := by decide +kernel
theorem dX9_filmed_184 : decode cX9_filmed 184 = .ok (.imul, 1) := by decide +kernel
theorem dX9_filmed_185 : decode cX9_filmed 185 = .ok (.iconst 1, 1) := by decide +kernel
theorem dX9_filmed_186 : decode cX9_filmed 186 = .ok (.iadd, 1) := by decide +kernel
theorem dX9_filmed_187 : decode cX9_filmed 187 = .ok (.iaload, 1) := by decide +kernel
theorem dX9_filmed_188 : decode cX9_filmed 188 = .ok (.if_icmp .ne 7, 3) := by decide +kernel
theorem dX9_filmed_191 : decode cX9_filmed 191 = .ok (.iconst 1, 1) := by decide +kernel
theorem dX9_filmed_192 : decode cX9_filmed 192 = .ok (.goto 4, 3) := by decide +kernel
theorem dX9_filmed_195 : decode cX9_filmed 195 = .ok (.iconst 0, 1) := by decide +kernel
theorem dX9_filmed_196 : decode cX9_filmed 196 = .ok (.istore 10, 2) := by decide +kernel
theorem dX9_filmed_198 : decode cX9_filmed 198 = .ok (.iinc 11 1, 3) := by decide +kernel
theorem dX9_filmed_201 : decode cX9_filmed 201 = .ok (.goto (-84), 3) := by decide +kernel
theorem dX9_filmed_204 : decode cX9_filmed 204 = .ok (.iload 7, 2) := by decide +kernel
theorem dX9_filmed_206 : decode cX9_filmed 206 = .ok (.iload 10, 2) := by decide +kernel
theorem dX9_filmed_208 : decode cX9_filmed 208 = .ok (.ifCond .eq 7, 3) := by decide +kernel
theorem dX9_filmed_211 : decode cX9_filmed 211 = .ok (.iconst 1, 1) := by decide +kernel
theorem dX9_filmed_212 : decode cX9_filmed 212 = .ok (.goto 4, 3) := by decide +kernel
theorem dX9_filmed_215 : decode cX9_filmed 215 = .ok (.iconst 0, 1) := by decide +kernel
theorem dX9_filmed_216 : decode cX9_filmed 216 = .ok (.iadd, 1) := by decide +kernel
theorem dX9_filmed_217 : decode cX9_filmed 217 = .ok (.istore 7, 2) := by decide +kernel
theorem dX9_filmed_219 : decode cX9_filmed 219 = .ok (.iload 10, 2) := by decide +kernel
theorem dX9_filmed_221 : decode cX9_filmed 221 = .ok (.ifCond .eq 8, 3) := by decide +kernel
theorem dX9_filmed_224 : decode cX9_filmed 224 = .ok (.iload 9, 2) := by decide +kernel
theorem dX9_filmed_226 : decode cX9_filmed 226 = .ok (.goto 5, 3) := by decide +kernel
theorem dX9_filmed_229 : decode cX9_filmed 229 = .ok (.iload 8, 2) := by decide +kernel
theorem dX9_filmed_231 : decode cX9_filmed 231 = .ok (.istore 8, 2) := by decide +kernel
theorem dX9_filmed_233 : decode cX9_filmed 233 = .ok (.iinc 9 (-1), 3) := by decide +kernel
theorem dX9_filmed_236 : decode cX9_filmed 236 = .ok (.goto (-147), 3) := by decide +kernel
theorem dX9_filmed_239 : decode cX9_filmed 239 = .ok (.iload 5, 2) := by decide +kernel
theorem dX9_filmed_241 : decode cX9_filmed 241 = .ok (.ifCond .ne 8, 3) := by decide +kernel
theorem dX9_filmed_244 : decode cX9_filmed 244 = .ok (.iload 7, 2) := by decide +kernel
theorem dX9_filmed_246 : decode cX9_filmed 246 = .ok (.goto 34, 3) := by decide +kernel
theorem dX9_filmed_249 : decode cX9_filmed 249 = .ok (.iload 8, 2) := by decide +kernel
theorem dX9_filmed_251 : decode cX9_filmed 251 = .ok (.ifCond .ge 8, 3) := by decide +kernel
theorem dX9_filmed_254 : decode cX9_filmed 254 = .ok (.ldc 243, 2) := by decide +kernel
theorem dX9_filmed_256 : decode cX9_filmed 256 = .ok (.goto 24, 3) := by decide +kernel
theorem dX9_filmed_259 : decode cX9_filmed 259 = .ok (.iload 5, 2) := by decide +kernel
theorem dX9_filmed_261 : decode cX9_filmed 261 = .ok (.iconst 1, 1) := by decide +kernel
theorem dX9_filmed_262 : decode cX9_filmed 262 = .ok (.if_icmp .ne 13, 3) := by decide +kernel
theorem dX9_filmed_265 : decode cX9_filmed 265 = .ok (.iload 8, 2) := by decide +kernel
theorem dX9_filmed_267 : decode cX9_filmed 267 = .ok (.bipush 10, 2) := by decide +kernel
theorem dX9_filmed_269 : decode cX9_filmed 269 = .ok (.idiv, 1) := by decide +kernel
theorem dX9_filmed_270 : decode cX9_filmed 270 = .ok (.iconst 4, 1) := by decide +kernel
theorem dX9_filmed_271 : decode cX9_filmed 271 = .ok (.isub, 1) := by decide +kernel
theorem dX9_filmed_272 : decode cX9_filmed 272 = .ok (.goto 8, 3) := by decide +kernel
theorem dX9_filmed_275 : decode cX9_filmed 275 = .ok (.iload 8, 2) := by decide +kernel
theorem dX9_filmed_277 : decode cX9_filmed 277 = .ok (.bipush 10, 2) := by decide +kernel
theorem dX9_filmed_279 : decode cX9_filmed 279 = .ok (.irem, 1) := by decide +kernel
theorem dX9_filmed_280 : decode cX9_filmed 280 = .ok (.ireturn, 1) := by decide +kernel
theorem dX9_saves_0 : decode cX9_saves 0 = .ok (.iconst 0, 1) := by decide +kernel
theorem dX9_saves_1 : decode cX9_saves 1 = .ok (.istore_n 3, 1) := by decide +kernel
theorem dX9_saves_2 : decode cX9_saves 2 = .ok (.iload_n 3, 1) := by decide +kernel
theorem dX9_saves_3 : decode cX9_saves 3 = .ok (.aload_n 0, 1) := by decide +kernel
theorem dX9_saves_4 : decode cX9_saves 4 = .ok (.arraylength, 1) := by decide +kernel
theorem dX9_saves_5 : decode cX9_saves 5 = .ok (.if_icmp .ge 17, 3) := by decide +kernel
theorem dX9_saves_8 : decode cX9_saves 8 = .ok (.aload_n 1, 1) := by decide +kernel
theorem dX9_saves_9 : decode cX9_saves 9 = .ok (.iload_n 2, 1) := by decide +kernel
theorem dX9_saves_10 : decode cX9_saves 10 = .ok (.iload_n 3, 1) := by decide +kernel
theorem dX9_saves_11 : decode cX9_saves 11 = .ok (.iadd, 1) := by decide +kernel
theorem dX9_saves_12 : decode cX9_saves 12 = .ok (.aload_n 0, 1) := by decide +kernel
theorem dX9_saves_13 : decode cX9_saves 13 = .ok (.iload_n 3, 1) := by decide +kernel
theorem dX9_saves_14 : decode cX9_saves 14 = .ok (.iaload, 1) := by decide +kernel
theorem dX9_saves_15 : decode cX9_saves 15 = .ok (.iastore, 1) := by decide +kernel
theorem dX9_saves_16 : decode cX9_saves 16 = .ok (.iinc 3 1, 3) := by decide +kernel
theorem dX9_saves_19 : decode cX9_saves 19 = .ok (.goto (-17), 3) := by decide +kernel
theorem dX9_saves_22 : decode cX9_saves 22 = .ok (.iload_n 2, 1) := by decide +kernel
theorem dX9_saves_23 : decode cX9_saves 23 = .ok (.aload_n 0, 1) := by decide +kernel
theorem dX9_saves_24 : decode cX9_saves 24 = .ok (.arraylength, 1) := by decide +kernel
theorem dX9_saves_25 : decode cX9_saves 25 = .ok (.iadd, 1) := by decide +kernel
theorem dX9_saves_26 : decode cX9_saves 26 = .ok (.ireturn, 1) := by decide +kernel
theorem dX9_gives_0 : decode cX9_gives 0 = .ok (.iconst 0, 1) := by decide +kernel
theorem dX9_gives_1 : decode cX9_gives 1 = .ok (.istore_n 3, 1) := by decide +kernel
theorem dX9_gives_2 : decode cX9_gives 2 = .ok (.iload_n 3, 1) := by decide +kernel
theorem dX9_gives_3 : decode cX9_gives 3 = .ok (.aload_n 2, 1) := by decide +kernel
theorem dX9_gives_4 : decode cX9_gives 4 = .ok (.arraylength, 1) := by decide +kernel
theorem dX9_gives_5 : decode cX9_gives 5 = .ok (.if_icmp .ge 17, 3) := by decide +kernel
theorem dX9_gives_8 : decode cX9_gives 8 = .ok (.aload_n 2, 1) := by decide +kernel
theorem dX9_gives_9 : decode cX9_gives 9 = .ok (.iload_n 3, 1) := by decide +kernel
theorem dX9_gives_10 : decode cX9_gives 10 = .ok (.aload_n 0, 1) := by decide +kernel
theorem dX9_gives_11 : decode cX9_gives 11 = .ok (.iload_n 1, 1) := by decide +kernel
theorem dX9_gives_12 : decode cX9_gives 12 = .ok (.iload_n 3, 1) := by decide +kernel
theorem dX9_gives_13 : decode cX9_gives 13 = .ok (.iadd, 1) := by decide +kernel
theorem dX9_gives_14 : decode cX9_gives 14 = .ok (.iaload, 1) := by decide +kernel
theorem dX9_gives_15 : decode cX9_gives 15 = .ok (.iastore, 1) := by decide +kernel
theorem dX9_gives_16 : decode cX9_gives 16 = .ok (.iinc 3 1, 3) := by decide +kernel
theorem dX9_gives_19 : decode cX9_gives 19 = .ok (.goto (-17), 3) := by decide +kernel
theorem dX9_gives_22 : decode cX9_gives 22 = .ok (.iload_n 1, 1) := by decide +kernel
theorem dX9_gives_23 : decode cX9_gives 23 = .ok (.aload_n 2, 1) := by decide +kernel
theorem dX9_gives_24 : decode cX9_gives 24 = .ok (.arraylength, 1) := by decide +kernel
theorem dX9_gives_25 : decode cX9_gives 25 = .ok (.iadd, 1) := by decide +kernel
theorem dX9_gives_26 : decode cX9_gives 26 = .ok (.ireturn, 1) := by decide +kernel
theorem dX9_image_0 : decode cX9_image 0 = .ok (.aload_n 0, 1) := by decide +kernel
theorem dX9_image_1 : decode cX9_image 1 = .ok (.getfield 7, 3) := by decide +kernel
theorem dX9_image_4 : decode cX9_image 4 = .ok (.aload_n 0, 1) := by decide +kernel
theorem dX9_image_5 : decode cX9_image 5 = .ok (.getfield 53, 3) := by decide +kernel
theorem dX9_image_8 : decode cX9_image 8 = .ok (.iconst 0, 1) := by decide +kernel
theorem dX9_image_9 : decode cX9_image 9 = .ok (.invokestatic 266, 3) := by decide +kernel
theorem dX9_image_12 : decode cX9_image 12 = .ok (.istore_n 1, 1) := by decide +kernel
theorem dX9_image_13 : decode cX9_image 13 = .ok (.aload_n 0, 1) := by decide +kernel
theorem dX9_image_14 : decode cX9_image 14 = .ok (.getfield 13, 3) := by decide +kernel
theorem dX9_image_17 : decode cX9_image 17 = .ok (.aload_n 0, 1) := by decide +kernel
theorem dX9_image_18 : decode cX9_image 18 = .ok (.getfield 53, 3) := by decide +kernel
theorem dX9_image_21 : decode cX9_image 21 = .ok (.iload_n 1, 1) := by decide +kernel
theorem dX9_image_22 : decode cX9_image 22 = .ok (.invokestatic 266, 3) := by decide +kernel
theorem dX9_image_25 : decode cX9_image 25 = .ok (.istore_n 1, 1) := by decide +kernel
theorem dX9_image_26 : decode cX9_image 26 = .ok (.aload_n 0, 1) := by decide +kernel
theorem dX9_image_27 : decode cX9_image 27 = .ok (.getfield 16, 3) := by decide +kernel
theorem dX9_image_30 : decode cX9_image 30 = .ok (.aload_n 0, 1) := by decide +kernel
theorem dX9_image_31 : decode cX9_image 31 = .ok (.getfield 53, 3) := by decide +kernel
theorem dX9_image_34 : decode cX9_image 34 = .ok (.iload_n 1, 1) := by decide +kernel
theorem dX9_image_35 : decode cX9_image 35 = .ok (.invokestatic 266, 3) := by decide +kernel
theorem dX9_image_38 : decode cX9_image 38 = .ok (.istore_n 1, 1) := by decide +kernel
theorem dX9_image_39 : decode cX9_image 39 = .ok (.aload_n 0, 1) := by decide +kernel
theorem dX9_image_40 : decode cX9_image 40 = .ok (.getfield 19, 3) := by decide +kernel
theorem dX9_image_43 : decode cX9_image 43 = .ok (.aload_n 0, 1) := by decide +kernel
theorem dX9_image_44 : decode cX9_image 44 = .ok (.getfield 53, 3) := by decide +kernel
theorem dX9_image_47 : decode cX9_image 47 = .ok (.iload_n 1, 1) := by decide +kernel
theorem dX9_image_48 : decode cX9_image 48 = .ok (.invokestatic 266, 3) := by decide +kernel
theorem dX9_image_51 : decode cX9_image 51 = .ok (.istore_n 1, 1) := by decide +kernel
theorem dX9_image_52 : decode cX9_image 52 = .ok (.aload_n 0, 1) := by decide +kernel
theorem dX9_image_53 : decode cX9_image 53 = .ok (.getfield 53, 3) := by decide +kernel
theorem dX9_image_56 : decode cX9_image 56 = .ok (.iload_n 1, 1) := by decide +kernel
theorem dX9_image_57 : decode cX9_image 57 = .ok (.aload_n 0, 1) := by decide +kernel
theorem dX9_image_58 : decode cX9_image 58 = .ok (.getfield 68, 3) := by decide +kernel
theorem dX9_image_61 : decode cX9_image 61 = .ok (.iastore, 1) := by decide +kernel
theorem dX9_image_62 : decode cX9_image 62 = .ok (.aload_n 0, 1) := by decide +kernel
theorem dX9_image_63 : decode cX9_image 63 = .ok (.getfield 53, 3) := by decide +kernel
theorem dX9_image_66 : decode cX9_image 66 = .ok (.iload_n 1, 1) := by decide +kernel
theorem dX9_image_67 : decode cX9_image 67 = .ok (.iconst 1, 1) := by decide +kernel
theorem dX9_image_68 : decode cX9_image 68 = .ok (.iadd, 1) := by decide +kernel
theorem dX9_image_69 : decode cX9_image 69 = .ok (.aload_n 0, 1) := by decide +kernel
theorem dX9_image_70 : decode cX9_image 70 = .ok (.getfield 100, 3) := by decide +kernel
theorem dX9_image_73 : decode cX9_image 73 = .ok (.iastore, 1) := by decide +kernel
theorem dX9_image_74 : decode cX9_image 74 = .ok (.aload_n 0, 1) := by decide +kernel
theorem dX9_image_75 : decode cX9_image 75 = .ok (.getfield 53, 3) := by decide +kernel
theorem dX9_image_78 : decode cX9_image 78 = .ok (.iload_n 1, 1) := by decide +kernel
theorem dX9_image_79 : decode cX9_image 79 = .ok (.iconst 2, 1) := by decide +kernel
theorem dX9_image_80 : decode cX9_image 80 = .ok (.iadd, 1) := by decide +kernel
theorem dX9_image_81 : decode cX9_image 81 = .ok (.aload_n 0, 1) := by decide +kernel
theorem dX9_image_82 : decode cX9_image 82 = .ok (.getfield 157, 3) := by decide +kernel
theorem dX9_image_85 : decode cX9_image 85 = .ok (.iastore, 1) := by decide +kernel
theorem dX9_image_86 : decode cX9_image 86 = .ok (.aload_n 0, 1) := by decide +kernel
theorem dX9_image_87 : decode cX9_image 87 = .ok (.iconst 1, 1) := by decide +kernel
theorem dX9_image_88 : decode cX9_image 88 = .ok (.putfield 270, 3) := by decide +kernel
theorem dX9_image_91 : decode cX9_image 91 = .ok (.iconst 1, 1) := by decide +kernel
theorem dX9_image_92 : decode cX9_image 92 = .ok (.ireturn, 1) := by decide +kernel
theorem dX9_restore_0 : decode cX9_restore 0 = .ok (.aload_n 0, 1) := by decide +kernel
theorem dX9_restore_1 : decode cX9_restore 1 = .ok (.getfield 270, 3) := by decide +kernel
theorem dX9_restore_4 : decode cX9_restore 4 = .ok (.ifCond .ne 6, 3) := by decide +kernel
theorem dX9_restore_7 : decode cX9_restore 7 = .ok (.bipush (-4), 2) := by decide +kernel
theorem dX9_restore_9 : decode cX9_restore 9 = .ok (.ireturn, 1) := by decide +kernel
theorem dX9_restore_10 : decode cX9_restore 10 = .ok (.aload_n 0, 1) := by decide +kernel
theorem dX9_restore_11 : decode cX9_restore 11 = .ok (.getfield 53, 3) := by decide +kernel
theorem dX9_restore_14 : decode cX9_restore 14 = .ok (.iconst 0, 1) := by decide +kernel
theorem dX9_restore_15 : decode cX9_restore 15 = .ok (.aload_n 0, 1) := by decide +kernel
theorem dX9_restore_16 : decode cX9_restore 16 = .ok (.getfield 7, 3) := by decide +kernel
theorem dX9_restore_19 : decode cX9_restore 19 = .ok (.invokestatic 273, 3) := by decide +kernel
theorem dX9_restore_22 : decode cX9_restore 22 = .ok (.istore_n 1, 1) := by decide +kernel
theorem dX9_restore_23 : decode cX9_restore 23 = .ok (.aload_n 0, 1) := by decide +kernel
theorem dX9_restore_24 : decode cX9_restore 24 = .ok (.getfield 53, 3) := by decide +kernel
theorem dX9_restore_27 : decode cX9_restore 27 = .ok (.iload_n 1, 1) := by decide +kernel
theorem dX9_restore_28 : decode cX9_restore 28 = .ok (.aload_n 0, 1) := by decide +kernel
theorem dX9_restore_29 : decode cX9_restore 29 = .ok (.getfield 13, 3) := by decide +kernel
theorem dX9_restore_32 : decode cX9_restore 32 = .ok (.invokestatic 273, 3) := by decide +kernel
theorem dX9_restore_35 : decode cX9_restore 35 = .ok (.istore_n 1, 1) := by decide +kernel
theorem dX9_restore_36 : decode cX9_restore 36 = .ok (.aload_n 0, 1) := by decide +kernel
theorem dX9_restore_37 : decode cX9_restore 37 = .ok (.getfield 53, 3) := by decide +kernel
theorem dX9_restore_40 : decode cX9_restore 40 = .ok (.iload_n 1, 1) := by decide +kernel
theorem dX9_restore_41 : decode cX9_restore 41 = .ok (.aload_n 0, 1) := by decide +kernel
theorem dX9_restore_42 : decode cX9_restore 42 = .ok (.getfield 16, 3) := by decide +kernel
theorem dX9_restore_45 : decode cX9_restore 45 = .ok (.invokestatic 273, 3) := by decide +kernel
theorem dX9_restore_48 : decode cX9_restore 48 = .ok (.istore_n 1, 1) := by decide +kernel
theorem dX9_restore_49 : decode cX9_restore 49 = .ok (.aload_n 0, 1) := by decide +kernel
theorem dX9_restore_50 : decode cX9_restore 50 = .ok (.getfield 53, 3) := by decide +kernel
theorem dX9_restore_53 : decode cX9_restore 53 = .ok (.iload_n 1, 1) := by decide +kernel
theorem dX9_restore_54 : decode cX9_restore 54 = .ok (.aload_n 0, 1) := by decide +kernel
theorem dX9_restore_55 : decode cX9_restore 55 = .ok (.getfield 19, 3) := by decide +kernel
theorem dX9_restore_58 : decode cX9_restore 58 = .ok (.invokestatic 273, 3) := by decide +kernel
theorem dX9_restore_61 : decode cX9_restore 61 = .ok (.istore_n 1, 1) := by decide +kernel
theorem dX9_restore_62 : decode cX9_restore 62 = .ok (.aload_n 0, 1) := by decide +kernel
theorem dX9_restore_63 : decode cX9_restore 63 = .ok (.aload_n 0, 1) := by decide +kernel
theorem dX9_restore_64 : decode cX9_restore 64 = .ok (.getfield 53, 3) := by decide +kernel
theorem dX9_restore_67 : decode cX9_restore 67 = .ok (.iload_n 1, 1) := by decide +kernel
theorem dX9_restore_68 : decode cX9_restore 68 = .ok (.iaload, 1) := by decide +kernel
theorem dX9_restore_69 : decode cX9_restore 69 = .ok (.putfield 68, 3) := by decide +kernel
theorem dX9_restore_72 : decode cX9_restore 72 = .ok (.aload_n 0, 1) := by decide +kernel
theorem dX9_restore_73 : decode cX9_restore 73 = .ok (.aload_n 0, 1) := by decide +kernel
theorem dX9_restore_74 : decode cX9_restore 74 = .ok (.getfield 53, 3) := by decide +kernel
theorem dX9_restore_77 : decode cX9_restore 77 = .ok (.iload_n 1, 1) := by decide +kernel
theorem dX9_restore_78 : decode cX9_restore 78 = .ok (.iconst 1, 1) := by decide +kernel
theorem dX9_restore_79 : decode cX9_restore 79 = .ok (.iadd, 1) := by decide +kernel
theorem dX9_restore_80 : decode cX9_restore 80 = .ok (.iaload, 1) := by decide +kernel
theorem dX9_restore_81 : decode cX9_restore 81 = .ok (.putfield 100, 3) := by decide +kernel
theorem dX9_restore_84 : decode cX9_restore 84 = .ok (.aload_n 0, 1) := by decide +kernel
theorem dX9_restore_85 : decode cX9_restore 85 = .ok (.aload_n 0, 1) := by decide +kernel
theorem dX9_restore_86 : decode cX9_restore 86 = .ok (.getfield 53, 3) := by decide +kernel
theorem dX9_restore_89 : decode cX9_restore 89 = .ok (.iload_n 1, 1) := by decide +kernel
theorem dX9_restore_90 : decode cX9_restore 90 = .ok (.iconst 2, 1) := by decide +kernel
theorem dX9_restore_91 : decode cX9_restore 91 = .ok (.iadd, 1) := by decide +kernel
theorem dX9_restore_92 : decode cX9_restore 92 = .ok (.iaload, 1) := by decide +kernel
theorem dX9_restore_93 : decode cX9_restore 93 = .ok (.putfield 157, 3) := by decide +kernel
theorem dX9_restore_96 : decode cX9_restore 96 = .ok (.iconst 1, 1) := by decide +kernel
theorem dX9_restore_97 : decode cX9_restore 97 = .ok (.ireturn, 1) := by decide +kernel
theorem dX9_isSheet_0 : decode cX9_isSheet 0 = .ok (.iload_n 0, 1) := by decide +kernel
theorem dX9_isSheet_1 : decode cX9_isSheet 1 = .ok (.i2l, 1) := by decide +kernel
theorem dX9_isSheet_2 : decode cX9_isSheet 2 = .ok (.lconst 0, 1) := by decide +kernel
theorem dX9_isSheet_3 : decode cX9_isSheet 3 = .ok (.ldc2_w 225, 3) := by decide +kernel
theorem dX9_isSheet_6 : decode cX9_isSheet 6 = .ok (.invokestatic 71, 3) := by decide +kernel
theorem dX9_isSheet_9 : decode cX9_isSheet 9 = .ok (.ireturn, 1) := by decide +kernel
theorem dX9_isLane_0 : decode cX9_isLane 0 = .ok (.iload_n 0, 1) := by decide +kernel
theorem dX9_isLane_1 : decode cX9_isLane 1 = .ok (.i2l, 1) := by decide +kernel
theorem dX9_isLane_2 : decode cX9_isLane 2 = .ok (.lconst 0, 1) := by decide +kernel
theorem dX9_isLane_3 : decode cX9_isLane 3 = .ok (.ldc2_w 75, 3) := by decide +kernel
theorem dX9_isLane_6 : decode cX9_isLane 6 = .ok (.invokestatic 71, 3) := by decide +kernel
theorem dX9_isLane_9 : decode cX9_isLane 9 = .ok (.ireturn, 1) := by decide +kernel
theorem dX9_finds_0 : decode cX9_finds 0 = .ok (.aload_n 0, 1) := by decide +kernel
theorem dX9_finds_1 : decode cX9_finds 1 = .ok (.getfield 56, 3) := by decide +kernel
theorem dX9_finds_4 : decode cX9_finds 4 = .ok (.iload_n 1, 1) := by decide +kernel
theorem dX9_finds_5 : decode cX9_finds 5 = .ok (.iaload, 1) := by decide +kernel
theorem dX9_finds_6 : decode cX9_finds 6 = .ok (.ifCond .ge 6, 3) := by decide +kernel
theorem dX9_finds_9 : decode cX9_finds 9 = .ok (.bipush (-11), 2) := by decide +kernel
theorem dX9_finds_11 : decode cX9_finds 11 = .ok (.ireturn, 1) := by decide +kernel
theorem dX9_finds_12 : decode cX9_finds 12 = .ok (.aload_n 0, 1) := by decide +kernel
theorem dX9_finds_13 : decode cX9_finds 13 = .ok (.getfield 56, 3) := by decide +kernel
theorem dX9_finds_16 : decode cX9_finds 16 = .ok (.iload_n 1, 1) := by decide +kernel
theorem dX9_finds_17 : decode cX9_finds 17 = .ok (.iaload, 1) := by decide +kernel
theorem dX9_finds_18 : decode cX9_finds 18 = .ok (.iload_n 2, 1) := by decide +kernel
theorem dX9_finds_19 : decode cX9_finds 19 = .ok (.if_icmp .eq 6, 3) := by decide +kernel
theorem dX9_finds_22 : decode cX9_finds 22 = .ok (.bipush (-12), 2) := by decide +kernel
theorem dX9_finds_24 : decode cX9_finds 24 = .ok (.ireturn, 1) := by decide +kernel
theorem dX9_finds_25 : decode cX9_finds 25 = .ok (.iload_n 3, 1) := by decide +kernel
theorem dX9_finds_26 : decode cX9_finds 26 = .ok (.ifCond .lt 20, 3) := by decide +kernel
theorem dX9_finds_29 : decode cX9_finds 29 = .ok (.iload_n 3, 1) := by decide +kernel
theorem dX9_finds_30 : decode cX9_finds 30 = .ok (.i2l, 1) := by decide +kernel
theorem dX9_finds_31 : decode cX9_finds 31 = .ok (.iload 4, 2) := by decide +kernel
theorem dX9_finds_33 : decode cX9_finds 33 = .ok (.i2l, 1) := by decide +kernel
theorem dX9_finds_34 : decode cX9_finds 34 = .ok (.ladd, 1) := by decide +kernel
theorem dX9_finds_35 : decode cX9_finds 35 = .ok (.aload_n 0, 1) := by decide +kernel
theorem dX9_finds_36 : decode cX9_finds 36 = .ok (.getfield 59, 3) := by decide +kernel
theorem dX9_finds_39 : decode cX9_finds 39 = .ok (.iload_n 1, 1) := by decide +kernel
theorem dX9_finds_40 : decode cX9_finds 40 = .ok (.iaload, 1) := by decide +kernel
theorem dX9_finds_41 : decode cX9_finds 41 = .ok (.i2l, 1) := by decide +kernel
theorem dX9_finds_42 : decode cX9_finds 42 = .ok (.lcmp, 1) := by decide +kernel
theorem dX9_finds_43 : decode cX9_finds 43 = .ok (.ifCond .le 8, 3) := by decide +kernel
theorem dX9_finds_46 : decode cX9_finds 46 = .ok (.bipush (-13), 2) := by decide +kernel
theorem dX9_finds_48 : decode cX9_finds 48 = .ok (.goto 4, 3) := by decide +kernel
theorem dX9_finds_51 : decode cX9_finds 51 = .ok (.iconst 0, 1) := by decide +kernel
theorem dX9_finds_52 : decode cX9_finds 52 = .ok (.ireturn, 1) := by decide +kernel
theorem dX9_cast_0 : decode cX9_cast 0 = .ok (.iload_n 0, 1) := by decide +kernel
theorem dX9_cast_1 : decode cX9_cast 1 = .ok (.ifCond .ne 8, 3) := by decide +kernel
theorem dX9_cast_4 : decode cX9_cast 4 = .ok (.iload_n 1, 1) := by decide +kernel
theorem dX9_cast_5 : decode cX9_cast 5 = .ok (.i2b, 1) := by decide +kernel
theorem dX9_cast_6 : decode cX9_cast 6 = .ok (.goto 14, 3) := by decide +kernel
theorem dX9_cast_9 : decode cX9_cast 9 = .ok (.iload_n 0, 1) := by decide +kernel
theorem dX9_cast_10 : decode cX9_cast 10 = .ok (.iconst 1, 1) := by decide +kernel
theorem dX9_cast_11 : decode cX9_cast 11 = .ok (.if_icmp .ne 8, 3) := by decide +kernel
theorem dX9_cast_14 : decode cX9_cast 14 = .ok (.iload_n 1, 1) := by decide +kernel
theorem dX9_cast_15 : decode cX9_cast 15 = .ok (.i2s, 1) := by decide +kernel
theorem dX9_cast_16 : decode cX9_cast 16 = .ok (.goto 4, 3) := by decide +kernel
theorem dX9_cast_19 : decode cX9_cast 19 = .ok (.iload_n 1, 1) := by decide +kernel
theorem dX9_cast_20 : decode cX9_cast 20 = .ok (.ireturn, 1) := by decide +kernel
theorem dX9_film_0 : decode cX9_film 0 = .ok (.iload_n 1, 1) := by decide +kernel
theorem dX9_film_1 : decode cX9_film 1 = .ok (.invokestatic 253, 3) := by decide +kernel
theorem dX9_film_4 : decode cX9_film 4 = .ok (.ifCond .eq 23, 3) := by decide +kernel
theorem dX9_film_7 : decode cX9_film 7 = .ok (.iload_n 2, 1) := by decide +kernel
theorem dX9_film_8 : decode cX9_film 8 = .ok (.invokestatic 256, 3) := by decide +kernel
theorem dX9_film_11 : decode cX9_film 11 = .ok (.ifCond .eq 16, 3) := by decide +kernel
theorem dX9_film_14 : decode cX9_film 14 = .ok (.iload 4, 2) := by decide +kernel
theorem dX9_film_16 : decode cX9_film 16 = .ok (.i2l, 1) := by decide +kernel
theorem dX9_film_17 : decode cX9_film 17 = .ok (.lconst 1, 1) := by decide +kernel
theorem dX9_film_18 : decode cX9_film 18 = .ok (.ldc2_w 259, 3) := by decide +kernel
theorem dX9_film_21 : decode cX9_film 21 = .ok (.invokestatic 71, 3) := by decide +kernel
theorem dX9_film_24 : decode cX9_film 24 = .ok (.ifCond .ne 5, 3) := by decide +kernel
theorem dX9_film_27 : decode cX9_film 27 = .ok (.iconst (-1), 1) := by decide +kernel
theorem dX9_film_28 : decode cX9_film 28 = .ok (.ireturn, 1) := by decide +kernel
theorem dX9_film_29 : decode cX9_film 29 = .ok (.aload_n 0, 1) := by decide +kernel
theorem dX9_film_30 : decode cX9_film 30 = .ok (.iload_n 1, 1) := by decide +kernel
theorem dX9_film_31 : decode cX9_film 31 = .ok (.iload_n 2, 1) := by decide +kernel
theorem dX9_film_32 : decode cX9_film 32 = .ok (.iload_n 3, 1) := by decide +kernel
theorem dX9_film_33 : decode cX9_film 33 = .ok (.iconst 2, 1) := by decide +kernel
theorem dX9_film_34 : decode cX9_film 34 = .ok (.iload 4, 2) := by decide +kernel
theorem dX9_film_36 : decode cX9_film 36 = .ok (.imul, 1) := by decide +kernel
theorem dX9_film_37 : decode cX9_film 37 = .ok (.invokevirtual 261, 3) := by decide +kernel
theorem dX9_film_40 : decode cX9_film 40 = .ok (.istore 5, 2) := by decide +kernel
theorem dX9_film_42 : decode cX9_film 42 = .ok (.iload 5, 2) := by decide +kernel
theorem dX9_film_44 : decode cX9_film 44 = .ok (.ifCond .ge 6, 3) := by decide +kernel
theorem dX9_film_47 : decode cX9_film 47 = .ok (.iload 5, 2) := by decide +kernel
theorem dX9_film_49 : decode cX9_film 49 = .ok (.ireturn, 1) := by decide +kernel
theorem dX9_film_50 : decode cX9_film 50 = .ok (.aload_n 0, 1) := by decide +kernel
theorem dX9_film_51 : decode cX9_film 51 = .ok (.invokevirtual 222, 3) := by decide +kernel
theorem dX9_film_54 : decode cX9_film 54 = .ok (.iconst 0, 1) := by decide +kernel
theorem dX9_film_55 : decode cX9_film 55 = .ok (.istore 6, 2) := by decide +kernel
theorem dX9_film_57 : decode cX9_film 57 = .ok (.iload 6, 2) := by decide +kernel
theorem dX9_film_59 : decode cX9_film 59 = .ok (.iload 4, 2) := by decide +kernel
theorem dX9_film_61 : decode cX9_film 61 = .ok (.if_icmp .ge 73, 3) := by decide +kernel
theorem dX9_film_64 : decode cX9_film 64 = .ok (.aload_n 0, 1) := by decide +kernel
theorem dX9_film_65 : decode cX9_film 65 = .ok (.getfield 62, 3) := by decide +kernel
theorem dX9_film_68 : decode cX9_film 68 = .ok (.bipush 24, 2) := by decide +kernel
theorem dX9_film_70 : decode cX9_film 70 = .ok (.iload_n 1, 1) := by decide +kernel
theorem dX9_film_71 : decode cX9_film 71 = .ok (.imul, 1) := by decide +kernel
theorem dX9_film_72 : decode cX9_film 72 = .ok (.iload_n 3, 1) := by decide +kernel
theorem dX9_film_73 : decode cX9_film 73 = .ok (.iadd, 1) := by decide +kernel
theorem dX9_film_74 : decode cX9_film 74 = .ok (.iconst 2, 1) := by decide +kernel
theorem dX9_film_75 : decode cX9_film 75 = .ok (.iload 6, 2) := by decide +kernel
theorem dX9_film_77 : decode cX9_film 77 = .ok (.imul, 1) := by decide +kernel
theorem dX9_film_78 : decode cX9_film 78 = .ok (.iadd, 1) := by decide +kernel
theorem dX9_film_79 : decode cX9_film 79 = .ok (.iload_n 2, 1) := by decide +kernel
theorem dX9_film_80 : decode cX9_film 80 = .ok (.aload_n 0, 1) := by decide +kernel
theorem dX9_film_81 : decode cX9_film 81 = .ok (.getfield 28, 3) := by decide +kernel
theorem dX9_film_84 : decode cX9_film 84 = .ok (.bipush 9, 2) := by decide +kernel
theorem dX9_film_86 : decode cX9_film 86 = .ok (.iload 6, 2) := by decide +kernel
theorem dX9_film_88 : decode cX9_film 88 = .ok (.imul, 1) := by decide +kernel
theorem dX9_film_89 : decode cX9_film 89 = .ok (.iaload, 1) := by decide +kernel
theorem dX9_film_90 : decode cX9_film 90 = .ok (.invokestatic 277, 3) := by decide +kernel
theorem dX9_film_93 : decode cX9_film 93 = .ok (.iastore, 1) := by decide +kernel
theorem dX9_film_94 : decode cX9_film 94 = .ok (.aload_n 0, 1) := by decide +kernel
theorem dX9_film_95 : decode cX9_film 95 = .ok (.getfield 62, 3) := by decide +kernel
theorem dX9_film_98 : decode cX9_film 98 = .ok (.bipush 24, 2) := by decide +kernel
theorem dX9_film_100 : decode cX9_film 100 = .ok (.iload_n 1, 1) := by decide +kernel
theorem dX9_film_101 : decode cX9_film 101 = .ok (.imul, 1) := by decide +kernel
theorem dX9_film_102 : decode cX9_film 102 = .ok (.iload_n 3, 1) := by decide +kernel
theorem dX9_film_103 : decode cX9_film 103 = .ok (.iadd, 1) := by decide +kernel
theorem dX9_film_104 : decode cX9_film 104 = .ok (.iconst 2, 1) := by decide +kernel
theorem dX9_film_105 : decode cX9_film 105 = .ok (.iload 6, 2) := by decide +kernel
theorem dX9_film_107 : decode cX9_film 107 = .ok (.imul, 1) := by decide +kernel
theorem dX9_film_108 : decode cX9_film 108 = .ok (.iadd, 1) := by decide +kernel
theorem dX9_film_109 : decode cX9_film 109 = .ok (.iconst 1, 1) := by decide +kernel
theorem dX9_film_110 : decode cX9_film 110 = .ok (.iadd, 1) := by decide +kernel
theorem dX9_film_111 : decode cX9_film 111 = .ok (.iload_n 2, 1) := by decide +kernel
theorem dX9_film_112 : decode cX9_film 112 = .ok (.aload_n 0, 1) := by decide +kernel
theorem dX9_film_113 : decode cX9_film 113 = .ok (.getfield 28, 3) := by decide +kernel
theorem dX9_film_116 : decode cX9_film 116 = .ok (.bipush 9, 2) := by decide +kernel
theorem dX9_film_118 : decode cX9_film 118 = .ok (.iload 6, 2) := by decide +kernel
theorem dX9_film_120 : decode cX9_film 120 = .ok (.imul, 1) := by decide +kernel
theorem dX9_film_121 : decode cX9_film 121 = .ok (.iconst 1, 1) := by decide +kernel
theorem dX9_film_122 : decode cX9_film 122 = .ok (.iadd, 1) := by decide +kernel
theorem dX9_film_123 : decode cX9_film 123 = .ok (.iaload, 1) := by decide +kernel
theorem dX9_film_124 : decode cX9_film 124 = .ok (.invokestatic 277, 3) := by decide +kernel
theorem dX9_film_127 : decode cX9_film 127 = .ok (.iastore, 1) := by decide +kernel
theorem dX9_film_128 : decode cX9_film 128 = .ok (.iinc 6 1, 3) := by decide +kernel
theorem dX9_film_131 : decode cX9_film 131 = .ok (.goto (-74), 3) := by decide +kernel
theorem dX9_film_134 : decode cX9_film 134 = .ok (.iconst 2, 1) := by decide +kernel
theorem dX9_film_135 : decode cX9_film 135 = .ok (.iload 4, 2) := by decide +kernel
theorem dX9_film_137 : decode cX9_film 137 = .ok (.imul, 1) := by decide +kernel
theorem dX9_film_138 : decode cX9_film 138 = .ok (.ireturn, 1) := by decide +kernel
theorem dX9_sheet_0 : decode cX9_sheet 0 = .ok (.iload_n 1, 1) := by decide +kernel
theorem dX9_sheet_1 : decode cX9_sheet 1 = .ok (.invokestatic 253, 3) := by decide +kernel
theorem dX9_sheet_4 : decode cX9_sheet 4 = .ok (.ifCond .eq 16, 3) := by decide +kernel
theorem dX9_sheet_7 : decode cX9_sheet 7 = .ok (.iload_n 2, 1) := by decide +kernel
theorem dX9_sheet_8 : decode cX9_sheet 8 = .ok (.invokestatic 256, 3) := by decide +kernel
theorem dX9_sheet_11 : decode cX9_sheet 11 = .ok (.ifCond .eq 9, 3) := by decide +kernel
theorem dX9_sheet_14 : decode cX9_sheet 14 = .ok (.iload_n 3, 1) := by decide +kernel
theorem dX9_sheet_15 : decode cX9_sheet 15 = .ok (.bipush 24, 2) := by decide +kernel
theorem dX9_sheet_17 : decode cX9_sheet 17 = .ok (.if_icmp .le 5, 3) := by decide +kernel
theorem dX9_sheet_20 : decode cX9_sheet 20 = .ok (.iconst (-1), 1) := by decide +kernel
theorem dX9_sheet_21 : decode cX9_sheet 21 = .ok (.ireturn, 1) := by decide +kernel
theorem dX9_sheet_22 : decode cX9_sheet 22 = .ok (.iload_n 3, 1) := by decide +kernel
theorem dX9_sheet_23 : decode cX9_sheet 23 = .ok (.ifCond .ge 6, 3) := by decide +kernel
theorem dX9_sheet_26 : decode cX9_sheet 26 = .ok (.bipush (-14), 2) := by decide +kernel
theorem dX9_sheet_28 : decode cX9_sheet 28 = .ok (.ireturn, 1) := by decide +kernel
theorem dX9_sheet_29 : decode cX9_sheet 29 = .ok (.aload_n 0, 1) := by decide +kernel
theorem dX9_sheet_30 : decode cX9_sheet 30 = .ok (.getfield 56, 3) := by decide +kernel
theorem dX9_sheet_33 : decode cX9_sheet 33 = .ok (.iload_n 1, 1) := by decide +kernel
theorem dX9_sheet_34 : decode cX9_sheet 34 = .ok (.iload_n 2, 1) := by decide +kernel
theorem dX9_sheet_35 : decode cX9_sheet 35 = .ok (.iastore, 1) := by decide +kernel
theorem dX9_sheet_36 : decode cX9_sheet 36 = .ok (.aload_n 0, 1) := by decide +kernel
theorem dX9_sheet_37 : decode cX9_sheet 37 = .ok (.getfield 59, 3) := by decide +kernel
theorem dX9_sheet_40 : decode cX9_sheet 40 = .ok (.iload_n 1, 1) := by decide +kernel
theorem dX9_sheet_41 : decode cX9_sheet 41 = .ok (.iload_n 3, 1) := by decide +kernel
theorem dX9_sheet_42 : decode cX9_sheet 42 = .ok (.iastore, 1) := by decide +kernel
theorem dX9_sheet_43 : decode cX9_sheet 43 = .ok (.iconst 0, 1) := by decide +kernel
theorem dX9_sheet_44 : decode cX9_sheet 44 = .ok (.istore 4, 2) := by decide +kernel
theorem dX9_sheet_46 : decode cX9_sheet 46 = .ok (.iload 4, 2) := by decide +kernel
theorem dX9_sheet_48 : decode cX9_sheet 48 = .ok (.bipush 24, 2) := by decide +kernel
theorem dX9_sheet_50 : decode cX9_sheet 50 = .ok (.if_icmp .ge 22, 3) := by decide +kernel
theorem dX9_sheet_53 : decode cX9_sheet 53 = .ok (.aload_n 0, 1) := by decide +kernel
theorem dX9_sheet_54 : decode cX9_sheet 54 = .ok (.getfield 62, 3) := by decide +kernel
theorem dX9_sheet_57 : decode cX9_sheet 57 = .ok (.bipush 24, 2) := by decide +kernel
theorem dX9_sheet_59 : decode cX9_sheet 59 = .ok (.iload_n 1, 1) := by decide +kernel
theorem dX9_sheet_60 : decode cX9_sheet 60 = .ok (.imul, 1) := by decide +kernel
theorem dX9_sheet_61 : decode cX9_sheet 61 = .ok (.iload 4, 2) := by decide +kernel
theorem dX9_sheet_63 : decode cX9_sheet 63 = .ok (.iadd, 1) := by decide +kernel
theorem dX9_sheet_64 : decode cX9_sheet 64 = .ok (.iconst 0, 1) := by decide +kernel
theorem dX9_sheet_65 : decode cX9_sheet 65 = .ok (.iastore, 1) := by decide +kernel
theorem dX9_sheet_66 : decode cX9_sheet 66 = .ok (.iinc 4 1, 3) := by decide +kernel
theorem dX9_sheet_69 : decode cX9_sheet 69 = .ok (.goto (-23), 3) := by decide +kernel
theorem dX9_sheet_72 : decode cX9_sheet 72 = .ok (.iload_n 3, 1) := by decide +kernel
theorem dX9_sheet_73 : decode cX9_sheet 73 = .ok (.ireturn, 1) := by decide +kernel
theorem dX9_drop_0 : decode cX9_drop 0 = .ok (.iload_n 1, 1) := by decide +kernel
theorem dX9_drop_1 : decode cX9_drop 1 = .ok (.invokestatic 253, 3) := by decide +kernel
theorem dX9_drop_4 : decode cX9_drop 4 = .ok (.ifCond .ne 5, 3) := by decide +kernel
theorem dX9_drop_7 : decode cX9_drop 7 = .ok (.iconst (-1), 1) := by decide +kernel
theorem dX9_drop_8 : decode cX9_drop 8 = .ok (.ireturn, 1) := by decide +kernel
theorem dX9_drop_9 : decode cX9_drop 9 = .ok (.aload_n 0, 1) := by decide +kernel
theorem dX9_drop_10 : decode cX9_drop 10 = .ok (.getfield 56, 3) := by decide +kernel
theorem dX9_drop_13 : decode cX9_drop 13 = .ok (.iload_n 1, 1) := by decide +kernel
theorem dX9_drop_14 : decode cX9_drop 14 = .ok (.iaload, 1) := by decide +kernel
theorem dX9_drop_15 : decode cX9_drop 15 = .ok (.ifCond .ge 6, 3) := by decide +kernel
theorem dX9_drop_18 : decode cX9_drop 18 = .ok (.bipush (-11), 2) := by decide +kernel
theorem dX9_drop_20 : decode cX9_drop 20 = .ok (.ireturn, 1) := by decide +kernel
theorem dX9_drop_21 : decode cX9_drop 21 = .ok (.aload_n 0, 1) := by decide +kernel
theorem dX9_drop_22 : decode cX9_drop 22 = .ok (.getfield 56, 3) := by decide +kernel
theorem dX9_drop_25 : decode cX9_drop 25 = .ok (.iload_n 1, 1) := by decide +kernel
theorem dX9_drop_26 : decode cX9_drop 26 = .ok (.iconst (-1), 1) := by decide +kernel
theorem dX9_drop_27 : decode cX9_drop 27 = .ok (.iastore, 1) := by decide +kernel
theorem dX9_drop_28 : decode cX9_drop 28 = .ok (.aload_n 0, 1) := by decide +kernel
theorem dX9_drop_29 : decode cX9_drop 29 = .ok (.getfield 59, 3) := by decide +kernel
theorem dX9_drop_32 : decode cX9_drop 32 = .ok (.iload_n 1, 1) := by decide +kernel
theorem dX9_drop_33 : decode cX9_drop 33 = .ok (.iaload, 1) := by decide +kernel
theorem dX9_drop_34 : decode cX9_drop 34 = .ok (.ireturn, 1) := by decide +kernel
theorem dX9_item_0 : decode cX9_item 0 = .ok (.iload_n 1, 1) := by decide +kernel
theorem dX9_item_1 : decode cX9_item 1 = .ok (.invokestatic 253, 3) := by decide +kernel
theorem dX9_item_4 : decode cX9_item 4 = .ok (.ifCond .eq 10, 3) := by decide +kernel
theorem dX9_item_7 : decode cX9_item 7 = .ok (.iload_n 2, 1) := by decide +kernel
theorem dX9_item_8 : decode cX9_item 8 = .ok (.invokestatic 256, 3) := by decide +kernel
theorem dX9_item_11 : decode cX9_item 11 = .ok (.ifCond .ne 5, 3) := by decide +kernel
theorem dX9_item_14 : decode cX9_item 14 = .ok (.iconst (-1), 1) := by decide +kernel
theorem dX9_item_15 : decode cX9_item 15 = .ok (.ireturn, 1) := by decide +kernel
theorem dX9_item_16 : decode cX9_item 16 = .ok (.aload_n 0, 1) := by decide +kernel
theorem dX9_item_17 : decode cX9_item 17 = .ok (.iload_n 1, 1) := by decide +kernel
theorem dX9_item_18 : decode cX9_item 18 = .ok (.iload_n 2, 1) := by decide +kernel
theorem dX9_item_19 : decode cX9_item 19 = .ok (.iload_n 3, 1) := by decide +kernel
theorem dX9_item_20 : decode cX9_item 20 = .ok (.iconst 1, 1) := by decide +kernel
theorem dX9_item_21 : decode cX9_item 21 = .ok (.invokevirtual 261, 3) := by decide +kernel
theorem dX9_item_24 : decode cX9_item 24 = .ok (.istore 5, 2) := by decide +kernel
theorem dX9_item_26 : decode cX9_item 26 = .ok (.iload 5, 2) := by decide +kernel
theorem dX9_item_28 : decode cX9_item 28 = .ok (.ifCond .ge 6, 3) := by decide +kernel
theorem dX9_item_31 : decode cX9_item 31 = .ok (.iload 5, 2) := by decide +kernel
theorem dX9_item_33 : decode cX9_item 33 = .ok (.ireturn, 1) := by decide +kernel
theorem dX9_item_34 : decode cX9_item 34 = .ok (.aload_n 0, 1) := by decide +kernel
theorem dX9_item_35 : decode cX9_item 35 = .ok (.getfield 62, 3) := by decide +kernel
theorem dX9_item_38 : decode cX9_item 38 = .ok (.bipush 24, 2) := by decide +kernel
theorem dX9_item_40 : decode cX9_item 40 = .ok (.iload_n 1, 1) := by decide +kernel
theorem dX9_item_41 : decode cX9_item 41 = .ok (.imul, 1) := by decide +kernel
theorem dX9_item_42 : decode cX9_item 42 = .ok (.iload_n 3, 1) := by decide +kernel
theorem dX9_item_43 : decode cX9_item 43 = .ok (.iadd, 1) := by decide +kernel
theorem dX9_item_44 : decode cX9_item 44 = .ok (.iload_n 2, 1) := by decide +kernel
theorem dX9_item_45 : decode cX9_item 45 = .ok (.iload 4, 2) := by decide +kernel
theorem dX9_item_47 : decode cX9_item 47 = .ok (.invokestatic 277, 3) := by decide +kernel
theorem dX9_item_50 : decode cX9_item 50 = .ok (.iastore, 1) := by decide +kernel
theorem dX9_item_51 : decode cX9_item 51 = .ok (.iconst 1, 1) := by decide +kernel
theorem dX9_item_52 : decode cX9_item 52 = .ok (.ireturn, 1) := by decide +kernel
theorem dX9_copy_0 : decode cX9_copy 0 = .ok (.iload_n 1, 1) := by decide +kernel
theorem dX9_copy_1 : decode cX9_copy 1 = .ok (.invokestatic 253, 3) := by decide +kernel
theorem dX9_copy_4 : decode cX9_copy 4 = .ok (.ifCond .eq 10, 3) := by decide +kernel
theorem dX9_copy_7 : decode cX9_copy 7 = .ok (.iload_n 3, 1) := by decide +kernel
theorem dX9_copy_8 : decode cX9_copy 8 = .ok (.invokestatic 253, 3) := by decide +kernel
theorem dX9_copy_11 : decode cX9_copy 11 = .ok (.ifCond .ne 5, 3) := by decide +kernel
theorem dX9_copy_14 : decode cX9_copy 14 = .ok (.iconst (-1), 1) := by decide +kernel
theorem dX9_copy_15 : decode cX9_copy 15 = .ok (.ireturn, 1) := by decide +kernel
theorem dX9_copy_16 : decode cX9_copy 16 = .ok (.aload_n 0, 1) := by decide +kernel
theorem dX9_copy_17 : decode cX9_copy 17 = .ok (.getfield 56, 3) := by decide +kernel
theorem dX9_copy_20 : decode cX9_copy 20 = .ok (.iload_n 1, 1) := by decide +kernel
theorem dX9_copy_21 : decode cX9_copy 21 = .ok (.iaload, 1) := by decide +kernel
theorem dX9_copy_22 : decode cX9_copy 22 = .ok (.ifCond .lt 12, 3) := by decide +kernel
theorem dX9_copy_25 : decode cX9_copy 25 = .ok (.aload_n 0, 1) := by decide +kernel
theorem dX9_copy_26 : decode cX9_copy 26 = .ok (.getfield 56, 3) := by decide +kernel
theorem dX9_copy_29 : decode cX9_copy 29 = .ok (.iload_n 3, 1) := by decide +kernel
theorem dX9_copy_30 : decode cX9_copy 30 = .ok (.iaload, 1) := by decide +kernel
theorem dX9_copy_31 : decode cX9_copy 31 = .ok (.ifCond .ge 6, 3) := by decide +kernel
theorem dX9_copy_34 : decode cX9_copy 34 = .ok (.bipush (-11), 2) := by decide +kernel
theorem dX9_copy_36 : decode cX9_copy 36 = .ok (.ireturn, 1) := by decide +kernel
theorem dX9_copy_37 : decode cX9_copy 37 = .ok (.aload_n 0, 1) := by decide +kernel
theorem dX9_copy_38 : decode cX9_copy 38 = .ok (.getfield 56, 3) := by decide +kernel
theorem dX9_copy_41 : decode cX9_copy 41 = .ok (.iload_n 1, 1) := by decide +kernel
theorem dX9_copy_42 : decode cX9_copy 42 = .ok (.iaload, 1) := by decide +kernel
theorem dX9_copy_43 : decode cX9_copy 43 = .ok (.aload_n 0, 1) := by decide +kernel
theorem dX9_copy_44 : decode cX9_copy 44 = .ok (.getfield 56, 3) := by decide +kernel
theorem dX9_copy_47 : decode cX9_copy 47 = .ok (.iload_n 3, 1) := by decide +kernel
theorem dX9_copy_48 : decode cX9_copy 48 = .ok (.iaload, 1) := by decide +kernel
theorem dX9_copy_49 : decode cX9_copy 49 = .ok (.if_icmp .eq 6, 3) := by decide +kernel
theorem dX9_copy_52 : decode cX9_copy 52 = .ok (.bipush (-12), 2) := by decide +kernel
theorem dX9_copy_54 : decode cX9_copy 54 = .ok (.ireturn, 1) := by decide +kernel
theorem dX9_copy_55 : decode cX9_copy 55 = .ok (.iload 5, 2) := by decide +kernel
theorem dX9_copy_57 : decode cX9_copy 57 = .ok (.ifCond .lt 38, 3) := by decide +kernel
theorem dX9_copy_60 : decode cX9_copy 60 = .ok (.aload_n 0, 1) := by decide +kernel
theorem dX9_copy_61 : decode cX9_copy 61 = .ok (.iload_n 1, 1) := by decide +kernel
theorem dX9_copy_62 : decode cX9_copy 62 = .ok (.aload_n 0, 1) := by decide +kernel
theorem dX9_copy_63 : decode cX9_copy 63 = .ok (.getfield 56, 3) := by decide +kernel
theorem dX9_copy_66 : decode cX9_copy 66 = .ok (.iload_n 1, 1) := by decide +kernel
theorem dX9_copy_67 : decode cX9_copy 67 = .ok (.iaload, 1) := by decide +kernel
theorem dX9_copy_68 : decode cX9_copy 68 = .ok (.iload_n 2, 1) := by decide +kernel
theorem dX9_copy_69 : decode cX9_copy 69 = .ok (.iload 5, 2) := by decide +kernel
theorem dX9_copy_71 : decode cX9_copy 71 = .ok (.invokevirtual 261, 3) := by decide +kernel
theorem dX9_copy_74 : decode cX9_copy 74 = .ok (.ifCond .lt 21, 3) := by decide +kernel
theorem dX9_copy_77 : decode cX9_copy 77 = .ok (.aload_n 0, 1) := by decide +kernel
theorem dX9_copy_78 : decode cX9_copy 78 = .ok (.iload_n 3, 1) := by decide +kernel
theorem dX9_copy_79 : decode cX9_copy 79 = .ok (.aload_n 0, 1) := by decide +kernel
theorem dX9_copy_80 : decode cX9_copy 80 = .ok (.getfield 56, 3) := by decide +kernel
theorem dX9_copy_83 : decode cX9_copy 83 = .ok (.iload_n 3, 1) := by decide +kernel
theorem dX9_copy_84 : decode cX9_copy 84 = .ok (.iaload, 1) := by decide +kernel
theorem dX9_copy_85 : decode cX9_copy 85 = .ok (.iload 4, 2) := by decide +kernel
theorem dX9_copy_87 : decode cX9_copy 87 = .ok (.iload 5, 2) := by decide +kernel
theorem dX9_copy_89 : decode cX9_copy 89 = .ok (.invokevirtual 261, 3) := by decide +kernel
theorem dX9_copy_92 : decode cX9_copy 92 = .ok (.ifCond .ge 6, 3) := by decide +kernel
theorem dX9_copy_95 : decode cX9_copy 95 = .ok (.bipush (-13), 2) := by decide +kernel
theorem dX9_copy_97 : decode cX9_copy 97 = .ok (.ireturn, 1) := by decide +kernel
theorem dX9_copy_98 : decode cX9_copy 98 = .ok (.iconst 0, 1) := by decide +kernel
theorem dX9_copy_99 : decode cX9_copy 99 = .ok (.istore 6, 2) := by decide +kernel
theorem dX9_copy_101 : decode cX9_copy 101 = .ok (.iload 6, 2) := by decide +kernel
theorem dX9_copy_103 : decode cX9_copy 103 = .ok (.iload 5, 2) := by decide +kernel
theorem dX9_copy_105 : decode cX9_copy 105 = .ok (.if_icmp .ge 30, 3) := by decide +kernel
theorem dX9_copy_108 : decode cX9_copy 108 = .ok (.aload_n 0, 1) := by decide +kernel
theorem dX9_copy_109 : decode cX9_copy 109 = .ok (.getfield 65, 3) := by decide +kernel
theorem dX9_copy_112 : decode cX9_copy 112 = .ok (.iload 6, 2) := by decide +kernel
theorem dX9_copy_114 : decode cX9_copy 114 = .ok (.aload_n 0, 1) := by decide +kernel
theorem dX9_copy_115 : decode cX9_copy 115 = .ok (.getfield 62, 3) := by decide +kernel
theorem dX9_copy_118 : decode cX9_copy 118 = .ok (.bipush 24, 2) := by decide +kernel
theorem dX9_copy_120 : decode cX9_copy 120 = .ok (.iload_n 1, 1) := by decide +kernel
theorem dX9_copy_121 : decode cX9_copy 121 = .ok (.imul, 1) := by decide +kernel
theorem dX9_copy_122 : decode cX9_copy 122 = .ok (.iload_n 2, 1) := by decide +kernel
theorem dX9_copy_123 : decode cX9_copy 123 = .ok (.iadd, 1) := by decide +kernel
theorem dX9_copy_124 : decode cX9_copy 124 = .ok (.iload 6, 2) := by decide +kernel
theorem dX9_copy_126 : decode cX9_copy 126 = .ok (.iadd, 1) := by decide +kernel
theorem dX9_copy_127 : decode cX9_copy 127 = .ok (.iaload, 1) := by decide +kernel
theorem dX9_copy_128 : decode cX9_copy 128 = .ok (.iastore, 1) := by decide +kernel
theorem dX9_copy_129 : decode cX9_copy 129 = .ok (.iinc 6 1, 3) := by decide +kernel
theorem dX9_copy_132 : decode cX9_copy 132 = .ok (.goto (-31), 3) := by decide +kernel
theorem dX9_copy_135 : decode cX9_copy 135 = .ok (.iconst 0, 1) := by decide +kernel
theorem dX9_copy_136 : decode cX9_copy 136 = .ok (.istore 6, 2) := by decide +kernel
theorem dX9_copy_138 : decode cX9_copy 138 = .ok (.iload 6, 2) := by decide +kernel
theorem dX9_copy_140 : decode cX9_copy 140 = .ok (.iload 5, 2) := by decide +kernel
theorem dX9_copy_142 : decode cX9_copy 142 = .ok (.if_icmp .ge 31, 3) := by decide +kernel
theorem dX9_copy_145 : decode cX9_copy 145 = .ok (.aload_n 0, 1) := by decide +kernel
theorem dX9_copy_146 : decode cX9_copy 146 = .ok (.getfield 62, 3) := by decide +kernel
theorem dX9_copy_149 : decode cX9_copy 149 = .ok (.bipush 24, 2) := by decide +kernel
theorem dX9_copy_151 : decode cX9_copy 151 = .ok (.iload_n 3, 1) := by decide +kernel
theorem dX9_copy_152 : decode cX9_copy 152 = .ok (.imul, 1) := by decide +kernel
theorem dX9_copy_153 : decode cX9_copy 153 = .ok (.iload 4, 2) := by decide +kernel
theorem dX9_copy_155 : decode cX9_copy 155 = .ok (.iadd, 1) := by decide +kernel
theorem dX9_copy_156 : decode cX9_copy 156 = .ok (.iload 6, 2) := by decide +kernel
theorem dX9_copy_158 : decode cX9_copy 158 = .ok (.iadd, 1) := by decide +kernel
theorem dX9_copy_159 : decode cX9_copy 159 = .ok (.aload_n 0, 1) := by decide +kernel
theorem dX9_copy_160 : decode cX9_copy 160 = .ok (.getfield 65, 3) := by decide +kernel
theorem dX9_copy_163 : decode cX9_copy 163 = .ok (.iload 6, 2) := by decide +kernel
theorem dX9_copy_165 : decode cX9_copy 165 = .ok (.iaload, 1) := by decide +kernel
theorem dX9_copy_166 : decode cX9_copy 166 = .ok (.iastore, 1) := by decide +kernel
theorem dX9_copy_167 : decode cX9_copy 167 = .ok (.iinc 6 1, 3) := by decide +kernel
theorem dX9_copy_170 : decode cX9_copy 170 = .ok (.goto (-32), 3) := by decide +kernel
theorem dX9_copy_173 : decode cX9_copy 173 = .ok (.iload 5, 2) := by decide +kernel
theorem dX9_copy_175 : decode cX9_copy 175 = .ok (.ireturn, 1) := by decide +kernel
