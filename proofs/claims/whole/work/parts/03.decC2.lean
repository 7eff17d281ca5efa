theorem dX9_groups_169 : decode cX9_groups 169 = .ok (.isub, 1) := by decide +kernel
theorem dX9_groups_170 : decode cX9_groups 170 = .ok (.iaload, 1) := by decide +kernel
theorem dX9_groups_171 : decode cX9_groups 171 = .ok (.ifCond .lt 27, 3) := by decide +kernel
theorem dX9_groups_174 : decode cX9_groups 174 = .ok (.aload_n 0, 1) := by decide +kernel
theorem dX9_groups_175 : decode cX9_groups 175 = .ok (.getfield 47, 3) := by decide +kernel
theorem dX9_groups_178 : decode cX9_groups 178 = .ok (.iload_n 3, 1) := by decide +kernel
theorem dX9_groups_179 : decode cX9_groups 179 = .ok (.iconst 1, 1) := by decide +kernel
theorem dX9_groups_180 : decode cX9_groups 180 = .ok (.isub, 1) := by decide +kernel
theorem dX9_groups_181 : decode cX9_groups 181 = .ok (.iaload, 1) := by decide +kernel
theorem dX9_groups_182 : decode cX9_groups 182 = .ok (.iload 4, 2) := by decide +kernel
theorem dX9_groups_184 : decode cX9_groups 184 = .ok (.if_icmp .ge 14, 3) := by decide +kernel
theorem dX9_groups_187 : decode cX9_groups 187 = .ok (.aload_n 0, 1) := by decide +kernel
theorem dX9_groups_188 : decode cX9_groups 188 = .ok (.getfield 47, 3) := by decide +kernel
theorem dX9_groups_191 : decode cX9_groups 191 = .ok (.iload_n 3, 1) := by decide +kernel
theorem dX9_groups_192 : decode cX9_groups 192 = .ok (.iconst 1, 1) := by decide +kernel
theorem dX9_groups_193 : decode cX9_groups 193 = .ok (.isub, 1) := by decide +kernel
theorem dX9_groups_194 : decode cX9_groups 194 = .ok (.iaload, 1) := by decide +kernel
theorem dX9_groups_195 : decode cX9_groups 195 = .ok (.goto 5, 3) := by decide +kernel
theorem dX9_groups_198 : decode cX9_groups 198 = .ok (.iload 4, 2) := by decide +kernel
theorem dX9_groups_200 : decode cX9_groups 200 = .ok (.istore 4, 2) := by decide +kernel
theorem dX9_groups_202 : decode cX9_groups 202 = .ok (.iload_n 3, 1) := by decide +kernel
theorem dX9_groups_203 : decode cX9_groups 203 = .ok (.bipush 10, 2) := by decide +kernel
theorem dX9_groups_205 : decode cX9_groups 205 = .ok (.irem, 1) := by decide +kernel
theorem dX9_groups_206 : decode cX9_groups 206 = .ok (.bipush 9, 2) := by decide +kernel
theorem dX9_groups_208 : decode cX9_groups 208 = .ok (.if_icmp .ge 38, 3) := by decide +kernel
theorem dX9_groups_211 : decode cX9_groups 211 = .ok (.aload_n 0, 1) := by decide +kernel
theorem dX9_groups_212 : decode cX9_groups 212 = .ok (.getfield 47, 3) := by decide +kernel
theorem dX9_groups_215 : decode cX9_groups 215 = .ok (.iload_n 3, 1) := by decide +kernel
theorem dX9_groups_216 : decode cX9_groups 216 = .ok (.iconst 1, 1) := by decide +kernel
theorem dX9_groups_217 : decode cX9_groups 217 = .ok (.iadd, 1) := by decide +kernel
theorem dX9_groups_218 : decode cX9_groups 218 = .ok (.iaload, 1) := by decide +kernel
theorem dX9_groups_219 : decode cX9_groups 219 = .ok (.ifCond .lt 27, 3) := by decide +kernel
theorem dX9_groups_222 : decode cX9_groups 222 = .ok (.aload_n 0, 1) := by decide +kernel
theorem dX9_groups_223 : decode cX9_groups 223 = .ok (.getfield 47, 3) := by decide +kernel
theorem dX9_groups_226 : decode cX9_groups 226 = .ok (.iload_n 3, 1) := by decide +kernel
theorem dX9_groups_227 : decode cX9_groups 227 = .ok (.iconst 1, 1) := by decide +kernel
theorem dX9_groups_228 : decode cX9_groups 228 = .ok (.iadd, 1) := by decide +kernel
theorem dX9_groups_229 : decode cX9_groups 229 = .ok (.iaload, 1) := by decide +kernel
theorem dX9_groups_230 : decode cX9_groups 230 = .ok (.iload 4, 2) := by decide +kernel
theorem dX9_groups_232 : decode cX9_groups 232 = .ok (.if_icmp .ge 14, 3) := by decide +kernel
theorem dX9_groups_235 : decode cX9_groups 235 = .ok (.aload_n 0, 1) := by decide +kernel
theorem dX9_groups_236 : decode cX9_groups 236 = .ok (.getfield 47, 3) := by decide +kernel
theorem dX9_groups_239 : decode cX9_groups 239 = .ok (.iload_n 3, 1) := by decide +kernel
theorem dX9_groups_240 : decode cX9_groups 240 = .ok (.iconst 1, 1) := by decide +kernel
theorem dX9_groups_241 : decode cX9_groups 241 = .ok (.iadd, 1) := by decide +kernel
theorem dX9_groups_242 : decode cX9_groups 242 = .ok (.iaload, 1) := by decide +kernel
theorem dX9_groups_243 : decode cX9_groups 243 = .ok (.goto 5, 3) := by decide +kernel
theorem dX9_groups_246 : decode cX9_groups 246 = .ok (.iload 4, 2) := by decide +kernel
theorem dX9_groups_248 : decode cX9_groups 248 = .ok (.istore 4, 2) := by decide +kernel
theorem dX9_groups_250 : decode cX9_groups 250 = .ok (.iload_n 2, 1) := by decide +kernel
theorem dX9_groups_251 : decode cX9_groups 251 = .ok (.ifCond .ne 14, 3) := by decide +kernel
theorem dX9_groups_254 : decode cX9_groups 254 = .ok (.iload 4, 2) := by decide +kernel
theorem dX9_groups_256 : decode cX9_groups 256 = .ok (.aload_n 0, 1) := by decide +kernel
theorem dX9_groups_257 : decode cX9_groups 257 = .ok (.getfield 47, 3) := by decide +kernel
theorem dX9_groups_260 : decode cX9_groups 260 = .ok (.iload_n 3, 1) := by decide +kernel
theorem dX9_groups_261 : decode cX9_groups 261 = .ok (.iaload, 1) := by decide +kernel
theorem dX9_groups_262 : decode cX9_groups 262 = .ok (.if_icmp .ge 7, 3) := by decide +kernel
theorem dX9_groups_265 : decode cX9_groups 265 = .ok (.iconst 1, 1) := by decide +kernel
theorem dX9_groups_266 : decode cX9_groups 266 = .ok (.goto 4, 3) := by decide +kernel
theorem dX9_groups_269 : decode cX9_groups 269 = .ok (.iconst 0, 1) := by decide +kernel
theorem dX9_groups_270 : decode cX9_groups 270 = .ok (.istore_n 2, 1) := by decide +kernel
theorem dX9_groups_271 : decode cX9_groups 271 = .ok (.aload_n 0, 1) := by decide +kernel
theorem dX9_groups_272 : decode cX9_groups 272 = .ok (.getfield 47, 3) := by decide +kernel
theorem dX9_groups_275 : decode cX9_groups 275 = .ok (.iload_n 3, 1) := by decide +kernel
theorem dX9_groups_276 : decode cX9_groups 276 = .ok (.iload 4, 2) := by decide +kernel
theorem dX9_groups_278 : decode cX9_groups 278 = .ok (.iastore, 1) := by decide +kernel
theorem dX9_groups_279 : decode cX9_groups 279 = .ok (.iinc 3 1, 3) := by decide +kernel
theorem dX9_groups_282 : decode cX9_groups 282 = .ok (.goto (-236), 3) := by decide +kernel
theorem dX9_groups_285 : decode cX9_groups 285 = .ok (.goto (-247), 3) := by decide +kernel
theorem dX9_groups_288 : decode cX9_groups 288 = .ok (.return_, 1) := by decide +kernel
theorem dX9_cells_0 : decode cX9_cells 0 = .ok (.aload_n 0, 1) := by decide +kernel
theorem dX9_cells_1 : decode cX9_cells 1 = .ok (.iload_n 1, 1) := by decide +kernel
theorem dX9_cells_2 : decode cX9_cells 2 = .ok (.invokevirtual 95, 3) := by decide +kernel
theorem dX9_cells_5 : decode cX9_cells 5 = .ok (.ifCond .eq 15, 3) := by decide +kernel
theorem dX9_cells_8 : decode cX9_cells 8 = .ok (.iload_n 2, 1) := by decide +kernel
theorem dX9_cells_9 : decode cX9_cells 9 = .ok (.i2l, 1) := by decide +kernel
theorem dX9_cells_10 : decode cX9_cells 10 = .ok (.lconst 0, 1) := by decide +kernel
theorem dX9_cells_11 : decode cX9_cells 11 = .ok (.ldc2_w 75, 3) := by decide +kernel
theorem dX9_cells_14 : decode cX9_cells 14 = .ok (.invokestatic 71, 3) := by decide +kernel
theorem dX9_cells_17 : decode cX9_cells 17 = .ok (.ifCond .ne 5, 3) := by decide +kernel
theorem dX9_cells_20 : decode cX9_cells 20 = .ok (.iconst (-1), 1) := by decide +kernel
theorem dX9_cells_21 : decode cX9_cells 21 = .ok (.ireturn, 1) := by decide +kernel
theorem dX9_cells_22 : decode cX9_cells 22 = .ok (.aload_n 0, 1) := by decide +kernel
theorem dX9_cells_23 : decode cX9_cells 23 = .ok (.getfield 100, 3) := by decide +kernel
theorem dX9_cells_26 : decode cX9_cells 26 = .ok (.ifCond .ne 6, 3) := by decide +kernel
theorem dX9_cells_29 : decode cX9_cells 29 = .ok (.bipush (-2), 2) := by decide +kernel
theorem dX9_cells_31 : decode cX9_cells 31 = .ok (.ireturn, 1) := by decide +kernel
theorem dX9_cells_32 : decode cX9_cells 32 = .ok (.aload_n 0, 1) := by decide +kernel
theorem dX9_cells_33 : decode cX9_cells 33 = .ok (.invokevirtual 232, 3) := by decide +kernel
theorem dX9_cells_36 : decode cX9_cells 36 = .ok (.aload_n 0, 1) := by decide +kernel
theorem dX9_cells_37 : decode cX9_cells 37 = .ok (.iload_n 1, 1) := by decide +kernel
theorem dX9_cells_38 : decode cX9_cells 38 = .ok (.invokevirtual 235, 3) := by decide +kernel
theorem dX9_cells_41 : decode cX9_cells 41 = .ok (.iconst 0, 1) := by decide +kernel
theorem dX9_cells_42 : decode cX9_cells 42 = .ok (.istore_n 3, 1) := by decide +kernel
theorem dX9_cells_43 : decode cX9_cells 43 = .ok (.iconst 0, 1) := by decide +kernel
theorem dX9_cells_44 : decode cX9_cells 44 = .ok (.istore 4, 2) := by decide +kernel
theorem dX9_cells_46 : decode cX9_cells 46 = .ok (.iconst 0, 1) := by decide +kernel
theorem dX9_cells_47 : decode cX9_cells 47 = .ok (.istore 5, 2) := by decide +kernel
theorem dX9_cells_49 : decode cX9_cells 49 = .ok (.iconst 0, 1) := by decide +kernel
theorem dX9_cells_50 : decode cX9_cells 50 = .ok (.istore 6, 2) := by decide +kernel
theorem dX9_cells_52 : decode cX9_cells 52 = .ok (.iload 6, 2) := by decide +kernel
theorem dX9_cells_54 : decode cX9_cells 54 = .ok (.bipush 90, 2) := by decide +kernel
theorem dX9_cells_56 : decode cX9_cells 56 = .ok (.if_icmp .ge 86, 3) := by decide +kernel
theorem dX9_cells_59 : decode cX9_cells 59 = .ok (.iconst 0, 1) := by decide +kernel
theorem dX9_cells_60 : decode cX9_cells 60 = .ok (.istore 7, 2) := by decide +kernel
theorem dX9_cells_62 : decode cX9_cells 62 = .ok (.iconst 0, 1) := by decide +kernel
theorem dX9_cells_63 : decode cX9_cells 63 = .ok (.istore 8, 2) := by decide +kernel
theorem dX9_cells_65 : decode cX9_cells 65 = .ok (.iload 8, 2) := by decide +kernel
theorem dX9_cells_67 : decode cX9_cells 67 = .ok (.bipush 90, 2) := by decide +kernel
theorem dX9_cells_69 : decode cX9_cells 69 = .ok (.if_icmp .ge 31, 3) := by decide +kernel
theorem dX9_cells_72 : decode cX9_cells 72 = .ok (.iload 7, 2) := by decide +kernel
theorem dX9_cells_74 : decode cX9_cells 74 = .ok (.aload_n 0, 1) := by decide +kernel
theorem dX9_cells_75 : decode cX9_cells 75 = .ok (.getfield 47, 3) := by decide +kernel
theorem dX9_cells_78 : decode cX9_cells 78 = .ok (.iload 8, 2) := by decide +kernel
theorem dX9_cells_80 : decode cX9_cells 80 = .ok (.iaload, 1) := by decide +kernel
theorem dX9_cells_81 : decode cX9_cells 81 = .ok (.iload 6, 2) := by decide +kernel
theorem dX9_cells_83 : decode cX9_cells 83 = .ok (.if_icmp .ne 7, 3) := by decide +kernel
theorem dX9_cells_86 : decode cX9_cells 86 = .ok (.iconst 1, 1) := by decide +kernel
theorem dX9_cells_87 : decode cX9_cells 87 = .ok (.goto 4, 3) := by decide +kernel
theorem dX9_cells_90 : decode cX9_cells 90 = .ok (.iconst 0, 1) := by decide +kernel
theorem dX9_cells_91 : decode cX9_cells 91 = .ok (.iadd, 1) := by decide +kernel
theorem dX9_cells_92 : decode cX9_cells 92 = .ok (.istore 7, 2) := by decide +kernel
theorem dX9_cells_94 : decode cX9_cells 94 = .ok (.iinc 8 1, 3) := by decide +kernel
theorem dX9_cells_97 : decode cX9_cells 97 = .ok (.goto (-32), 3) := by decide +kernel
theorem dX9_cells_100 : decode cX9_cells 100 = .ok (.iload_n 3, 1) := by decide +kernel
theorem dX9_cells_101 : decode cX9_cells 101 = .ok (.iload 7, 2) := by decide +kernel
theorem dX9_cells_103 : decode cX9_cells 103 = .ok (.iadd, 1) := by decide +kernel
theorem dX9_cells_104 : decode cX9_cells 104 = .ok (.istore_n 3, 1) := by decide +kernel
theorem dX9_cells_105 : decode cX9_cells 105 = .ok (.iload 4, 2) := by decide +kernel
theorem dX9_cells_107 : decode cX9_cells 107 = .ok (.iload 7, 2) := by decide +kernel
theorem dX9_cells_109 : decode cX9_cells 109 = .ok (.ifCond .le 7, 3) := by decide +kernel
theorem dX9_cells_112 : decode cX9_cells 112 = .ok (.iconst 1, 1) := by decide +kernel
theorem dX9_cells_113 : decode cX9_cells 113 = .ok (.goto 4, 3) := by decide +kernel
theorem dX9_cells_116 : decode cX9_cells 116 = .ok (.iconst 0, 1) := by decide +kernel
theorem dX9_cells_117 : decode cX9_cells 117 = .ok (.iadd, 1) := by decide +kernel
theorem dX9_cells_118 : decode cX9_cells 118 = .ok (.istore 4, 2) := by decide +kernel
theorem dX9_cells_120 : decode cX9_cells 120 = .ok (.iload 7, 2) := by decide +kernel
theorem dX9_cells_122 : decode cX9_cells 122 = .ok (.iload 5, 2) := by decide +kernel
theorem dX9_cells_124 : decode cX9_cells 124 = .ok (.if_icmp .le 8, 3) := by decide +kernel
theorem dX9_cells_127 : decode cX9_cells 127 = .ok (.iload 7, 2) := by decide +kernel
theorem dX9_cells_129 : decode cX9_cells 129 = .ok (.goto 5, 3) := by decide +kernel
theorem dX9_cells_132 : decode cX9_cells 132 = .ok (.iload 5, 2) := by decide +kernel
theorem dX9_cells_134 : decode cX9_cells 134 = .ok (.istore 5, 2) := by decide +kernel
theorem dX9_cells_136 : decode cX9_cells 136 = .ok (.iinc 6 1, 3) := by decide +kernel
theorem dX9_cells_139 : decode cX9_cells 139 = .ok (.goto (-87), 3) := by decide +kernel
theorem dX9_cells_142 : decode cX9_cells 142 = .ok (.iload_n 2, 1) := by decide +kernel
theorem dX9_cells_143 : decode cX9_cells 143 = .ok (.ifCond .ne 7, 3) := by decide +kernel
theorem dX9_cells_146 : decode cX9_cells 146 = .ok (.iload_n 3, 1) := by decide +kernel
theorem dX9_cells_147 : decode cX9_cells 147 = .ok (.goto 15, 3) := by decide +kernel
theorem dX9_cells_150 : decode cX9_cells 150 = .ok (.iload_n 2, 1) := by decide +kernel
theorem dX9_cells_151 : decode cX9_cells 151 = .ok (.iconst 1, 1) := by decide +kernel
theorem dX9_cells_152 : decode cX9_cells 152 = .ok (.if_icmp .ne 8, 3) := by decide +kernel
theorem dX9_cells_155 : decode cX9_cells 155 = .ok (.iload 4, 2) := by decide +kernel
theorem dX9_cells_157 : decode cX9_cells 157 = .ok (.goto 5, 3) := by decide +kernel
theorem dX9_cells_160 : decode cX9_cells 160 = .ok (.iload 5, 2) := by decide +kernel
theorem dX9_cells_162 : decode cX9_cells 162 = .ok (.ireturn, 1) := by decide +kernel
theorem dX9_isRing_0 : decode cX9_isRing 0 = .ok (.iload_n 2, 1) := by decide +kernel
theorem dX9_isRing_1 : decode cX9_isRing 1 = .ok (.iload 4, 2) := by decide +kernel
theorem dX9_isRing_3 : decode cX9_isRing 3 = .ok (.isub, 1) := by decide +kernel
theorem dX9_isRing_4 : decode cX9_isRing 4 = .ok (.ifCond .lt 32, 3) := by decide +kernel
theorem dX9_isRing_7 : decode cX9_isRing 7 = .ok (.iload_n 2, 1) := by decide +kernel
theorem dX9_isRing_8 : decode cX9_isRing 8 = .ok (.iload 4, 2) := by decide +kernel
theorem dX9_isRing_10 : decode cX9_isRing 10 = .ok (.iadd, 1) := by decide +kernel
theorem dX9_isRing_11 : decode cX9_isRing 11 = .ok (.bipush 9, 2) := by decide +kernel
theorem dX9_isRing_13 : decode cX9_isRing 13 = .ok (.if_icmp .ge 23, 3) := by decide +kernel
theorem dX9_isRing_16 : decode cX9_isRing 16 = .ok (.iload_n 3, 1) := by decide +kernel
theorem dX9_isRing_17 : decode cX9_isRing 17 = .ok (.iload 4, 2) := by decide +kernel
theorem dX9_isRing_19 : decode cX9_isRing 19 = .ok (.isub, 1) := by decide +kernel
theorem dX9_isRing_20 : decode cX9_isRing 20 = .ok (.ifCond .lt 16, 3) := by decide +kernel
theorem dX9_isRing_23 : decode cX9_isRing 23 = .ok (.iload_n 3, 1) := by decide +kernel
theorem dX9_isRing_24 : decode cX9_isRing 24 = .ok (.iload 4, 2) := by decide +kernel
theorem dX9_isRing_26 : decode cX9_isRing 26 = .ok (.iadd, 1) := by decide +kernel
theorem dX9_isRing_27 : decode cX9_isRing 27 = .ok (.bipush 10, 2) := by decide +kernel
theorem dX9_isRing_29 : decode cX9_isRing 29 = .ok (.if_icmp .ge 7, 3) := by decide +kernel
theorem dX9_isRing_32 : decode cX9_isRing 32 = .ok (.iconst 1, 1) := by decide +kernel
theorem dX9_isRing_33 : decode cX9_isRing 33 = .ok (.goto 4, 3) := by decide +kernel
theorem dX9_isRing_36 : decode cX9_isRing 36 = .ok (.iconst 0, 1) := by decide +kernel
theorem dX9_isRing_37 : decode cX9_isRing 37 = .ok (.istore 5, 2) := by decide +kernel
theorem dX9_isRing_39 : decode cX9_isRing 39 = .ok (.iload_n 2, 1) := by decide +kernel
theorem dX9_isRing_40 : decode cX9_isRing 40 = .ok (.iload 4, 2) := by decide +kernel
theorem dX9_isRing_42 : decode cX9_isRing 42 = .ok (.isub, 1) := by decide +kernel
theorem dX9_isRing_43 : decode cX9_isRing 43 = .ok (.istore 6, 2) := by decide +kernel
theorem dX9_isRing_45 : decode cX9_isRing 45 = .ok (.iload 6, 2) := by decide +kernel
theorem dX9_isRing_47 : decode cX9_isRing 47 = .ok (.iload_n 2, 1) := by decide +kernel
theorem dX9_isRing_48 : decode cX9_isRing 48 = .ok (.iload 4, 2) := by decide +kernel
theorem dX9_isRing_50 : decode cX9_isRing 50 = .ok (.iadd, 1) := by decide +kernel
theorem dX9_isRing_51 : decode cX9_isRing 51 = .ok (.if_icmp .gt 64, 3) := by decide +kernel
theorem dX9_isRing_54 : decode cX9_isRing 54 = .ok (.iload 5, 2) := by decide +kernel
theorem dX9_isRing_56 : decode cX9_isRing 56 = .ok (.ifCond .eq 59, 3) := by decide +kernel
theorem dX9_isRing_59 : decode cX9_isRing 59 = .ok (.iload_n 3, 1) := by decide +kernel
theorem dX9_isRing_60 : decode cX9_isRing 60 = .ok (.iload 4, 2) := by decide +kernel
theorem dX9_isRing_62 : decode cX9_isRing 62 = .ok (.isub, 1) := by decide +kernel
theorem dX9_isRing_63 : decode cX9_isRing 63 = .ok (.istore 7, 2) := by decide +kernel
theorem dX9_isRing_65 : decode cX9_isRing 65 = .ok (.iload 7, 2) := by decide +kernel
theorem dX9_isRing_67 : decode cX9_isRing 67 = .ok (.iload_n 3, 1) := by decide +kernel
theorem dX9_isRing_68 : decode cX9_isRing 68 = .ok (.iload 4, 2) := by decide +kernel
theorem dX9_isRing_70 : decode cX9_isRing 70 = .ok (.iadd, 1) := by decide +kernel
theorem dX9_isRing_71 : decode cX9_isRing 71 = .ok (.if_icmp .gt 38, 3) := by decide +kernel
theorem dX9_isRing_74 : decode cX9_isRing 74 = .ok (.iload 5, 2) := by decide +kernel
theorem dX9_isRing_76 : decode cX9_isRing 76 = .ok (.ifCond .eq 24, 3) := by decide +kernel
theorem dX9_isRing_79 : decode cX9_isRing 79 = .ok (.aload_n 0, 1) := by decide +kernel
theorem dX9_isRing_80 : decode cX9_isRing 80 = .ok (.getfield 41, 3) := by decide +kernel
theorem dX9_isRing_83 : decode cX9_isRing 83 = .ok (.bipush 10, 2) := by decide +kernel
theorem dX9_isRing_85 : decode cX9_isRing 85 = .ok (.iload 6, 2) := by decide +kernel
theorem dX9_isRing_87 : decode cX9_isRing 87 = .ok (.imul, 1) := by decide +kernel
theorem dX9_isRing_88 : decode cX9_isRing 88 = .ok (.iload 7, 2) := by decide +kernel
theorem dX9_isRing_90 : decode cX9_isRing 90 = .ok (.iadd, 1) := by decide +kernel
theorem dX9_isRing_91 : decode cX9_isRing 91 = .ok (.iaload, 1) := by decide +kernel
theorem dX9_isRing_92 : decode cX9_isRing 92 = .ok (.iload_n 1, 1) := by decide +kernel
theorem dX9_isRing_93 : decode cX9_isRing 93 = .ok (.if_icmp .ne 7, 3) := by decide +kernel
theorem dX9_isRing_96 : decode cX9_isRing 96 = .ok (.iconst 1, 1) := by decide +kernel
theorem dX9_isRing_97 : decode cX9_isRing 97 = .ok (.goto 4, 3) := by decide +kernel
theorem dX9_isRing_100 : decode cX9_isRing 100 = .ok (.iconst 0, 1) := by decide +kernel
theorem dX9_isRing_101 : decode cX9_isRing 101 = .ok (.istore 5, 2) := by decide +kernel
theorem dX9_isRing_103 : decode cX9_isRing 103 = .ok (.iinc 7 1, 3) := by decide +kernel
theorem dX9_isRing_106 : decode cX9_isRing 106 = .ok (.goto (-41), 3) := by decide +kernel
theorem dX9_isRing_109 : decode cX9_isRing 109 = .ok (.iinc 6 1, 3) := by decide +kernel
theorem dX9_isRing_112 : decode cX9_isRing 112 = .ok (.goto (-67), 3) := by decide +kernel
theorem dX9_isRing_115 : decode cX9_isRing 115 = .ok (.iload 5, 2) := by decide +kernel
theorem dX9_isRing_117 : decode cX9_isRing 117 = .ok (.ireturn, 1) := by decide +kernel
theorem dX9_middle_0 : decode cX9_middle 0 = .ok (.aload_n 0, 1) := by decide +kernel
theorem dX9_middle_1 : decode cX9_middle 1 = .ok (.iload_n 1, 1) := by decide +kernel
theorem dX9_middle_2 : decode cX9_middle 2 = .ok (.invokevirtual 95, 3) := by decide +kernel
theorem dX9_middle_5 : decode cX9_middle 5 = .ok (.ifCond .eq 15, 3) := by decide +kernel
theorem dX9_middle_8 : decode cX9_middle 8 = .ok (.iload_n 2, 1) := by decide +kernel
theorem dX9_middle_9 : decode cX9_middle 9 = .ok (.i2l, 1) := by decide +kernel
theorem dX9_middle_10 : decode cX9_middle 10 = .ok (.lconst 0, 1) := by decide +kernel
theorem dX9_middle_11 : decode cX9_middle 11 = .ok (.ldc2_w 75, 3) := by decide +kernel
theorem dX9_middle_14 : decode cX9_middle 14 = .ok (.invokestatic 71, 3) := by decide +kernel
theorem dX9_middle_17 : decode cX9_middle 17 = .ok (.ifCond .ne 6, 3) := by decide +kernel
theorem dX9_middle_20 : decode cX9_middle 20 = .ok (.ldc 99, 2) := by decide +kernel
theorem dX9_middle_22 : decode cX9_middle 22 = .ok (.ireturn, 1) := by decide +kernel
theorem dX9_middle_23 : decode cX9_middle 23 = .ok (.aload_n 0, 1) := by decide +kernel
theorem dX9_middle_24 : decode cX9_middle 24 = .ok (.getfield 100, 3) := by decide +kernel
theorem dX9_middle_27 : decode cX9_middle 27 = .ok (.ifCond .ne 6, 3) := by decide +kernel
theorem dX9_middle_30 : decode cX9_middle 30 = .ok (.ldc 238, 2) := by decide +kernel
theorem dX9_middle_32 : decode cX9_middle 32 = .ok (.ireturn, 1) := by decide +kernel
theorem dX9_middle_33 : decode cX9_middle 33 = .ok (.aload_n 0, 1) := by decide +kernel
theorem dX9_middle_34 : decode cX9_middle 34 = .ok (.invokevirtual 232, 3) := by decide +kernel
theorem dX9_middle_37 : decode cX9_middle 37 = .ok (.bipush (-4), 2) := by decide +kernel
theorem dX9_middle_39 : decode cX9_middle 39 = .ok (.istore_n 3, 1) := by decide +kernel
theorem dX9_middle_40 : decode cX9_middle 40 = .ok (.iconst (-1), 1) := by decide +kernel
theorem dX9_middle_41 : decode cX9_middle 41 = .ok (.istore 4, 2) := by decide +kernel
theorem dX9_middle_43 : decode cX9_middle 43 = .ok (.iconst 0, 1) := by decide +kernel
theorem dX9_middle_44 : decode cX9_middle 44 = .ok (.istore 5, 2) := by decide +kernel
theorem dX9_middle_46 : decode cX9_middle 46 = .ok (.iload 5, 2) := by decide +kernel
theorem dX9_middle_48 : decode cX9_middle 48 = .ok (.bipush 90, 2) := by decide +kernel
theorem dX9_middle_50 : decode cX9_middle 50 = .ok (.if_icmp .ge 70, 3) := by decide +kernel
theorem dX9_middle_53 : decode cX9_middle 53 = .ok (.iconst (-1), 1) := by decide +kernel
theorem dX9_middle_54 : decode cX9_middle 54 = .ok (.istore 6, 2) := by decide +kernel
theorem dX9_middle_56 : decode cX9_middle 56 = .ok (.aload_n 0, 1) := by decide +kernel
theorem dX9_middle_57 : decode cX9_middle 57 = .ok (.iload_n 1, 1) := by decide +kernel
theorem dX9_middle_58 : decode cX9_middle 58 = .ok (.iload 5, 2) := by decide +kernel
theorem dX9_middle_60 : decode cX9_middle 60 = .ok (.bipush 10, 2) := by decide +kernel
theorem dX9_middle_62 : decode cX9_middle 62 = .ok (.idiv, 1) := by decide +kernel
theorem dX9_middle_63 : decode cX9_middle 63 = .ok (.iload 5, 2) := by decide +kernel
theorem dX9_middle_65 : decode cX9_middle 65 = .ok (.bipush 10, 2) := by decide +kernel
theorem dX9_middle_67 : decode cX9_middle 67 = .ok (.irem, 1) := by decide +kernel
theorem dX9_middle_68 : decode cX9_middle 68 = .ok (.iload 6, 2) := by decide +kernel
theorem dX9_middle_70 : decode cX9_middle 70 = .ok (.iconst 1, 1) := by decide +kernel
theorem dX9_middle_71 : decode cX9_middle 71 = .ok (.iadd, 1) := by decide +kernel
theorem dX9_middle_72 : decode cX9_middle 72 = .ok (.invokevirtual 239, 3) := by decide +kernel
theorem dX9_middle_75 : decode cX9_middle 75 = .ok (.ifCond .eq 9, 3) := by decide +kernel
theorem dX9_middle_78 : decode cX9_middle 78 = .ok (.iinc 6 1, 3) := by decide +kernel
theorem dX9_middle_81 : decode cX9_middle 81 = .ok (.goto (-25), 3) := by decide +kernel
theorem dX9_middle_84 : decode cX9_middle 84 = .ok (.iload 6, 2) := by decide +kernel
theorem dX9_middle_86 : decode cX9_middle 86 = .ok (.iload 4, 2) := by decide +kernel
theorem dX9_middle_88 : decode cX9_middle 88 = .ok (.if_icmp .le 8, 3) := by decide +kernel
theorem dX9_middle_91 : decode cX9_middle 91 = .ok (.iload 5, 2) := by decide +kernel
theorem dX9_middle_93 : decode cX9_middle 93 = .ok (.goto 4, 3) := by decide +kernel
theorem dX9_middle_96 : decode cX9_middle 96 = .ok (.iload_n 3, 1) := by decide +kernel
theorem dX9_middle_97 : decode cX9_middle 97 = .ok (.istore_n 3, 1) := by decide +kernel
theorem dX9_middle_98 : decode cX9_middle 98 = .ok (.iload 6, 2) := by decide +kernel
theorem dX9_middle_100 : decode cX9_middle 100 = .ok (.iload 4, 2) := by decide +kernel
theorem dX9_middle_102 : decode cX9_middle 102 = .ok (.if_icmp .le 8, 3) := by decide +kernel
theorem dX9_middle_105 : decode cX9_middle 105 = .ok (.iload 6, 2) := by decide +kernel
theorem dX9_middle_107 : decode cX9_middle 107 = .ok (.goto 5, 3) := by decide +kernel
theorem dX9_middle_110 : decode cX9_middle 110 = .ok (.iload 4, 2) := by decide +kernel
theorem dX9_middle_112 : decode cX9_middle 112 = .ok (.istore 4, 2) := by decide +kernel
theorem dX9_middle_114 : decode cX9_middle 114 = .ok (.iinc 5 1, 3) := by decide +kernel
theorem dX9_middle_117 : decode cX9_middle 117 = .ok (.goto (-71), 3) := by decide +kernel
theorem dX9_middle_120 : decode cX9_middle 120 = .ok (.iload_n 3, 1) := by decide +kernel
theorem dX9_middle_121 : decode cX9_middle 121 = .ok (.ifCond .ge 8, 3) := by decide +kernel
theorem dX9_middle_124 : decode cX9_middle 124 = .ok (.ldc 243, 2) := by decide +kernel
theorem dX9_middle_126 : decode cX9_middle 126 = .ok (.goto 30, 3) := by decide +kernel
theorem dX9_middle_129 : decode cX9_middle 129 = .ok (.iload_n 2, 1) := by decide +kernel
theorem dX9_middle_130 : decode cX9_middle 130 = .ok (.ifCond .ne 12, 3) := by decide +kernel
theorem dX9_middle_133 : decode cX9_middle 133 = .ok (.iload_n 3, 1) := by decide +kernel
theorem dX9_middle_134 : decode cX9_middle 134 = .ok (.bipush 10, 2) := by decide +kernel
theorem dX9_middle_136 : decode cX9_middle 136 = .ok (.idiv, 1) := by decide +kernel
theorem dX9_middle_137 : decode cX9_middle 137 = .ok (.iconst 4, 1) := by decide +kernel
theorem dX9_middle_138 : decode cX9_middle 138 = .ok (.isub, 1) := by decide +kernel
theorem dX9_middle_139 : decode cX9_middle 139 = .ok (.goto 17, 3) := by decide +kernel
theorem dX9_middle_142 : decode cX9_middle 142 = .ok (.iload_n 2, 1) := by decide +kernel
theorem dX9_middle_143 : decode cX9_middle 143 = .ok (.iconst 1, 1) := by decide +kernel
theorem dX9_middle_144 : decode cX9_middle 144 = .ok (.if_icmp .ne 10, 3) := by decide +kernel
theorem dX9_middle_147 : decode cX9_middle 147 = .ok (.iload_n 3, 1) := by decide +kernel
theorem dX9_middle_148 : decode cX9_middle 148 = .ok (.bipush 10, 2) := by decide +kernel
theorem dX9_middle_150 : decode cX9_middle 150 = .ok (.irem, 1) := by decide +kernel
theorem dX9_middle_151 : decode cX9_middle 151 = .ok (.goto 5, 3) := by decide +kernel
theorem dX9_middle_154 : decode cX9_middle 154 = .ok (.iload 4, 2) := by decide +kernel
theorem dX9_middle_156 : decode cX9_middle 156 = .ok (.ireturn, 1) := by decide +kernel
theorem dX9_mended_0 : decode cX9_mended 0 = .ok (.aload_n 0, 1) := by decide +kernel
theorem dX9_mended_1 : decode cX9_mended 1 = .ok (.iload_n 1, 1) := by decide +kernel
theorem dX9_mended_2 : decode cX9_mended 2 = .ok (.invokevirtual 95, 3) := by decide +kernel
theorem dX9_mended_5 : decode cX9_mended 5 = .ok (.ifCond .eq 15, 3) := by decide +kernel
theorem dX9_mended_8 : decode cX9_mended 8 = .ok (.iload_n 2, 1) := by decide +kernel
theorem dX9_mended_9 : decode cX9_mended 9 = .ok (.i2l, 1) := by decide +kernel
theorem dX9_mended_10 : decode cX9_mended 10 = .ok (.lconst 0, 1) := by decide +kernel
theorem dX9_mended_11 : decode cX9_mended 11 = .ok (.ldc2_w 89, 3) := by decide +kernel
theorem dX9_mended_14 : decode cX9_mended 14 = .ok (.invokestatic 71, 3) := by decide +kernel
theorem dX9_mended_17 : decode cX9_mended 17 = .ok (.ifCond .ne 5, 3) := by decide +kernel
theorem dX9_mended_20 : decode cX9_mended 20 = .ok (.iconst (-1), 1) := by decide +kernel
theorem dX9_mended_21 : decode cX9_mended 21 = .ok (.ireturn, 1) := by decide +kernel
theorem dX9_mended_22 : decode cX9_mended 22 = .ok (.aload_n 0, 1) := by decide +kernel
theorem dX9_mended_23 : decode cX9_mended 23 = .ok (.getfield 100, 3) := by decide +kernel
theorem dX9_mended_26 : decode cX9_mended 26 = .ok (.ifCond .ne 6, 3) := by decide +kernel
theorem dX9_mended_29 : decode cX9_mended 29 = .ok (.bipush (-2), 2) := by decide +kernel
theorem dX9_mended_31 : decode cX9_mended 31 = .ok (.ireturn, 1) := by decide +kernel
theorem dX9_mended_32 : decode cX9_mended 32 = .ok (.aload_n 0, 1) := by decide +kernel
theorem dX9_mended_33 : decode cX9_mended 33 = .ok (.invokevirtual 232, 3) := by decide +kernel
theorem dX9_mended_36 : decode cX9_mended 36 = .ok (.iconst 0, 1) := by decide +kernel
theorem dX9_mended_37 : decode cX9_mended 37 = .ok (.istore_n 3, 1) := by decide +kernel
theorem dX9_mended_38 : decode cX9_mended 38 = .ok (.iload_n 3, 1) := by decide +kernel
theorem dX9_mended_39 : decode cX9_mended 39 = .ok (.bipush 90, 2) := by decide +kernel
theorem dX9_mended_41 : decode cX9_mended 41 = .ok (.if_icmp .ge 21, 3) := by decide +kernel
theorem dX9_mended_44 : decode cX9_mended 44 = .ok (.aload_n 0, 1) := by decide +kernel
theorem dX9_mended_45 : decode cX9_mended 45 = .ok (.getfield 44, 3) := by decide +kernel
theorem dX9_mended_48 : decode cX9_mended 48 = .ok (.iload_n 3, 1) := by decide +kernel
theorem dX9_mended_49 : decode cX9_mended 49 = .ok (.aload_n 0, 1) := by decide +kernel
theorem dX9_mended_50 : decode cX9_mended 50 = .ok (.getfield 41, 3) := by decide +kernel
theorem dX9_mended_53 : decode cX9_mended 53 = .ok (.iload_n 3, 1) := by decide +kernel
theorem dX9_mended_54 : decode cX9_mended 54 = .ok (.iaload, 1) := by decide +kernel
theorem dX9_mended_55 : decode cX9_mended 55 = .ok (.iastore, 1) := by decide +kernel
theorem dX9_mended_56 : decode cX9_mended 56 = .ok (.iinc 3 1, 3) := by decide +kernel
theorem dX9_mended_59 : decode cX9_mended 59 = .ok (.goto (-21), 3) := by decide +kernel
theorem dX9_mended_62 : decode cX9_mended 62 = .ok (.aload_n 0, 1) := by decide +kernel
theorem dX9_mended_63 : decode cX9_mended 63 = .ok (.iload_n 1, 1) := by decide +kernel
theorem dX9_mended_64 : decode cX9_mended 64 = .ok (.putfield 37, 3) := by decide +kernel
theorem dX9_mended_67 : decode cX9_mended 67 = .ok (.aload_n 0, 1) := by decide +kernel
theorem dX9_mended_68 : decode cX9_mended 68 = .ok (.iload_n 2, 1) := by decide +kernel
theorem dX9_mended_69 : decode cX9_mended 69 = .ok (.putfield 212, 3) := by decide +kernel
theorem dX9_mended_72 : decode cX9_mended 72 = .ok (.aload_n 0, 1) := by decide +kernel
theorem dX9_mended_73 : decode cX9_mended 73 = .ok (.invokevirtual 232, 3) := by decide +kernel
theorem dX9_mended_76 : decode cX9_mended 76 = .ok (.aload_n 0, 1) := by decide +kernel
theorem dX9_mended_77 : decode cX9_mended 77 = .ok (.bipush (-4), 2) := by decide +kernel
theorem dX9_mended_79 : decode cX9_mended 79 = .ok (.putfield 37, 3) := by decide +kernel
theorem dX9_mended_82 : decode cX9_mended 82 = .ok (.iconst 0, 1) := by decide +kernel
theorem dX9_mended_83 : decode cX9_mended 83 = .ok (.istore_n 3, 1) := by decide +kernel
theorem dX9_mended_84 : decode cX9_mended 84 = .ok (.iconst 0, 1) := by decide +kernel
theorem dX9_mended_85 : decode cX9_mended 85 = .ok (.istore 4, 2) := by decide +kernel
theorem dX9_mended_87 : decode cX9_mended 87 = .ok (.iload 4, 2) := by decide +kernel
theorem dX9_mended_89 : decode cX9_mended 89 = .ok (.bipush 90, 2) := by decide +kernel
theorem dX9_mended_91 : decode cX9_mended 91 = .ok (.if_icmp .ge 39, 3) := by decide +kernel
theorem dX9_mended_94 : decode cX9_mended 94 = .ok (.iload_n 3, 1) := by decide +kernel
theorem dX9_mended_95 : decode cX9_mended 95 = .ok (.aload_n 0, 1) := by decide +kernel
theorem dX9_mended_96 : decode cX9_mended 96 = .ok (.getfield 41, 3) := by decide +kernel
theorem dX9_mended_99 : decode cX9_mended 99 = .ok (.iload 4, 2) := by decide +kernel
theorem dX9_mended_101 : decode cX9_mended 101 = .ok (.iaload, 1) := by decide +kernel
theorem dX9_mended_102 : decode cX9_mended 102 = .ok (.iload_n 1, 1) := by decide +kernel
theorem dX9_mended_103 : decode cX9_mended 103 = .ok (.if_icmp .ne 18, 3) := by decide +kernel
theorem dX9_mended_106 : decode cX9_mended 106 = .ok (.aload_n 0, 1) := by decide +kernel
theorem dX9_mended_107 : decode cX9_mended 107 = .ok (.getfield 44, 3) := by decide +kernel
theorem dX9_mended_110 : decode cX9_mended 110 = .ok (.iload 4, 2) := by decide +kernel
theorem dX9_mended_112 : decode cX9_mended 112 = .ok (.iaload, 1) := by decide +kernel
theorem dX9_mended_113 : decode cX9_mended 113 = .ok (.iload_n 1, 1) := by decide +kernel
theorem dX9_mended_114 : decode cX9_mended 114 = .ok (.if_icmp .eq 7, 3) := by decide +kernel
theorem dX9_mended_117 : decode cX9_mended 117 = .ok (.iconst 1, 1) := by decide +kernel
theorem dX9_mended_118 : decode cX9_mended 118 = .ok (.goto 4, 3) := by decide +kernel
theorem dX9_mended_121 : decode cX9_mended 121 = .ok (.iconst 0, 1) := by decide +kernel
theorem dX9_mended_122 : decode cX9_mended 122 = .ok (.iadd, 1) := by decide +kernel
theorem dX9_mended_123 : decode cX9_mended 123 = .ok (.istore_n 3, 1) := by decide +kernel
theorem dX9_mended_124 : decode cX9_mended 124 = .ok (.iinc 4 1, 3) := by decide +kernel
theorem dX9_mended_127 : decode cX9_mended 127 = .ok (.goto (-40), 3) := by decide +kernel
theorem dX9_mended_130 : decode cX9_mended 130 = .ok (.iload_n 3, 1) := by decide +kernel
theorem dX9_mended_131 : decode cX9_mended 131 = .ok (.ireturn, 1) := by decide +kernel
theorem dX9_oddsOf_0 : decode cX9_oddsOf 0 = .ok (.iconst 0, 1) := by decide +kernel
theorem dX9_oddsOf_1 : decode cX9_oddsOf 1 = .ok (.istore_n 2, 1) := by decide +kernel
theorem dX9_oddsOf_2 : decode cX9_oddsOf 2 = .ok (.iconst 0, 1) := by decide +kernel
theorem dX9_oddsOf_3 : decode cX9_oddsOf 3 = .ok (.istore_n 3, 1) := by decide +kernel
theorem dX9_oddsOf_4 : decode cX9_oddsOf 4 = .ok (.iload_n 3, 1) := by decide +kernel
theorem dX9_oddsOf_5 : decode cX9_oddsOf 5 = .ok (.bipush 9, 2) := by decide +kernel
theorem dX9_oddsOf_7 : decode cX9_oddsOf 7 = .ok (.if_icmp .ge 77, 3) := by decide +kernel
theorem dX9_oddsOf_10 : decode cX9_oddsOf 10 = .ok (.iload_n 3, 1) := by decide +kernel
theorem dX9_oddsOf_11 : decode cX9_oddsOf 11 = .ok (.iconst 3, 1) := by decide +kernel
theorem dX9_oddsOf_12 : decode cX9_oddsOf 12 = .ok (.idiv, 1) := by decide +kernel
theorem dX9_oddsOf_13 : decode cX9_oddsOf 13 = .ok (.iconst 1, 1) := by decide +kernel
theorem dX9_oddsOf_14 : decode cX9_oddsOf 14 = .ok (.if_icmp .ne 7, 3) := by decide +kernel
theorem dX9_oddsOf_17 : decode cX9_oddsOf 17 = .ok (.iconst 2, 1) := by decide +kernel
theorem dX9_oddsOf_18 : decode cX9_oddsOf 18 = .ok (.goto 4, 3) := by decide +kernel
theorem dX9_oddsOf_21 : decode cX9_oddsOf 21 = .ok (.iconst 1, 1) := by decide +kernel
theorem dX9_oddsOf_22 : decode cX9_oddsOf 22 = .ok (.iload_n 3, 1) := by decide +kernel
theorem dX9_oddsOf_23 : decode cX9_oddsOf 23 = .ok (.iconst 3, 1) := by decide +kernel
theorem dX9_oddsOf_24 : decode cX9_oddsOf 24 = .ok (.irem, 1) := by decide +kernel
theorem dX9_oddsOf_25 : decode cX9_oddsOf 25 = .ok (.iconst 1, 1) := by decide +kernel
theorem dX9_oddsOf_26 : decode cX9_oddsOf 26 = .ok (.if_icmp .ne 7, 3) := by decide +kernel
theorem dX9_oddsOf_29 : decode cX9_oddsOf 29 = .ok (.iconst 2, 1) := by decide +kernel
theorem dX9_oddsOf_30 : decode cX9_oddsOf 30 = .ok (.goto 4, 3) := by decide +kernel
theorem dX9_oddsOf_33 : decode cX9_oddsOf 33 = .ok (.iconst 1, 1) := by decide +kernel
theorem dX9_oddsOf_34 : decode cX9_oddsOf 34 = .ok (.imul, 1) := by decide +kernel
theorem dX9_oddsOf_35 : decode cX9_oddsOf 35 = .ok (.istore 4, 2) := by decide +kernel
theorem dX9_oddsOf_37 : decode cX9_oddsOf 37 = .ok (.iload_n 2, 1) := by decide +kernel
theorem dX9_oddsOf_38 : decode cX9_oddsOf 38 = .ok (.aload_n 0, 1) := by decide +kernel
theorem dX9_oddsOf_39 : decode cX9_oddsOf 39 = .ok (.aload_n 0, 1) := by decide +kernel
theorem dX9_oddsOf_40 : decode cX9_oddsOf 40 = .ok (.getfield 16, 3) := by decide +kernel
theorem dX9_oddsOf_43 : decode cX9_oddsOf 43 = .ok (.iconst 1, 1) := by decide +kernel
theorem dX9_oddsOf_44 : decode cX9_oddsOf 44 = .ok (.iaload, 1) := by decide +kernel
theorem dX9_oddsOf_45 : decode cX9_oddsOf 45 = .ok (.iload_n 3, 1) := by decide +kernel
theorem dX9_oddsOf_46 : decode cX9_oddsOf 46 = .ok (.iconst 3, 1) := by decide +kernel
theorem dX9_oddsOf_47 : decode cX9_oddsOf 47 = .ok (.idiv, 1) := by decide +kernel
theorem dX9_oddsOf_48 : decode cX9_oddsOf 48 = .ok (.iadd, 1) := by decide +kernel
theorem dX9_oddsOf_49 : decode cX9_oddsOf 49 = .ok (.iconst 1, 1) := by decide +kernel
theorem dX9_oddsOf_50 : decode cX9_oddsOf 50 = .ok (.isub, 1) := by decide +kernel
theorem dX9_oddsOf_51 : decode cX9_oddsOf 51 = .ok (.aload_n 0, 1) := by decide +kernel
theorem dX9_oddsOf_52 : decode cX9_oddsOf 52 = .ok (.getfield 16, 3) := by decide +kernel
theorem dX9_oddsOf_55 : decode cX9_oddsOf 55 = .ok (.iconst 2, 1) := by decide +kernel
theorem dX9_oddsOf_56 : decode cX9_oddsOf 56 = .ok (.iaload, 1) := by decide +kernel
theorem dX9_oddsOf_57 : decode cX9_oddsOf 57 = .ok (.iload_n 3, 1) := by decide +kernel
theorem dX9_oddsOf_58 : decode cX9_oddsOf 58 = .ok (.iconst 3, 1) := by decide +kernel
theorem dX9_oddsOf_59 : decode cX9_oddsOf 59 = .ok (.irem, 1) := by decide +kernel
theorem dX9_oddsOf_60 : decode cX9_oddsOf 60 = .ok (.iadd, 1) := by decide +kernel
theorem dX9_oddsOf_61 : decode cX9_oddsOf 61 = .ok (.iconst 1, 1) := by decide +kernel
theorem dX9_oddsOf_62 : decode cX9_oddsOf 62 = .ok (.isub, 1) := by decide +kernel
theorem dX9_oddsOf_63 : decode cX9_oddsOf 63 = .ok (.invokevirtual 227, 3) := by decide +kernel
theorem dX9_oddsOf_66 : decode cX9_oddsOf 66 = .ok (.iload_n 1, 1) := by decide +kernel
theorem dX9_oddsOf_67 : decode cX9_oddsOf 67 = .ok (.if_icmp .ne 8, 3) := by decide +kernel
theorem dX9_oddsOf_70 : decode cX9_oddsOf 70 = .ok (.iload 4, 2) := by decide +kernel
theorem dX9_oddsOf_72 : decode cX9_oddsOf 72 = .ok (.goto 4, 3) := by decide +kernel
theorem dX9_oddsOf_75 : decode cX9_oddsOf 75 = .ok (.iconst 0, 1) := by decide +kernel
theorem dX9_oddsOf_76 : decode cX9_oddsOf 76 = .ok (.iadd, 1) := by decide +kernel
theorem dX9_oddsOf_77 : decode cX9_oddsOf 77 = .ok (.istore_n 2, 1) := by decide +kernel
theorem dX9_oddsOf_78 : decode cX9_oddsOf 78 = .ok (.iinc 3 1, 3) := by decide +kernel
theorem dX9_oddsOf_81 : decode cX9_oddsOf 81 = .ok (.goto (-77), 3) := by decide +kernel
theorem dX9_oddsOf_84 : decode cX9_oddsOf 84 = .ok (.iload_n 2, 1) := by decide +kernel
theorem dX9_oddsOf_85 : decode cX9_oddsOf 85 = .ok (.ireturn, 1) := by decide +kernel
theorem dX9_odds_0 : decode cX9_odds 0 = .ok (.aload_n 0, 1) := by decide +kernel
theorem dX9_odds_1 : decode cX9_odds 1 = .ok (.iload_n 1, 1) := by decide +kernel
theorem dX9_odds_2 : decode cX9_odds 2 = .ok (.invokevirtual 95, 3) := by decide +kernel
theorem dX9_odds_5 : decode cX9_odds 5 = .ok (.ifCond .ne 7, 3) := by decide +kernel
theorem dX9_odds_8 : decode cX9_odds 8 = .ok (.iconst (-1), 1) := by decide +kernel
theorem dX9_odds_9 : decode cX9_odds 9 = .ok (.goto 20, 3) := by decide +kernel
theorem dX9_odds_12 : decode cX9_odds 12 = .ok (.aload_n 0, 1) := by decide +kernel
theorem dX9_odds_13 : decode cX9_odds 13 = .ok (.getfield 100, 3) := by decide +kernel
theorem dX9_odds_16 : decode cX9_odds 16 = .ok (.ifCond .ne 8, 3) := by decide +kernel
theorem dX9_odds_19 : decode cX9_odds 19 = .ok (.bipush (-2), 2) := by decide +kernel
theorem dX9_odds_21 : decode cX9_odds 21 = .ok (.goto 8, 3) := by decide +kernel
theorem dX9_odds_24 : decode cX9_odds 24 = .ok (.aload_n 0, 1) := by decide +kernel
theorem dX9_odds_25 : decode cX9_odds 25 = .ok (.iload_n 1, 1) := by decide +kernel
theorem dX9_odds_26 : decode cX9_odds 26 = .ok (.invokevirtual 244, 3) := by decide +kernel
theorem dX9_odds_29 : decode cX9_odds 29 = .ok (.ireturn, 1) := by decide +kernel
theorem dX9_which_0 : decode cX9_which 0 = .ok (.aload_n 0, 1) := by decide +kernel
theorem dX9_which_1 : decode cX9_which 1 = .ok (.getfield 100, 3) := by decide +kernel
theorem dX9_which_4 : decode cX9_which 4 = .ok (.ifCond .ne 6, 3) := by decide +kernel
theorem dX9_which_7 : decode cX9_which 7 = .ok (.bipush (-2), 2) := by decide +kernel
theorem dX9_which_9 : decode cX9_which 9 = .ok (.ireturn, 1) := by decide +kernel
theorem dX9_which_10 : decode cX9_which 10 = .ok (.bipush (-4), 2) := by decide +kernel
theorem dX9_which_12 : decode cX9_which 12 = .ok (.istore_n 1, 1) := by decide +kernel
theorem dX9_which_13 : decode cX9_which 13 = .ok (.iconst (-1), 1) := by decide +kernel
theorem dX9_which_14 : decode cX9_which 14 = .ok (.istore_n 2, 1) := by decide +kernel
theorem dX9_which_15 : decode cX9_which 15 = .ok (.iconst 0, 1) := by decide +kernel
theorem dX9_which_16 : decode cX9_which 16 = .ok (.istore_n 3, 1) := by decide +kernel
theorem dX9_which_17 : decode cX9_which 17 = .ok (.iload_n 3, 1) := by decide +kernel
theorem dX9_which_18 : decode cX9_which 18 = .ok (.aload_n 0, 1) := by decide +kernel
theorem dX9_which_19 : decode cX9_which 19 = .ok (.getfield 68, 3) := by decide +kernel
theorem dX9_which_22 : decode cX9_which 22 = .ok (.if_icmp .ge 52, 3) := by decide +kernel
theorem dX9_which_25 : decode cX9_which 25 = .ok (.aload_n 0, 1) := by decide +kernel
theorem dX9_which_26 : decode cX9_which 26 = .ok (.iload_n 3, 1) := by decide +kernel
theorem dX9_which_27 : decode cX9_which 27 = .ok (.invokevirtual 244, 3) := by decide +kernel
theorem dX9_which_30 : decode cX9_which 30 = .ok (.aload_n 0, 1) := by decide +kernel
theorem dX9_which_31 : decode cX9_which 31 = .ok (.getfield 13, 3) := by decide +kernel
theorem dX9_which_34 : decode cX9_which 34 = .ok (.iconst 5, 1) := by decide +kernel
theorem dX9_which_35 : decode cX9_which 35 = .ok (.iload_n 3, 1) := by decide +kernel
theorem dX9_which_36 : decode cX9_which 36 = .ok (.imul, 1) := by decide +kernel
theorem dX9_which_37 : decode cX9_which 37 = .ok (.iconst 3, 1) := by decide +kernel
theorem dX9_which_38 : decode cX9_which 38 = .ok (.iadd, 1) := by decide +kernel
theorem dX9_which_39 : decode cX9_which 39 = .ok (.iaload, 1) := by decide +kernel
theorem dX9_which_40 : decode cX9_which 40 = .ok (.imul, 1) := by decide +kernel
theorem dX9_which_41 : decode cX9_which 41 = .ok (.istore 4, 2) := by decide +kernel
theorem dX9_which_43 : decode cX9_which 43 = .ok (.iload 4, 2) := by decide +kernel
theorem dX9_which_45 : decode cX9_which 45 = .ok (.iload_n 2, 1) := by decide +kernel
theorem dX9_which_46 : decode cX9_which 46 = .ok (.if_icmp .le 7, 3) := by decide +kernel
theorem dX9_which_49 : decode cX9_which 49 = .ok (.iload_n 3, 1) := by decide +kernel
theorem dX9_which_50 : decode cX9_which 50 = .ok (.goto 4, 3) := by decide +kernel
theorem dX9_which_53 : decode cX9_which 53 = .ok (.iload_n 1, 1) := by decide +kernel
theorem dX9_which_54 : decode cX9_which 54 = .ok (.istore_n 1, 1) := by decide +kernel
theorem dX9_which_55 : decode cX9_which 55 = .ok (.iload 4, 2) := by decide +kernel
theorem dX9_which_57 : decode cX9_which 57 = .ok (.iload_n 2, 1) := by decide +kernel
theorem dX9_which_58 : decode cX9_which 58 = .ok (.if_icmp .le 8, 3) := by decide +kernel
theorem dX9_which_61 : decode cX9_which 61 = .ok (.iload 4, 2) := by decide +kernel
theorem dX9_which_63 : decode cX9_which 63 = .ok (.goto 4, 3) := by decide +kernel
theorem dX9_which_66 : decode cX9_which 66 = .ok (.iload_n 2, 1) := by decide +kernel
theorem dX9_which_67 : decode cX9_which 67 = .ok (.istore_n 2, 1) := by decide +kernel
theorem dX9_which_68 : decode cX9_which 68 = .ok (.iinc 3 1, 3) := by decide +kernel
theorem dX9_which_71 : decode cX9_which 71 = .ok (.goto (-54), 3) := by decide +kernel
theorem dX9_which_74 : decode cX9_which 74 = .ok (.iload_n 1, 1) := by decide +kernel
theorem dX9_which_75 : decode cX9_which 75 = .ok (.ireturn, 1) := by decide +kernel
theorem dX9_trick_0 : decode cX9_trick 0 = .ok (.iload_n 1, 1) := by decide +kernel
theorem dX9_trick_1 : decode cX9_trick 1 = .ok (.i2l, 1) := by decide +kernel
theorem dX9_trick_2 : decode cX9_trick 2 = .ok (.lconst 0, 1) := by decide +kernel
theorem dX9_trick_3 : decode cX9_trick 3 = .ok (.ldc2_w 247, 3) := by decide +kernel
theorem dX9_trick_6 : decode cX9_trick 6 = .ok (.invokestatic 71, 3) := by decide +kernel
theorem dX9_trick_9 : decode cX9_trick 9 = .ok (.ifCond .eq 40, 3) := by decide +kernel
theorem dX9_trick_12 : decode cX9_trick 12 = .ok (.iload_n 2, 1) := by decide +kernel
theorem dX9_trick_13 : decode cX9_trick 13 = .ok (.i2l, 1) := by decide +kernel
theorem dX9_trick_14 : decode cX9_trick 14 = .ok (.lconst 1, 1) := by decide +kernel
theorem dX9_trick_15 : decode cX9_trick 15 = .ok (.ldc2_w 79, 3) := by decide +kernel
theorem dX9_trick_18 : decode cX9_trick 18 = .ok (.invokestatic 71, 3) := by decide +kernel
theorem dX9_trick_21 : decode cX9_trick 21 = .ok (.ifCond .eq 28, 3) := by decide +kernel
theorem dX9_trick_24 : decode cX9_trick 24 = .ok (.iload_n 3, 1) := by decide +kernel
theorem dX9_trick_25 : decode cX9_trick 25 = .ok (.i2l, 1) := by decide +kernel
theorem dX9_trick_26 : decode cX9_trick 26 = .ok (.lconst 0, 1) := by decide +kernel
theorem dX9_trick_27 : decode cX9_trick 27 = .ok (.ldc2_w 89, 3) := by decide +kernel
theorem dX9_trick_30 : decode cX9_trick 30 = .ok (.invokestatic 71, 3) := by decide +kernel
theorem dX9_trick_33 : decode cX9_trick 33 = .ok (.ifCond .eq 16, 3) := by decide +kernel
theorem dX9_trick_36 : decode cX9_trick 36 = .ok (.iload 4, 2) := by decide +kernel
theorem dX9_trick_38 : decode cX9_trick 38 = .ok (.i2l, 1) := by decide +kernel
theorem dX9_trick_39 : decode cX9_trick 39 = .ok (.lconst 1, 1) := by decide +kernel
theorem dX9_trick_40 : decode cX9_trick 40 = .ok (.ldc2_w 87, 3) := by decide +kernel
theorem dX9_trick_43 : decode cX9_trick 43 = .ok (.invokestatic 71, 3) := by decide +kernel
theorem dX9_trick_46 : decode cX9_trick 46 = .ok (.ifCond .ne 5, 3) := by decide +kernel
theorem dX9_trick_49 : decode cX9_trick 49 = .ok (.iconst (-1), 1) := by decide +kernel
theorem dX9_trick_50 : decode cX9_trick 50 = .ok (.ireturn, 1) := by decide +kernel
theorem dX9_trick_51 : decode cX9_trick 51 = .ok (.aload_n 0, 1) := by decide +kernel
theorem dX9_trick_52 : decode cX9_trick 52 = .ok (.getfield 157, 3) := by decide +kernel
theorem dX9_trick_55 : decode cX9_trick 55 = .ok (.bipush 8, 2) := by decide +kernel
theorem dX9_trick_57 : decode cX9_trick 57 = .ok (.if_icmp .ne 6, 3) := by decide +kernel
theorem dX9_trick_60 : decode cX9_trick 60 = .ok (.bipush (-3), 2) := by decide +kernel
theorem dX9_trick_62 : decode cX9_trick 62 = .ok (.ireturn, 1) := by decide +kernel
theorem dX9_trick_63 : decode cX9_trick 63 = .ok (.aload_n 0, 1) := by decide +kernel
theorem dX9_trick_64 : decode cX9_trick 64 = .ok (.getfield 19, 3) := by decide +kernel
theorem dX9_trick_67 : decode cX9_trick 67 = .ok (.iconst 4, 1) := by decide +kernel
theorem dX9_trick_68 : decode cX9_trick 68 = .ok (.aload_n 0, 1) := by decide +kernel
theorem dX9_trick_69 : decode cX9_trick 69 = .ok (.getfield 157, 3) := by decide +kernel
theorem dX9_trick_72 : decode cX9_trick 72 = .ok (.imul, 1) := by decide +kernel
theorem dX9_trick_73 : decode cX9_trick 73 = .ok (.iload_n 1, 1) := by decide +kernel
theorem dX9_trick_74 : decode cX9_trick 74 = .ok (.iastore, 1) := by decide +kernel
theorem dX9_trick_75 : decode cX9_trick 75 = .ok (.aload_n 0, 1) := by decide +kernel
theorem dX9_trick_76 : decode cX9_trick 76 = .ok (.getfield 19, 3) := by decide +kernel
theorem dX9_trick_79 : decode cX9_trick 79 = .ok (.iconst 4, 1) := by decide +kernel
theorem dX9_trick_80 : decode cX9_trick 80 = .ok (.aload_n 0, 1) := by decide +kernel
theorem dX9_trick_81 : decode cX9_trick 81 = .ok (.getfield 157, 3) := by decide +kernel
theorem dX9_trick_84 : decode cX9_trick 84 = .ok (.imul, 1) := by decide +kernel
theorem dX9_trick_85 : decode cX9_trick 85 = .ok (.iconst 1, 1) := by decide +kernel
theorem dX9_trick_86 : decode cX9_trick 86 = .ok (.iadd, 1) := by decide +kernel
theorem dX9_trick_87 : decode cX9_trick 87 = .ok (.iload_n 2, 1) := by decide +kernel
theorem dX9_trick_88 : decode cX9_trick 88 = .ok (.iastore, 1) := by decide +kernel
theorem dX9_trick_89 : decode cX9_trick 89 = .ok (.aload_n 0, 1) := by decide +kernel
theorem dX9_trick_90 : decode cX9_trick 90 = .ok (.getfield 19, 3) := by decide +kernel
theorem dX9_trick_93 : decode cX9_trick 93 = .ok (.iconst 4, 1) := by decide +kernel
theorem dX9_trick_94 : decode cX9_trick 94 = .ok (.aload_n 0, 1) := by decide +kernel
theorem dX9_trick_95 : decode cX9_trick 95 = .ok (.getfield 157, 3) := by decide +kernel
theorem dX9_trick_98 : decode cX9_trick 98 = .ok (.imul, 1) := by decide +kernel
theorem dX9_trick_99 : decode cX9_trick 99 = .ok (.iconst 2, 1) := by decide +kernel
theorem dX9_trick_100 : decode cX9_trick 100 = .ok (.iadd, 1) := by decide +kernel
theorem dX9_trick_101 : decode cX9_trick 101 = .ok (.iload_n 3, 1) := by decide +kernel
theorem dX9_trick_102 : decode cX9_trick 102 = .ok (.iastore, 1) := by decide +kernel
theorem dX9_trick_103 : decode cX9_trick 103 = .ok (.aload_n 0, 1) := by decide +kernel
theorem dX9_trick_104 : decode cX9_trick 104 = .ok (.getfield 19, 3) := by decide +kernel
theorem dX9_trick_107 : decode cX9_trick 107 = .ok (.iconst 4, 1) := by decide +kernel
theorem dX9_trick_108 : decode cX9_trick 108 = .ok (.aload_n 0, 1) := by decide +kernel
theorem dX9_trick_109 : decode cX9_trick 109 = .ok (.getfield 157, 3) := by decide +kernel
theorem dX9_trick_112 : decode cX9_trick 112 = .ok (.imul, 1) := by decide +kernel
theorem dX9_trick_113 : decode cX9_trick 113 = .ok (.iconst 3, 1) := by decide +kernel
theorem dX9_trick_114 : decode cX9_trick 114 = .ok (.iadd, 1) := by decide +kernel
theorem dX9_trick_115 : decode cX9_trick 115 = .ok (.iload 4, 2) := by decide +kernel
theorem dX9_trick_117 : decode cX9_trick 117 = .ok (.iastore, 1) := by decide +kernel
theorem dX9_trick_118 : decode cX9_trick 118 = .ok (.aload_n 0, 1) := by decide +kernel
theorem dX9_trick_119 : decode cX9_trick 119 = .ok (.dup, 1) := by decide +kernel
theorem dX9_trick_120 : decode cX9_trick 120 = .ok (.getfield 157, 3) := by decide +kernel
theorem dX9_trick_123 : decode cX9_trick 123 = .ok (.iconst 1, 1) := by decide +kernel
theorem dX9_trick_124 : decode cX9_trick 124 = .ok (.iadd, 1) := by decide +kernel
theorem dX9_trick_125 : decode cX9_trick 125 = .ok (.putfield 157, 3) := by decide +kernel
theorem dX9_trick_128 : decode cX9_trick 128 = .ok (.aload_n 0, 1) := by decide +kernel
theorem dX9_trick_129 : decode cX9_trick 129 = .ok (.getfield 157, 3) := by decide +kernel
theorem dX9_trick_132 : decode cX9_trick 132 = .ok (.iconst 1, 1) := by decide +kernel
theorem dX9_trick_133 : decode cX9_trick 133 = .ok (.isub, 1) := by decide +kernel
theorem dX9_trick_134 : decode cX9_trick 134 = .ok (.ireturn, 1) := by decide +kernel
theorem dX9_most_0 : decode cX9_most 0 = .ok (.iload_n 1, 1) := by decide +kernel
theorem dX9_most_1 : decode cX9_most 1 = .ok (.i2l, 1) := by decide +kernel
theorem dX9_most_2 : decode cX9_most 2 = .ok (.lconst 0, 1) := by decide +kernel
theorem dX9_most_3 : decode cX9_most 3 = .ok (.ldc2_w 249, 3) := by decide +kernel
theorem dX9_most_6 : decode cX9_most 6 = .ok (.invokestatic 71, 3) := by decide +kernel
theorem dX9_most_9 : decode cX9_most 9 = .ok (.ifCond .eq 21, 3) := by decide +kernel
theorem dX9_most_12 : decode cX9_most 12 = .ok (.iload_n 2, 1) := by decide +kernel
theorem dX9_most_13 : decode cX9_most 13 = .ok (.i2l, 1) := by decide +kernel
theorem dX9_most_14 : decode cX9_most 14 = .ok (.ldc2_w 251, 3) := by decide +kernel
theorem dX9_most_17 : decode cX9_most 17 = .ok (.aload_n 0, 1) := by decide +kernel
theorem dX9_most_18 : decode cX9_most 18 = .ok (.getfield 157, 3) := by decide +kernel
theorem dX9_most_21 : decode cX9_most 21 = .ok (.iconst 1, 1) := by decide +kernel
theorem dX9_most_22 : decode cX9_most 22 = .ok (.isub, 1) := by decide +kernel
theorem dX9_most_23 : decode cX9_most 23 = .ok (.i2l, 1) := by decide +kernel
theorem dX9_most_24 : decode cX9_most 24 = .ok (.invokestatic 71, 3) := by decide +kernel
theorem dX9_most_27 : decode cX9_most 27 = .ok (.ifCond .ne 5, 3) := by decide +kernel
theorem dX9_most_30 : decode cX9_most 30 = .ok (.iconst (-1), 1) := by decide +kernel
theorem dX9_most_31 : decode cX9_most 31 = .ok (.ireturn, 1) := by decide +kernel
theorem dX9_most_32 : decode cX9_most 32 = .ok (.iconst 0, 1) := by decide +kernel
theorem dX9_most_33 : decode cX9_most 33 = .ok (.istore_n 3, 1) := by decide +kernel
theorem dX9_most_34 : decode cX9_most 34 = .ok (.iload_n 3, 1) := by decide +kernel
theorem dX9_most_35 : decode cX9_most 35 = .ok (.sipush 181, 3) := by decide +kernel
theorem dX9_most_38 : decode cX9_most 38 = .ok (.if_icmp .ge 25, 3) := by decide +kernel
theorem dX9_most_41 : decode cX9_most 41 = .ok (.aload_n 0, 1) := by decide +kernel
theorem dX9_most_42 : decode cX9_most 42 = .ok (.getfield 50, 3) := by decide +kernel
theorem dX9_most_45 : decode cX9_most 45 = .ok (.sipush 181, 3) := by decide +kernel
theorem dX9_most_48 : decode cX9_most 48 = .ok (.aload_n 0, 1) := by decide +kernel
theorem dX9_most_49 : decode cX9_most 49 = .ok (.getfield 157, 3) := by decide +kernel
theorem dX9_most_52 : decode cX9_most 52 = .ok (.imul, 1) := by decide +kernel
theorem dX9_most_53 : decode cX9_most 53 = .ok (.iload_n 3, 1) := by decide +kernel
theorem dX9_most_54 : decode cX9_most 54 = .ok (.iadd, 1) := by decide +kernel
theorem dX9_most_55 : decode cX9_most 55 = .ok (.iconst 0, 1) := by decide +kernel
theorem dX9_most_56 : decode cX9_most 56 = .ok (.iastore, 1) := by decide +kernel
theorem dX9_most_57 : decode cX9_most 57 = .ok (.iinc 3 1, 3) := by decide +kernel
theorem dX9_most_60 : decode cX9_most 60 = .ok (.goto (-26), 3) := by decide +kernel
theorem dX9_most_63 : decode cX9_most 63 = .ok (.aload_n 0, 1) := by decide +kernel
theorem dX9_most_64 : decode cX9_most 64 = .ok (.getfield 157, 3) := by decide +kernel
theorem dX9_most_67 : decode cX9_most 67 = .ok (.iconst 1, 1) := by decide +kernel
theorem dX9_most_68 : decode cX9_most 68 = .ok (.isub, 1) := by decide +kernel
theorem dX9_most_69 : decode cX9_most 69 = .ok (.istore_n 3, 1) := by decide +kernel
theorem dX9_most_70 : decode cX9_most 70 = .ok (.iload_n 3, 1) := by decide +kernel
theorem dX9_most_71 : decode cX9_most 71 = .ok (.ifCond .lt 162, 3) := by decide +kernel
theorem dX9_most_74 : decode cX9_most 74 = .ok (.aload_n 0, 1) := by decide +kernel
theorem dX9_most_75 : decode cX9_most 75 = .ok (.getfield 19, 3) := by decide +kernel
theorem dX9_most_78 : decode cX9_most 78 = .ok (.iconst 4, 1) := by decide +kernel
theorem dX9_most_79 : decode cX9_most 79 = .ok (.iload_n 3, 1) := by decide +kernel
theorem dX9_most_80 : decode cX9_most 80 = .ok (.imul, 1) := by decide +kernel
theorem dX9_most_81 : decode cX9_most 81 = .ok (.iaload, 1) := by decide +kernel
theorem dX9_most_82 : decode cX9_most 82 = .ok (.aload_n 0, 1) := by decide +kernel
theorem dX9_most_83 : decode cX9_most 83 = .ok (.getfield 19, 3) := by decide +kernel
theorem dX9_most_86 : decode cX9_most 86 = .ok (.iconst 4, 1) := by decide +kernel
theorem dX9_most_87 : decode cX9_most 87 = .ok (.iload_n 3, 1) := by decide +kernel
theorem dX9_most_88 : decode cX9_most 88 = .ok (.imul, 1) := by decide +kernel
theorem dX9_most_89 : decode cX9_most 89 = .ok (.iconst 2, 1) := by decide +kernel
theorem dX9_most_90 : decode cX9_most 90 = .ok (.iadd, 1) := by decide +kernel
theorem dX9_most_91 : decode cX9_most 91 = .ok (.iaload, 1) := by decide +kernel
theorem dX9_most_92 : decode cX9_most 92 = .ok (.imul, 1) := by decide +kernel
theorem dX9_most_93 : decode cX9_most 93 = .ok (.istore 4, 2) := by decide +kernel
theorem dX9_most_95 : decode cX9_most 95 = .ok (.iconst 0, 1) := by decide +kernel
theorem dX9_most_96 : decode cX9_most 96 = .ok (.istore 5, 2) := by decide +kernel
theorem dX9_most_98 : decode cX9_most 98 = .ok (.iload 5, 2) := by decide +kernel
theorem dX9_most_100 : decode cX9_most 100 = .ok (.sipush 181, 3) := by decide +kernel
theorem dX9_most_103 : decode cX9_most 103 = .ok (.if_icmp .ge 124, 3) := by decide +kernel
theorem dX9_most_106 : decode cX9_most 106 = .ok (.iconst 0, 1) := by decide +kernel
theorem dX9_most_107 : decode cX9_most 107 = .ok (.istore 6, 2) := by decide +kernel
theorem dX9_most_109 : decode cX9_most 109 = .ok (.iconst 0, 1) := by decide +kernel
theorem dX9_most_110 : decode cX9_most 110 = .ok (.istore 7, 2) := by decide +kernel
theorem dX9_most_112 : decode cX9_most 112 = .ok (.iload 7, 2) := by decide +kernel
theorem dX9_most_114 : decode cX9_most 114 = .ok (.aload_n 0, 1) := by decide +kernel
theorem dX9_most_115 : decode cX9_most 115 = .ok (.getfield 19, 3) := by decide +kernel
theorem dX9_most_118 : decode cX9_most 118 = .ok (.iconst 4, 1) := by decide +kernel
theorem dX9_most_119 : decode cX9_most 119 = .ok (.iload_n 3, 1) := by decide +kernel
theorem dX9_most_120 : decode cX9_most 120 = .ok (.imul, 1) := by decide +kernel
theorem dX9_most_121 : decode cX9_most 121 = .ok (.iconst 3, 1) := by decide +kernel
theorem dX9_most_122 : decode cX9_most 122 = .ok (.iadd, 1) := by decide +kernel
theorem dX9_most_123 : decode cX9_most 123 = .ok (.iaload, 1) := by decide +kernel
theorem dX9_most_124 : decode cX9_most 124 = .ok (.if_icmp .gt 82, 3) := by decide +kernel
theorem dX9_most_127 : decode cX9_most 127 = .ok (.iload 7, 2) := by decide +kernel
theorem dX9_most_129 : decode cX9_most 129 = .ok (.aload_n 0, 1) := by decide +kernel
theorem dX9_most_130 : decode cX9_most 130 = .ok (.getfield 19, 3) := by decide +kernel
theorem dX9_most_133 : decode cX9_most 133 = .ok (.iconst 4, 1) := by decide +kernel
theorem dX9_most_134 : decode cX9_most 134 = .ok (.iload_n 3, 1) := by decide +kernel
theorem dX9_most_135 : decode cX9_most 135 = .ok (.imul, 1) := by decide +kernel
theorem dX9_most_136 : decode cX9_most 136 = .ok (.iconst 1, 1) := by decide +kernel
theorem dX9_most_137 : decode cX9_most 137 = .ok (.iadd, 1) := by decide +kernel
theorem dX9_most_138 : decode cX9_most 138 = .ok (.iaload, 1) := by decide +kernel
theorem dX9_most_139 : decode cX9_most 139 = .ok (.imul, 1) := by decide +kernel
theorem dX9_most_140 : decode cX9_most 140 = .ok (.iload 5, 2) := by decide +kernel
theorem dX9_most_142 : decode cX9_most 142 = .ok (.if_icmp .gt 64, 3) := by decide +kernel
theorem dX9_most_145 : decode cX9_most 145 = .ok (.iload 7, 2) := by decide +kernel
theorem dX9_most_147 : decode cX9_most 147 = .ok (.iload 4, 2) := by decide +kernel
theorem dX9_most_149 : decode cX9_most 149 = .ok (.imul, 1) := by decide +kernel
theorem dX9_most_150 : decode cX9_most 150 = .ok (.aload_n 0, 1) := by decide +kernel
theorem dX9_most_151 : decode cX9_most 151 = .ok (.getfield 50, 3) := by decide +kernel
theorem dX9_most_154 : decode cX9_most 154 = .ok (.sipush 181, 3) := by decide +kernel
theorem dX9_most_157 : decode cX9_most 157 = .ok (.iload_n 3, 1) := by decide +kernel
theorem dX9_most_158 : decode cX9_most 158 = .ok (.imul, 1) := by decide +kernel
theorem dX9_most_159 : decode cX9_most 159 = .ok (.sipush 181, 3) := by decide +kernel
theorem dX9_most_162 : decode cX9_most 162 = .ok (.iadd, 1) := by decide +kernel
theorem dX9_most_163 : decode cX9_most 163 = .ok (.iload 5, 2) := by decide +kernel
theorem dX9_most_165 : decode cX9_most 165 = .ok (.iadd, 1) := by decide +kernel
theorem dX9_most_166 : decode cX9_most 166 = .ok (.iload 7, 2) := by decide +kernel
theorem dX9_most_168 : decode cX9_most 168 = .ok (.aload_n 0, 1) := by decide +kernel
theorem dX9_most_169 : decode cX9_most 169 = .ok (.getfield 19, 3) := by decide +kernel
theorem dX9_most_172 : decode cX9_most 172 = .ok (.iconst 4, 1) := by decide +kernel
theorem dX9_most_173 : decode cX9_most 173 = .ok (.iload_n 3, 1) := by decide +kernel
theorem dX9_most_174 : decode cX9_most 174 = .ok (.imul, 1) := by decide +kernel
theorem dX9_most_175 : decode cX9_most 175 = .ok (.iconst 1, 1) := by decide +kernel
theorem dX9_most_176 : decode cX9_most 176 = .ok (.iadd, 1) := by decide +kernel
theorem dX9_most_177 : decode cX9_most 177 = .ok (.iaload, 1) := by decide +kernel
theorem dX9_most_178 : decode cX9_most 178 = .ok (.imul, 1) := by decide +kernel
theorem dX9_most_179 : decode cX9_most 179 = .ok (.isub, 1) := by decide +kernel
theorem dX9_most_180 : decode cX9_most 180 = .ok (.iaload, 1) := by decide +kernel
theorem dX9_most_181 : decode cX9_most 181 = .ok (.iadd, 1) := by decide +kernel
theorem dX9_most_182 : decode cX9_most 182 = .ok (.istore 8, 2) := by decide +kernel
theorem dX9_most_184 : decode cX9_most 184 = .ok (.iload 8, 2) := by decide +kernel
theorem dX9_most_186 : decode cX9_most 186 = .ok (.iload 6, 2) := by decide +kernel
theorem dX9_most_188 : decode cX9_most 188 = .ok (.if_icmp .le 8, 3) := by decide +kernel
theorem dX9_most_191 : decode cX9_most 191 = .ok (.iload 8, 2) := by decide +kernel
theorem dX9_most_193 : decode cX9_most 193 = .ok (.goto 5, 3) := by decide +kernel
theorem dX9_most_196 : decode cX9_most 196 = .ok (.iload 6, 2) := by decide +kernel
theorem dX9_most_198 : decode cX9_most 198 = .ok (.istore 6, 2) := by decide +kernel
theorem dX9_most_200 : decode cX9_most 200 = .ok (.iinc 7 1, 3) := by decide +kernel
theorem dX9_most_203 : decode cX9_most 203 = .ok (.goto (-91), 3) := by decide +kernel
theorem dX9_most_206 : decode cX9_most 206 = .ok (.aload_n 0, 1) := by decide +kernel
theorem dX9_most_207 : decode cX9_most 207 = .ok (.getfield 50, 3) := by decide +kernel
theorem dX9_most_210 : decode cX9_most 210 = .ok (.sipush 181, 3) := by decide +kernel
theorem dX9_most_213 : decode cX9_most 213 = .ok (.iload_n 3, 1) := by decide +kernel
theorem dX9_most_214 : decode cX9_most 214 = .ok (.imul, 1) := by decide +kernel
theorem dX9_most_215 : decode cX9_most 215 = .ok (.iload 5, 2) := by decide +kernel
theorem dX9_most_217 : decode cX9_most 217 = .ok (.iadd, 1) := by decide +kernel
theorem dX9_most_218 : decode cX9_most 218 = .ok (.iload 6, 2) := by decide +kernel
theorem dX9_most_220 : decode cX9_most 220 = .ok (.iastore, 1) := by decide +kernel
theorem dX9_most_221 : decode cX9_most 221 = .ok (.iinc 5 1, 3) := by decide +kernel
theorem dX9_most_224 : decode cX9_most 224 = .ok (.goto (-126), 3) := by decide +kernel
theorem dX9_most_227 : decode cX9_most 227 = .ok (.iinc 3 (-1), 3) := by decide +kernel
theorem dX9_most_230 : decode cX9_most 230 = .ok (.goto (-160), 3) := by decide +kernel
theorem dX9_most_233 : decode cX9_most 233 = .ok (.iload_n 2, 1) := by decide +kernel
theorem dX9_most_234 : decode cX9_most 234 = .ok (.ifCond .ge 10, 3) := by decide +kernel
theorem dX9_most_237 : decode cX9_most 237 = .ok (.aload_n 0, 1) := by decide +kernel
theorem dX9_most_238 : decode cX9_most 238 = .ok (.getfield 50, 3) := by decide +kernel
theorem dX9_most_241 : decode cX9_most 241 = .ok (.iload_n 1, 1) := by decide +kernel
theorem dX9_most_242 : decode cX9_most 242 = .ok (.iaload, 1) := by decide +kernel
theorem dX9_most_243 : decode cX9_most 243 = .ok (.ireturn, 1) := by decide +kernel
theorem dX9_most_244 : decode cX9_most 244 = .ok (.iload_n 1, 1) := by decide +kernel
theorem dX9_most_245 : decode cX9_most 245 = .ok (.istore_n 3, 1) := by decide +kernel
theorem dX9_most_246 : decode cX9_most 246 = .ok (.iconst 0, 1) := by decide +kernel
theorem dX9_most_247 : decode cX9_most 247 = .ok (.istore 4, 2) := by decide +kernel
theorem dX9_most_249 : decode cX9_most 249 = .ok (.iconst 0, 1) := by decide +kernel
theorem dX9_most_250 : decode cX9_most 250 = .ok (.istore 5, 2) := by decide +kernel
theorem dX9_most_252 : decode cX9_most 252 = .ok (.iload 5, 2) := by decide +kernel
theorem dX9_most_254 : decode cX9_most 254 = .ok (.iload_n 2, 1) := by decide +kernel
theorem dX9_most_255 : decode cX9_most 255 = .ok (.if_icmp .gt 140, 3) := by decide +kernel
theorem dX9_most_258 : decode cX9_most 258 = .ok (.aload_n 0, 1) := by decide +kernel
theorem dX9_most_259 : decode cX9_most 259 = .ok (.getfield 19, 3) := by decide +kernel
theorem dX9_most_262 : decode cX9_most 262 = .ok (.iconst 4, 1) := by decide +kernel
theorem dX9_most_263 : decode cX9_most 263 = .ok (.iload 5, 2) := by decide +kernel
theorem dX9_most_265 : decode cX9_most 265 = .ok (.imul, 1) := by decide +kernel
theorem dX9_most_266 : decode cX9_most 266 = .ok (.iaload, 1) := by decide +kernel
theorem dX9_most_267 : decode cX9_most 267 = .ok (.aload_n 0, 1) := by decide +kernel
theorem dX9_most_268 : decode cX9_most 268 = .ok (.getfield 19, 3) := by decide +kernel
theorem dX9_most_271 : decode cX9_most 271 = .ok (.iconst 4, 1) := by decide +kernel
theorem dX9_most_272 : decode cX9_most 272 = .ok (.iload 5, 2) := by decide +kernel
theorem dX9_most_274 : decode cX9_most 274 = .ok (.imul, 1) := by decide +kernel
theorem dX9_most_275 : decode cX9_most 275 = .ok (.iconst 2, 1) := by decide +kernel
theorem dX9_most_276 : decode cX9_most 276 = .ok (.iadd, 1) := by decide +kernel
theorem dX9_most_277 : decode cX9_most 277 = .ok (.iaload, 1) := by decide +kernel
theorem dX9_most_278 : decode cX9_most 278 = .ok (.imul, 1) := by decide +kernel
theorem dX9_most_279 : decode cX9_most 279 = .ok (.istore 6, 2) := by decide +kernel
theorem dX9_most_281 : decode cX9_most 281 = .ok (.aload_n 0, 1) := by decide +kernel
theorem dX9_most_282 : decode cX9_most 282 = .ok (.getfield 19, 3) := by decide +kernel
theorem dX9_most_285 : decode cX9_most 285 = .ok (.iconst 4, 1) := by decide +kernel
theorem dX9_most_286 : decode cX9_most 286 = .ok (.iload 5, 2) := by decide +kernel
theorem dX9_most_288 : decode cX9_most 288 = .ok (.imul, 1) := by decide +kernel
theorem dX9_most_289 : decode cX9_most 289 = .ok (.iconst 3, 1) := by decide +kernel
theorem dX9_most_290 : decode cX9_most 290 = .ok (.iadd, 1) := by decide +kernel
theorem dX9_most_291 : decode cX9_most 291 = .ok (.iaload, 1) := by decide +kernel
theorem dX9_most_292 : decode cX9_most 292 = .ok (.istore 4, 2) := by decide +kernel
theorem dX9_most_294 : decode cX9_most 294 = .ok (.iload 4, 2) := by decide +kernel
theorem dX9_most_296 : decode cX9_most 296 = .ok (.aload_n 0, 1) := by decide +kernel
theorem dX9_most_297 : decode cX9_most 297 = .ok (.getfield 19, 3) := by decide +kernel
theorem dX9_most_300 : decode cX9_most 300 = .ok (.iconst 4, 1) := by decide +kernel
theorem dX9_most_301 : decode cX9_most 301 = .ok (.iload 5, 2) := by decide +kernel
theorem dX9_most_303 : decode cX9_most 303 = .ok (.imul, 1) := by decide +kernel
theorem dX9_most_304 : decode cX9_most 304 = .ok (.iconst 1, 1) := by decide +kernel
theorem dX9_most_305 : decode cX9_most 305 = .ok (.iadd, 1) := by decide +kernel
theorem dX9_most_306 : decode cX9_most 306 = .ok (.iaload, 1) := by decide +kernel
theorem dX9_most_307 : decode cX9_most 307 = .ok (.imul, 1) := by decide +kernel
theorem dX9_most_308 : decode cX9_most 308 = .ok (.iload_n 3, 1) := by decide +kernel
theorem dX9_most_309 : decode cX9_most 309 = .ok (.if_icmp .gt 57, 3) := by decide +kernel
theorem dX9_most_312 : decode cX9_most 312 = .ok (.iload 4, 2) := by decide +kernel
theorem dX9_most_314 : decode cX9_most 314 = .ok (.iload 6, 2) := by decide +kernel
theorem dX9_most_316 : decode cX9_most 316 = .ok (.imul, 1) := by decide +kernel
theorem dX9_most_317 : decode cX9_most 317 = .ok (.aload_n 0, 1) := by decide +kernel
theorem dX9_most_318 : decode cX9_most 318 = .ok (.getfield 50, 3) := by decide +kernel
theorem dX9_most_321 : decode cX9_most 321 = .ok (.sipush 181, 3) := by decide +kernel
theorem dX9_most_324 : decode cX9_most 324 = .ok (.iload 5, 2) := by decide +kernel
theorem dX9_most_326 : decode cX9_most 326 = .ok (.imul, 1) := by decide +kernel
theorem dX9_most_327 : decode cX9_most 327 = .ok (.sipush 181, 3) := by decide +kernel
theorem dX9_most_330 : decode cX9_most 330 = .ok (.iadd, 1) := by decide +kernel
theorem dX9_most_331 : decode cX9_most 331 = .ok (.iload_n 3, 1) := by decide +kernel
theorem dX9_most_332 : decode cX9_most 332 = .ok (.iadd, 1) := by decide +kernel
theorem dX9_most_333 : decode cX9_most 333 = .ok (.iload 4, 2) := by decide +kernel
theorem dX9_most_335 : decode cX9_most 335 = .ok (.aload_n 0, 1) := by decide +kernel
theorem dX9_most_336 : decode cX9_most 336 = .ok (.getfield 19, 3) := by decide +kernel
theorem dX9_most_339 : decode cX9_most 339 = .ok (.iconst 4, 1) := by decide +kernel
theorem dX9_most_340 : decode cX9_most 340 = .ok (.iload 5, 2) := by decide +kernel
theorem dX9_most_342 : decode cX9_most 342 = .ok (.imul, 1) := by decide +kernel
theorem dX9_most_343 : decode cX9_most 343 = .ok (.iconst 1, 1) := by decide +kernel
theorem dX9_most_344 : decode cX9_most 344 = .ok (.iadd, 1) := by decide +kernel
theorem dX9_most_345 : decode cX9_most 345 = .ok (.iaload, 1) := by decide +kernel
theorem dX9_most_346 : decode cX9_most 346 = .ok (.imul, 1) := by decide +kernel
theorem dX9_most_347 : decode cX9_most 347 = .ok (.isub, 1) := by decide +kernel
theorem dX9_most_348 : decode cX9_most 348 = .ok (.iaload, 1) := by decide +kernel
theorem dX9_most_349 : decode cX9_most 349 = .ok (.iadd, 1) := by decide +kernel
theorem dX9_most_350 : decode cX9_most 350 = .ok (.aload_n 0, 1) := by decide +kernel
theorem dX9_most_351 : decode cX9_most 351 = .ok (.getfield 50, 3) := by decide +kernel
theorem dX9_most_354 : decode cX9_most 354 = .ok (.sipush 181, 3) := by decide +kernel
theorem dX9_most_357 : decode cX9_most 357 = .ok (.iload 5, 2) := by decide +kernel
theorem dX9_most_359 : decode cX9_most 359 = .ok (.imul, 1) := by decide +kernel
theorem dX9_most_360 : decode cX9_most 360 = .ok (.iload_n 3, 1) := by decide +kernel
theorem dX9_most_361 : decode cX9_most 361 = .ok (.iadd, 1) := by decide +kernel
theorem dX9_most_362 : decode cX9_most 362 = .ok (.iaload, 1) := by decide +kernel
theorem dX9_most_363 : decode cX9_most 363 = .ok (.if_icmp .ge 9, 3) := by decide +kernel
theorem dX9_most_366 : decode cX9_most 366 = .ok (.iinc 4 (-1), 3) := by decide +kernel
theorem dX9_most_369 : decode cX9_most 369 = .ok (.goto (-75), 3) := by decide +kernel
theorem dX9_most_372 : decode cX9_most 372 = .ok (.iload_n 3, 1) := by decide +kernel
theorem dX9_most_373 : decode cX9_most 373 = .ok (.iload 4, 2) := by decide +kernel
theorem dX9_most_375 : decode cX9_most 375 = .ok (.aload_n 0, 1) := by decide +kernel
theorem dX9_most_376 : decode cX9_most 376 = .ok (.getfield 19, 3) := by decide +kernel
theorem dX9_most_379 : decode cX9_most 379 = .ok (.iconst 4, 1) := by decide +kernel
theorem dX9_most_380 : decode cX9_most 380 = .ok (.iload 5, 2) := by decide +kernel
theorem dX9_most_382 : decode cX9_most 382 = .ok (.imul, 1) := by decide +kernel
theorem dX9_most_383 : decode cX9_most 383 = .ok (.iconst 1, 1) := by decide +kernel
theorem dX9_most_384 : decode cX9_most 384 = .ok (.iadd, 1) := by decide +kernel
theorem dX9_most_385 : decode cX9_most 385 = .ok (.iaload, 1) := by decide +kernel
theorem dX9_most_386 : decode cX9_most 386 = .ok (.imul, 1) := by decide +kernel
theorem dX9_most_387 : decode cX9_most 387 = .ok (.isub, 1) := by decide +kernel
theorem dX9_most_388 : decode cX9_most 388 = .ok (.istore_n 3, 1) := by decide +kernel
theorem dX9_most_389 : decode cX9_most 389 = .ok (.iinc 5 1, 3) := by decide +kernel
theorem dX9_most_392 : decode cX9_most 392 = .ok (.goto (-140), 3) := by decide +kernel
theorem dX9_most_395 : decode cX9_most 395 = .ok (.iload 4, 2) := by decide +kernel
theorem dX9_most_397 : decode cX9_most 397 = .ok (.ireturn, 1) := by decide +kernel
theorem dX9_row_0 : decode cX9_row 0 = .ok (.iload_n 1, 1) := by decide +kernel
theorem dX9_row_1 : decode cX9_row 1 = .ok (.i2l, 1) := by decide +kernel
theorem dX9_row_2 : decode cX9_row 2 = .ok (.lconst 0, 1) := by decide +kernel
theorem dX9_row_3 : decode cX9_row 3 = .ok (.aload_n 0, 1) := by decide +kernel
theorem dX9_row_4 : decode cX9_row 4 = .ok (.getfield 157, 3) := by decide +kernel
theorem dX9_row_7 : decode cX9_row 7 = .ok (.iconst 1, 1) := by decide +kernel
theorem dX9_row_8 : decode cX9_row 8 = .ok (.isub, 1) := by decide +kernel
theorem dX9_row_9 : decode cX9_row 9 = .ok (.i2l, 1) := by decide +kernel
theorem dX9_row_10 : decode cX9_row 10 = .ok (.invokestatic 71, 3) := by decide +kernel
theorem dX9_row_13 : decode cX9_row 13 = .ok (.ifCond .eq 15, 3) := by decide +kernel
theorem dX9_row_16 : decode cX9_row 16 = .ok (.iload_n 2, 1) := by decide +kernel
theorem dX9_row_17 : decode cX9_row 17 = .ok (.i2l, 1) := by decide +kernel
theorem dX9_row_18 : decode cX9_row 18 = .ok (.lconst 1, 1) := by decide +kernel
theorem dX9_row_19 : decode cX9_row 19 = .ok (.ldc2_w 89, 3) := by decide +kernel
theorem dX9_row_22 : decode cX9_row 22 = .ok (.invokestatic 71, 3) := by decide +kernel
theorem dX9_row_25 : decode cX9_row 25 = .ok (.ifCond .ne 5, 3) := by decide +kernel
theorem dX9_row_28 : decode cX9_row 28 = .ok (.iconst (-1), 1) := by decide +kernel
theorem dX9_row_29 : decode cX9_row 29 = .ok (.ireturn, 1) := by decide +kernel
theorem dX9_row_30 : decode cX9_row 30 = .ok (.sipush 1000, 3) := by decide +kernel
theorem dX9_row_33 : decode cX9_row 33 = .ok (.istore_n 3, 1) := by decide +kernel
theorem dX9_row_34 : decode cX9_row 34 = .ok (.iconst 0, 1) := by decide +kernel
theorem dX9_row_35 : decode cX9_row 35 = .ok (.istore 4, 2) := by decide +kernel
theorem dX9_row_37 : decode cX9_row 37 = .ok (.iload 4, 2) := by decide +kernel
theorem dX9_row_39 : decode cX9_row 39 = .ok (.iload_n 2, 1) := by decide +kernel
theorem dX9_row_40 : decode cX9_row 40 = .ok (.if_icmp .ge 23, 3) := by decide +kernel
theorem dX9_row_43 : decode cX9_row 43 = .ok (.iload_n 3, 1) := by decide +kernel
theorem dX9_row_44 : decode cX9_row 44 = .ok (.aload_n 0, 1) := by decide +kernel
theorem dX9_row_45 : decode cX9_row 45 = .ok (.getfield 19, 3) := by decide +kernel
theorem dX9_row_48 : decode cX9_row 48 = .ok (.iconst 4, 1) := by decide +kernel
theorem dX9_row_49 : decode cX9_row 49 = .ok (.iload_n 1, 1) := by decide +kernel
theorem dX9_row_50 : decode cX9_row 50 = .ok (.imul, 1) := by decide +kernel
theorem dX9_row_51 : decode cX9_row 51 = .ok (.iaload, 1) := by decide +kernel
theorem dX9_row_52 : decode cX9_row 52 = .ok (.imul, 1) := by decide +kernel
theorem dX9_row_53 : decode cX9_row 53 = .ok (.bipush 16, 2) := by decide +kernel
theorem dX9_row_55 : decode cX9_row 55 = .ok (.idiv, 1) := by decide +kernel
theorem dX9_row_56 : decode cX9_row 56 = .ok (.istore_n 3, 1) := by decide +kernel
theorem dX9_row_57 : decode cX9_row 57 = .ok (.iinc 4 1, 3) := by decide +kernel
theorem dX9_row_60 : decode cX9_row 60 = .ok (.goto (-23), 3) := by decide +kernel
theorem dX9_row_63 : decode cX9_row 63 = .ok (.iload_n 3, 1) := by decide +kernel
theorem dX9_row_64 : decode cX9_row 64 = .ok (.ireturn, 1) := by decide +kernel
theorem dX9_clear_0 : decode cX9_clear 0 = .ok (.aload_n 0, 1) := by decide +kernel
theorem dX9_clear_1 : decode cX9_clear 1 = .ok (.getfield 157, 3) := by decide +kernel
theorem dX9_clear_4 : decode cX9_clear 4 = .ok (.istore_n 1, 1) := by decide +kernel
theorem dX9_clear_5 : decode cX9_clear 5 = .ok (.aload_n 0, 1) := by decide +kernel
theorem dX9_clear_6 : decode cX9_clear 6 = .ok (.iconst 0, 1) := by decide +kernel
theorem dX9_clear_7 : decode cX9_clear 7 = .ok (.putfield 157, 3) := by decide +kernel
theorem dX9_clear_10 : decode cX9_clear 10 = .ok (.iload_n 1, 1) := by decide +kernel
theorem dX9_clear_11 : decode cX9_clear 11 = .ok (.ireturn, 1) := by decide +kernel
theorem dX9_cord_0 : decode cX9_cord 0 = .ok (.aload_n 0, 1) := by decide +kernel
theorem dX9_cord_1 : decode cX9_cord 1 = .ok (.iload_n 1, 1) := by decide +kernel
theorem dX9_cord_2 : decode cX9_cord 2 = .ok (.invokevirtual 95, 3) := by decide +kernel
theorem dX9_cord_5 : decode cX9_cord 5 = .ok (.ifCond .eq 13, 3) := by decide +kernel
theorem dX9_cord_8 : decode cX9_cord 8 = .ok (.iload_n 2, 1) := by decide +kernel
theorem dX9_cord_9 : decode cX9_cord 9 = .ok (.i2l, 1) := by decide +kernel
theorem dX9_cord_10 : decode cX9_cord 10 = .ok (.lconst 0, 1) := by decide +kernel
theorem dX9_cord_11 : decode cX9_cord 11 = .ok (.lconst 1, 1) := by decide +kernel
theorem dX9_cord_12 : decode cX9_cord 12 = .ok (.invokestatic 71, 3) := by decide +kernel
theorem dX9_cord_15 : decode cX9_cord 15 = .ok (.ifCond .ne 5, 3) := by decide +kernel
theorem dX9_cord_18 : decode cX9_cord 18 = .ok (.iconst (-1), 1) := by decide +kernel
theorem dX9_cord_19 : decode cX9_cord 19 = .ok (.ireturn, 1) := by decide +kernel
theorem dX9_cord_20 : decode cX9_cord 20 = .ok (.aload_n 0, 1) := by decide +kernel
theorem dX9_cord_21 : decode cX9_cord 21 = .ok (.getfield 100, 3) := by decide +kernel
theorem dX9_cord_24 : decode cX9_cord 24 = .ok (.ifCond .ne 6, 3) := by decide +kernel
theorem dX9_cord_27 : decode cX9_cord 27 = .ok (.bipush (-2), 2) := by decide +kernel
theorem dX9_cord_29 : decode cX9_cord 29 = .ok (.ireturn, 1) := by decide +kernel
theorem dX9_cord_30 : decode cX9_cord 30 = .ok (.aload_n 0, 1) := by decide +kernel
theorem dX9_cord_31 : decode cX9_cord 31 = .ok (.getfield 7, 3) := by decide +kernel
theorem dX9_cord_34 : decode cX9_cord 34 = .ok (.iconst 0, 1) := by decide +kernel
theorem dX9_cord_35 : decode cX9_cord 35 = .ok (.iaload, 1) := by decide +kernel
theorem dX9_cord_36 : decode cX9_cord 36 = .ok (.istore_n 3, 1) := by decide +kernel
theorem dX9_cord_37 : decode cX9_cord 37 = .ok (.bipush 10, 2) := by decide +kernel
theorem dX9_cord_39 : decode cX9_cord 39 = .ok (.istore 4, 2) := by decide +kernel
theorem dX9_cord_41 : decode cX9_cord 41 = .ok (.iconst (-1), 1) := by decide +kernel
theorem dX9_cord_42 : decode cX9_cord 42 = .ok (.istore 5, 2) := by decide +kernel
theorem dX9_cord_44 : decode cX9_cord 44 = .ok (.bipush 10, 2) := by decide +kernel
theorem dX9_cord_46 : decode cX9_cord 46 = .ok (.istore 6, 2) := by decide +kernel
theorem dX9_cord_48 : decode cX9_cord 48 = .ok (.iload 6, 2) := by decide +kernel
theorem dX9_cord_50 : decode cX9_cord 50 = .ok (.bipush 60, 2) := by decide +kernel
theorem dX9_cord_52 : decode cX9_cord 52 = .ok (.if_icmp .gt 56, 3) := by decide +kernel
theorem dX9_cord_55 : decode cX9_cord 55 = .ok (.aload_n 0, 1) := by decide +kernel
