theorem dX5_fits_44 : decode cX5_fits 44 = .ok (.if_icmp .ne 10, 3) := by decide +kernel
theorem dX5_fits_47 : decode cX5_fits 47 = .ok (.aload_n 0, 1) := by decide +kernel
theorem dX5_fits_48 : decode cX5_fits 48 = .ok (.getfield 69, 3) := by decide +kernel
theorem dX5_fits_51 : decode cX5_fits 51 = .ok (.goto 4, 3) := by decide +kernel
theorem dX5_fits_54 : decode cX5_fits 54 = .ok (.iconst 0, 1) := by decide +kernel
theorem dX5_fits_55 : decode cX5_fits 55 = .ok (.istore 5, 2) := by decide +kernel
theorem dX5_fits_57 : decode cX5_fits 57 = .ok (.aload_n 0, 1) := by decide +kernel
theorem dX5_fits_58 : decode cX5_fits 58 = .ok (.getfield 22, 3) := by decide +kernel
theorem dX5_fits_61 : decode cX5_fits 61 = .ok (.iload_n 1, 1) := by decide +kernel
theorem dX5_fits_62 : decode cX5_fits 62 = .ok (.iaload, 1) := by decide +kernel
theorem dX5_fits_63 : decode cX5_fits 63 = .ok (.ifCond .ne 15, 3) := by decide +kernel
theorem dX5_fits_66 : decode cX5_fits 66 = .ok (.iload_n 3, 1) := by decide +kernel
theorem dX5_fits_67 : decode cX5_fits 67 = .ok (.ifCond .ne 7, 3) := by decide +kernel
theorem dX5_fits_70 : decode cX5_fits 70 = .ok (.iconst 1, 1) := by decide +kernel
theorem dX5_fits_71 : decode cX5_fits 71 = .ok (.goto 13, 3) := by decide +kernel
theorem dX5_fits_74 : decode cX5_fits 74 = .ok (.iconst 0, 1) := by decide +kernel
theorem dX5_fits_75 : decode cX5_fits 75 = .ok (.goto 9, 3) := by decide +kernel
theorem dX5_fits_78 : decode cX5_fits 78 = .ok (.aload_n 0, 1) := by decide +kernel
theorem dX5_fits_79 : decode cX5_fits 79 = .ok (.getfield 28, 3) := by decide +kernel
theorem dX5_fits_82 : decode cX5_fits 82 = .ok (.iload_n 1, 1) := by decide +kernel
theorem dX5_fits_83 : decode cX5_fits 83 = .ok (.baload, 1) := by decide +kernel
theorem dX5_fits_84 : decode cX5_fits 84 = .ok (.istore 6, 2) := by decide +kernel
theorem dX5_fits_86 : decode cX5_fits 86 = .ok (.aload_n 0, 1) := by decide +kernel
theorem dX5_fits_87 : decode cX5_fits 87 = .ok (.getfield 22, 3) := by decide +kernel
theorem dX5_fits_90 : decode cX5_fits 90 = .ok (.iload_n 1, 1) := by decide +kernel
theorem dX5_fits_91 : decode cX5_fits 91 = .ok (.iaload, 1) := by decide +kernel
theorem dX5_fits_92 : decode cX5_fits 92 = .ok (.ifCond .ne 7, 3) := by decide +kernel
theorem dX5_fits_95 : decode cX5_fits 95 = .ok (.iload_n 2, 1) := by decide +kernel
theorem dX5_fits_96 : decode cX5_fits 96 = .ok (.goto 12, 3) := by decide +kernel
theorem dX5_fits_99 : decode cX5_fits 99 = .ok (.aload_n 0, 1) := by decide +kernel
theorem dX5_fits_100 : decode cX5_fits 100 = .ok (.getfield 25, 3) := by decide +kernel
theorem dX5_fits_103 : decode cX5_fits 103 = .ok (.bipush 10, 2) := by decide +kernel
theorem dX5_fits_105 : decode cX5_fits 105 = .ok (.iload_n 1, 1) := by decide +kernel
theorem dX5_fits_106 : decode cX5_fits 106 = .ok (.imul, 1) := by decide +kernel
theorem dX5_fits_107 : decode cX5_fits 107 = .ok (.iaload, 1) := by decide +kernel
theorem dX5_fits_108 : decode cX5_fits 108 = .ok (.istore 7, 2) := by decide +kernel
theorem dX5_fits_110 : decode cX5_fits 110 = .ok (.iload 6, 2) := by decide +kernel
theorem dX5_fits_112 : decode cX5_fits 112 = .ok (.ifCond .eq 8, 3) := by decide +kernel
theorem dX5_fits_115 : decode cX5_fits 115 = .ok (.iload 7, 2) := by decide +kernel
theorem dX5_fits_117 : decode cX5_fits 117 = .ok (.goto 20, 3) := by decide +kernel
theorem dX5_fits_120 : decode cX5_fits 120 = .ok (.iload 4, 2) := by decide +kernel
theorem dX5_fits_122 : decode cX5_fits 122 = .ok (.ifCond .eq 10, 3) := by decide +kernel
theorem dX5_fits_125 : decode cX5_fits 125 = .ok (.aload_n 0, 1) := by decide +kernel
theorem dX5_fits_126 : decode cX5_fits 126 = .ok (.getfield 66, 3) := by decide +kernel
theorem dX5_fits_129 : decode cX5_fits 129 = .ok (.goto 8, 3) := by decide +kernel
theorem dX5_fits_132 : decode cX5_fits 132 = .ok (.iload 5, 2) := by decide +kernel
theorem dX5_fits_134 : decode cX5_fits 134 = .ok (.iload 7, 2) := by decide +kernel
theorem dX5_fits_136 : decode cX5_fits 136 = .ok (.iadd, 1) := by decide +kernel
theorem dX5_fits_137 : decode cX5_fits 137 = .ok (.istore 8, 2) := by decide +kernel
theorem dX5_fits_139 : decode cX5_fits 139 = .ok (.iload 8, 2) := by decide +kernel
theorem dX5_fits_141 : decode cX5_fits 141 = .ok (.istore 9, 2) := by decide +kernel
theorem dX5_fits_143 : decode cX5_fits 143 = .ok (.iconst 1, 1) := by decide +kernel
theorem dX5_fits_144 : decode cX5_fits 144 = .ok (.istore 10, 2) := by decide +kernel
theorem dX5_fits_146 : decode cX5_fits 146 = .ok (.iload 10, 2) := by decide +kernel
theorem dX5_fits_148 : decode cX5_fits 148 = .ok (.aload_n 0, 1) := by decide +kernel
theorem dX5_fits_149 : decode cX5_fits 149 = .ok (.getfield 22, 3) := by decide +kernel
theorem dX5_fits_152 : decode cX5_fits 152 = .ok (.iload_n 1, 1) := by decide +kernel
theorem dX5_fits_153 : decode cX5_fits 153 = .ok (.iaload, 1) := by decide +kernel
theorem dX5_fits_154 : decode cX5_fits 154 = .ok (.if_icmp .ge 26, 3) := by decide +kernel
theorem dX5_fits_157 : decode cX5_fits 157 = .ok (.iload 9, 2) := by decide +kernel
theorem dX5_fits_159 : decode cX5_fits 159 = .ok (.aload_n 0, 1) := by decide +kernel
theorem dX5_fits_160 : decode cX5_fits 160 = .ok (.getfield 25, 3) := by decide +kernel
theorem dX5_fits_163 : decode cX5_fits 163 = .ok (.bipush 10, 2) := by decide +kernel
theorem dX5_fits_165 : decode cX5_fits 165 = .ok (.iload_n 1, 1) := by decide +kernel
theorem dX5_fits_166 : decode cX5_fits 166 = .ok (.imul, 1) := by decide +kernel
theorem dX5_fits_167 : decode cX5_fits 167 = .ok (.iload 10, 2) := by decide +kernel
theorem dX5_fits_169 : decode cX5_fits 169 = .ok (.iadd, 1) := by decide +kernel
theorem dX5_fits_170 : decode cX5_fits 170 = .ok (.iaload, 1) := by decide +kernel
theorem dX5_fits_171 : decode cX5_fits 171 = .ok (.iadd, 1) := by decide +kernel
theorem dX5_fits_172 : decode cX5_fits 172 = .ok (.istore 9, 2) := by decide +kernel
theorem dX5_fits_174 : decode cX5_fits 174 = .ok (.iinc 10 1, 3) := by decide +kernel
theorem dX5_fits_177 : decode cX5_fits 177 = .ok (.goto (-31), 3) := by decide +kernel
theorem dX5_fits_180 : decode cX5_fits 180 = .ok (.iload 9, 2) := by decide +kernel
theorem dX5_fits_182 : decode cX5_fits 182 = .ok (.aload_n 0, 1) := by decide +kernel
theorem dX5_fits_183 : decode cX5_fits 183 = .ok (.getfield 22, 3) := by decide +kernel
theorem dX5_fits_186 : decode cX5_fits 186 = .ok (.iload_n 1, 1) := by decide +kernel
theorem dX5_fits_187 : decode cX5_fits 187 = .ok (.iaload, 1) := by decide +kernel
theorem dX5_fits_188 : decode cX5_fits 188 = .ok (.ifCond .le 7, 3) := by decide +kernel
theorem dX5_fits_191 : decode cX5_fits 191 = .ok (.iload_n 2, 1) := by decide +kernel
theorem dX5_fits_192 : decode cX5_fits 192 = .ok (.goto 4, 3) := by decide +kernel
theorem dX5_fits_195 : decode cX5_fits 195 = .ok (.iconst 0, 1) := by decide +kernel
theorem dX5_fits_196 : decode cX5_fits 196 = .ok (.iadd, 1) := by decide +kernel
theorem dX5_fits_197 : decode cX5_fits 197 = .ok (.istore 9, 2) := by decide +kernel
theorem dX5_fits_199 : decode cX5_fits 199 = .ok (.aload_n 0, 1) := by decide +kernel
theorem dX5_fits_200 : decode cX5_fits 200 = .ok (.getfield 16, 3) := by decide +kernel
theorem dX5_fits_203 : decode cX5_fits 203 = .ok (.iload_n 1, 1) := by decide +kernel
theorem dX5_fits_204 : decode cX5_fits 204 = .ok (.iaload, 1) := by decide +kernel
theorem dX5_fits_205 : decode cX5_fits 205 = .ok (.ifCond .eq 13, 3) := by decide +kernel
theorem dX5_fits_208 : decode cX5_fits 208 = .ok (.aload_n 0, 1) := by decide +kernel
theorem dX5_fits_209 : decode cX5_fits 209 = .ok (.getfield 16, 3) := by decide +kernel
theorem dX5_fits_212 : decode cX5_fits 212 = .ok (.iload_n 1, 1) := by decide +kernel
theorem dX5_fits_213 : decode cX5_fits 213 = .ok (.iaload, 1) := by decide +kernel
theorem dX5_fits_214 : decode cX5_fits 214 = .ok (.iconst 1, 1) := by decide +kernel
theorem dX5_fits_215 : decode cX5_fits 215 = .ok (.if_icmp .ne 18, 3) := by decide +kernel
theorem dX5_fits_218 : decode cX5_fits 218 = .ok (.iload 9, 2) := by decide +kernel
theorem dX5_fits_220 : decode cX5_fits 220 = .ok (.aload_n 0, 1) := by decide +kernel
theorem dX5_fits_221 : decode cX5_fits 221 = .ok (.getfield 66, 3) := by decide +kernel
theorem dX5_fits_224 : decode cX5_fits 224 = .ok (.if_icmp .ge 7, 3) := by decide +kernel
theorem dX5_fits_227 : decode cX5_fits 227 = .ok (.iconst 1, 1) := by decide +kernel
theorem dX5_fits_228 : decode cX5_fits 228 = .ok (.goto 4, 3) := by decide +kernel
theorem dX5_fits_231 : decode cX5_fits 231 = .ok (.iconst 0, 1) := by decide +kernel
theorem dX5_fits_232 : decode cX5_fits 232 = .ok (.ireturn, 1) := by decide +kernel
theorem dX5_fits_233 : decode cX5_fits 233 = .ok (.iload 4, 2) := by decide +kernel
theorem dX5_fits_235 : decode cX5_fits 235 = .ok (.ifCond .eq 27, 3) := by decide +kernel
theorem dX5_fits_238 : decode cX5_fits 238 = .ok (.iload 8, 2) := by decide +kernel
theorem dX5_fits_240 : decode cX5_fits 240 = .ok (.aload_n 0, 1) := by decide +kernel
theorem dX5_fits_241 : decode cX5_fits 241 = .ok (.getfield 66, 3) := by decide +kernel
theorem dX5_fits_244 : decode cX5_fits 244 = .ok (.if_icmp .lt 16, 3) := by decide +kernel
theorem dX5_fits_247 : decode cX5_fits 247 = .ok (.iload 9, 2) := by decide +kernel
theorem dX5_fits_249 : decode cX5_fits 249 = .ok (.aload_n 0, 1) := by decide +kernel
theorem dX5_fits_250 : decode cX5_fits 250 = .ok (.getfield 69, 3) := by decide +kernel
theorem dX5_fits_253 : decode cX5_fits 253 = .ok (.if_icmp .gt 7, 3) := by decide +kernel
theorem dX5_fits_256 : decode cX5_fits 256 = .ok (.iconst 1, 1) := by decide +kernel
theorem dX5_fits_257 : decode cX5_fits 257 = .ok (.goto 4, 3) := by decide +kernel
theorem dX5_fits_260 : decode cX5_fits 260 = .ok (.iconst 0, 1) := by decide +kernel
theorem dX5_fits_261 : decode cX5_fits 261 = .ok (.ireturn, 1) := by decide +kernel
theorem dX5_fits_262 : decode cX5_fits 262 = .ok (.aload_n 0, 1) := by decide +kernel
theorem dX5_fits_263 : decode cX5_fits 263 = .ok (.getfield 16, 3) := by decide +kernel
theorem dX5_fits_266 : decode cX5_fits 266 = .ok (.iload_n 1, 1) := by decide +kernel
theorem dX5_fits_267 : decode cX5_fits 267 = .ok (.iaload, 1) := by decide +kernel
theorem dX5_fits_268 : decode cX5_fits 268 = .ok (.bipush 6, 2) := by decide +kernel
theorem dX5_fits_270 : decode cX5_fits 270 = .ok (.if_icmp .eq 12, 3) := by decide +kernel
theorem dX5_fits_273 : decode cX5_fits 273 = .ok (.iload 8, 2) := by decide +kernel
theorem dX5_fits_275 : decode cX5_fits 275 = .ok (.aload_n 0, 1) := by decide +kernel
theorem dX5_fits_276 : decode cX5_fits 276 = .ok (.getfield 69, 3) := by decide +kernel
theorem dX5_fits_279 : decode cX5_fits 279 = .ok (.if_icmp .le 16, 3) := by decide +kernel
theorem dX5_fits_282 : decode cX5_fits 282 = .ok (.iload 9, 2) := by decide +kernel
theorem dX5_fits_284 : decode cX5_fits 284 = .ok (.aload_n 0, 1) := by decide +kernel
theorem dX5_fits_285 : decode cX5_fits 285 = .ok (.getfield 62, 3) := by decide +kernel
theorem dX5_fits_288 : decode cX5_fits 288 = .ok (.if_icmp .gt 7, 3) := by decide +kernel
theorem dX5_fits_291 : decode cX5_fits 291 = .ok (.iconst 1, 1) := by decide +kernel
theorem dX5_fits_292 : decode cX5_fits 292 = .ok (.goto 4, 3) := by decide +kernel
theorem dX5_fits_295 : decode cX5_fits 295 = .ok (.iconst 0, 1) := by decide +kernel
theorem dX5_fits_296 : decode cX5_fits 296 = .ok (.ireturn, 1) := by decide +kernel
theorem dX5_line_0 : decode cX5_line 0 = .ok (.aload_n 0, 1) := by decide +kernel
theorem dX5_line_1 : decode cX5_line 1 = .ok (.iconst 0, 1) := by decide +kernel
theorem dX5_line_2 : decode cX5_line 2 = .ok (.putfield 72, 3) := by decide +kernel
theorem dX5_line_5 : decode cX5_line 5 = .ok (.aload_n 0, 1) := by decide +kernel
theorem dX5_line_6 : decode cX5_line 6 = .ok (.iload_n 1, 1) := by decide +kernel
theorem dX5_line_7 : decode cX5_line 7 = .ok (.invokevirtual 78, 3) := by decide +kernel
theorem dX5_line_10 : decode cX5_line 10 = .ok (.ifCond .ne 6, 3) := by decide +kernel
theorem dX5_line_13 : decode cX5_line 13 = .ok (.bipush (-2), 2) := by decide +kernel
theorem dX5_line_15 : decode cX5_line 15 = .ok (.ireturn, 1) := by decide +kernel
theorem dX5_line_16 : decode cX5_line 16 = .ok (.iload_n 2, 1) := by decide +kernel
theorem dX5_line_17 : decode cX5_line 17 = .ok (.iconst 1, 1) := by decide +kernel
theorem dX5_line_18 : decode cX5_line 18 = .ok (.if_icmp .lt 33, 3) := by decide +kernel
theorem dX5_line_21 : decode cX5_line 21 = .ok (.iload_n 2, 1) := by decide +kernel
theorem dX5_line_22 : decode cX5_line 22 = .ok (.iload_n 3, 1) := by decide +kernel
theorem dX5_line_23 : decode cX5_line 23 = .ok (.ifCond .eq 8, 3) := by decide +kernel
theorem dX5_line_26 : decode cX5_line 26 = .ok (.bipush 20, 2) := by decide +kernel
theorem dX5_line_28 : decode cX5_line 28 = .ok (.goto 7, 3) := by decide +kernel
theorem dX5_line_31 : decode cX5_line 31 = .ok (.aload_n 0, 1) := by decide +kernel
theorem dX5_line_32 : decode cX5_line 32 = .ok (.getfield 62, 3) := by decide +kernel
theorem dX5_line_35 : decode cX5_line 35 = .ok (.if_icmp .gt 16, 3) := by decide +kernel
theorem dX5_line_38 : decode cX5_line 38 = .ok (.iload_n 3, 1) := by decide +kernel
theorem dX5_line_39 : decode cX5_line 39 = .ok (.ifCond .ne 15, 3) := by decide +kernel
theorem dX5_line_42 : decode cX5_line 42 = .ok (.aload_n 0, 1) := by decide +kernel
theorem dX5_line_43 : decode cX5_line 43 = .ok (.getfield 22, 3) := by decide +kernel
theorem dX5_line_46 : decode cX5_line 46 = .ok (.iload_n 1, 1) := by decide +kernel
theorem dX5_line_47 : decode cX5_line 47 = .ok (.iaload, 1) := by decide +kernel
theorem dX5_line_48 : decode cX5_line 48 = .ok (.ifCond .le 6, 3) := by decide +kernel
theorem dX5_line_51 : decode cX5_line 51 = .ok (.bipush (-4), 2) := by decide +kernel
theorem dX5_line_53 : decode cX5_line 53 = .ok (.ireturn, 1) := by decide +kernel
theorem dX5_line_54 : decode cX5_line 54 = .ok (.aload_n 0, 1) := by decide +kernel
theorem dX5_line_55 : decode cX5_line 55 = .ok (.getfield 85, 3) := by decide +kernel
theorem dX5_line_58 : decode cX5_line 58 = .ok (.ifCond .eq 6, 3) := by decide +kernel
theorem dX5_line_61 : decode cX5_line 61 = .ok (.bipush (-5), 2) := by decide +kernel
theorem dX5_line_63 : decode cX5_line 63 = .ok (.ireturn, 1) := by decide +kernel
theorem dX5_line_64 : decode cX5_line 64 = .ok (.aload_n 0, 1) := by decide +kernel
theorem dX5_line_65 : decode cX5_line 65 = .ok (.getfield 22, 3) := by decide +kernel
theorem dX5_line_68 : decode cX5_line 68 = .ok (.iload_n 1, 1) := by decide +kernel
theorem dX5_line_69 : decode cX5_line 69 = .ok (.iaload, 1) := by decide +kernel
theorem dX5_line_70 : decode cX5_line 70 = .ok (.bipush 10, 2) := by decide +kernel
theorem dX5_line_72 : decode cX5_line 72 = .ok (.if_icmp .ne 5, 3) := by decide +kernel
theorem dX5_line_75 : decode cX5_line 75 = .ok (.iconst (-1), 1) := by decide +kernel
theorem dX5_line_76 : decode cX5_line 76 = .ok (.ireturn, 1) := by decide +kernel
theorem dX5_line_77 : decode cX5_line 77 = .ok (.aload_n 0, 1) := by decide +kernel
theorem dX5_line_78 : decode cX5_line 78 = .ok (.iload_n 1, 1) := by decide +kernel
theorem dX5_line_79 : decode cX5_line 79 = .ok (.iload_n 2, 1) := by decide +kernel
theorem dX5_line_80 : decode cX5_line 80 = .ok (.iload_n 3, 1) := by decide +kernel
theorem dX5_line_81 : decode cX5_line 81 = .ok (.invokevirtual 93, 3) := by decide +kernel
theorem dX5_line_84 : decode cX5_line 84 = .ok (.ifCond .ne 5, 3) := by decide +kernel
theorem dX5_line_87 : decode cX5_line 87 = .ok (.iconst 0, 1) := by decide +kernel
theorem dX5_line_88 : decode cX5_line 88 = .ok (.ireturn, 1) := by decide +kernel
theorem dX5_line_89 : decode cX5_line 89 = .ok (.aload_n 0, 1) := by decide +kernel
theorem dX5_line_90 : decode cX5_line 90 = .ok (.getfield 25, 3) := by decide +kernel
theorem dX5_line_93 : decode cX5_line 93 = .ok (.bipush 10, 2) := by decide +kernel
theorem dX5_line_95 : decode cX5_line 95 = .ok (.iload_n 1, 1) := by decide +kernel
theorem dX5_line_96 : decode cX5_line 96 = .ok (.imul, 1) := by decide +kernel
theorem dX5_line_97 : decode cX5_line 97 = .ok (.aload_n 0, 1) := by decide +kernel
theorem dX5_line_98 : decode cX5_line 98 = .ok (.getfield 22, 3) := by decide +kernel
theorem dX5_line_101 : decode cX5_line 101 = .ok (.iload_n 1, 1) := by decide +kernel
theorem dX5_line_102 : decode cX5_line 102 = .ok (.iaload, 1) := by decide +kernel
theorem dX5_line_103 : decode cX5_line 103 = .ok (.iadd, 1) := by decide +kernel
theorem dX5_line_104 : decode cX5_line 104 = .ok (.iload_n 2, 1) := by decide +kernel
theorem dX5_line_105 : decode cX5_line 105 = .ok (.iastore, 1) := by decide +kernel
theorem dX5_line_106 : decode cX5_line 106 = .ok (.aload_n 0, 1) := by decide +kernel
theorem dX5_line_107 : decode cX5_line 107 = .ok (.getfield 22, 3) := by decide +kernel
theorem dX5_line_110 : decode cX5_line 110 = .ok (.iload_n 1, 1) := by decide +kernel
theorem dX5_line_111 : decode cX5_line 111 = .ok (.iaload, 1) := by decide +kernel
theorem dX5_line_112 : decode cX5_line 112 = .ok (.ifCond .ne 18, 3) := by decide +kernel
theorem dX5_line_115 : decode cX5_line 115 = .ok (.aload_n 0, 1) := by decide +kernel
theorem dX5_line_116 : decode cX5_line 116 = .ok (.getfield 28, 3) := by decide +kernel
theorem dX5_line_119 : decode cX5_line 119 = .ok (.iload_n 1, 1) := by decide +kernel
theorem dX5_line_120 : decode cX5_line 120 = .ok (.iload_n 3, 1) := by decide +kernel
theorem dX5_line_121 : decode cX5_line 121 = .ok (.ifCond .ne 7, 3) := by decide +kernel
theorem dX5_line_124 : decode cX5_line 124 = .ok (.iconst 1, 1) := by decide +kernel
theorem dX5_line_125 : decode cX5_line 125 = .ok (.goto 4, 3) := by decide +kernel
theorem dX5_line_128 : decode cX5_line 128 = .ok (.iconst 0, 1) := by decide +kernel
theorem dX5_line_129 : decode cX5_line 129 = .ok (.bastore, 1) := by decide +kernel
theorem dX5_line_130 : decode cX5_line 130 = .ok (.aload_n 0, 1) := by decide +kernel
theorem dX5_line_131 : decode cX5_line 131 = .ok (.getfield 22, 3) := by decide +kernel
theorem dX5_line_134 : decode cX5_line 134 = .ok (.iload_n 1, 1) := by decide +kernel
theorem dX5_line_135 : decode cX5_line 135 = .ok (.dup2, 1) := by decide +kernel
theorem dX5_line_136 : decode cX5_line 136 = .ok (.iaload, 1) := by decide +kernel
theorem dX5_line_137 : decode cX5_line 137 = .ok (.iconst 1, 1) := by decide +kernel
theorem dX5_line_138 : decode cX5_line 138 = .ok (.iadd, 1) := by decide +kernel
theorem dX5_line_139 : decode cX5_line 139 = .ok (.iastore, 1) := by decide +kernel
theorem dX5_line_140 : decode cX5_line 140 = .ok (.aload_n 0, 1) := by decide +kernel
theorem dX5_line_141 : decode cX5_line 141 = .ok (.getfield 22, 3) := by decide +kernel
theorem dX5_line_144 : decode cX5_line 144 = .ok (.iload_n 1, 1) := by decide +kernel
theorem dX5_line_145 : decode cX5_line 145 = .ok (.iaload, 1) := by decide +kernel
theorem dX5_line_146 : decode cX5_line 146 = .ok (.ireturn, 1) := by decide +kernel
theorem dX5_isOf_0 : decode cX5_isOf 0 = .ok (.iload_n 2, 1) := by decide +kernel
theorem dX5_isOf_1 : decode cX5_isOf 1 = .ok (.ifCond .eq 11, 3) := by decide +kernel
theorem dX5_isOf_4 : decode cX5_isOf 4 = .ok (.aload_n 0, 1) := by decide +kernel
theorem dX5_isOf_5 : decode cX5_isOf 5 = .ok (.iload_n 2, 1) := by decide +kernel
theorem dX5_isOf_6 : decode cX5_isOf 6 = .ok (.invokevirtual 97, 3) := by decide +kernel
theorem dX5_isOf_9 : decode cX5_isOf 9 = .ok (.ifCond .eq 5, 3) := by decide +kernel
theorem dX5_isOf_12 : decode cX5_isOf 12 = .ok (.iconst 1, 1) := by decide +kernel
theorem dX5_isOf_13 : decode cX5_isOf 13 = .ok (.ireturn, 1) := by decide +kernel
theorem dX5_isOf_14 : decode cX5_isOf 14 = .ok (.iconst 0, 1) := by decide +kernel
theorem dX5_isOf_15 : decode cX5_isOf 15 = .ok (.iload_n 2, 1) := by decide +kernel
theorem dX5_isOf_16 : decode cX5_isOf 16 = .ok (.isub, 1) := by decide +kernel
theorem dX5_isOf_17 : decode cX5_isOf 17 = .ok (.istore_n 3, 1) := by decide +kernel
theorem dX5_isOf_18 : decode cX5_isOf 18 = .ok (.iload_n 3, 1) := by decide +kernel
theorem dX5_isOf_19 : decode cX5_isOf 19 = .ok (.ifCond .le 35, 3) := by decide +kernel
theorem dX5_isOf_22 : decode cX5_isOf 22 = .ok (.iload_n 3, 1) := by decide +kernel
theorem dX5_isOf_23 : decode cX5_isOf 23 = .ok (.aload_n 0, 1) := by decide +kernel
theorem dX5_isOf_24 : decode cX5_isOf 24 = .ok (.getfield 100, 3) := by decide +kernel
theorem dX5_isOf_27 : decode cX5_isOf 27 = .ok (.if_icmp .gt 27, 3) := by decide +kernel
theorem dX5_isOf_30 : decode cX5_isOf 30 = .ok (.aload_n 0, 1) := by decide +kernel
theorem dX5_isOf_31 : decode cX5_isOf 31 = .ok (.getfield 19, 3) := by decide +kernel
theorem dX5_isOf_34 : decode cX5_isOf 34 = .ok (.aload_n 0, 1) := by decide +kernel
theorem dX5_isOf_35 : decode cX5_isOf 35 = .ok (.getfield 41, 3) := by decide +kernel
theorem dX5_isOf_38 : decode cX5_isOf 38 = .ok (.iload_n 3, 1) := by decide +kernel
theorem dX5_isOf_39 : decode cX5_isOf 39 = .ok (.iaload, 1) := by decide +kernel
theorem dX5_isOf_40 : decode cX5_isOf 40 = .ok (.iaload, 1) := by decide +kernel
theorem dX5_isOf_41 : decode cX5_isOf 41 = .ok (.aload_n 0, 1) := by decide +kernel
theorem dX5_isOf_42 : decode cX5_isOf 42 = .ok (.getfield 19, 3) := by decide +kernel
theorem dX5_isOf_45 : decode cX5_isOf 45 = .ok (.iload_n 1, 1) := by decide +kernel
theorem dX5_isOf_46 : decode cX5_isOf 46 = .ok (.iaload, 1) := by decide +kernel
theorem dX5_isOf_47 : decode cX5_isOf 47 = .ok (.if_icmp .le 7, 3) := by decide +kernel
theorem dX5_isOf_50 : decode cX5_isOf 50 = .ok (.iconst 1, 1) := by decide +kernel
theorem dX5_isOf_51 : decode cX5_isOf 51 = .ok (.goto 4, 3) := by decide +kernel
theorem dX5_isOf_54 : decode cX5_isOf 54 = .ok (.iconst 0, 1) := by decide +kernel
theorem dX5_isOf_55 : decode cX5_isOf 55 = .ok (.ireturn, 1) := by decide +kernel
theorem dX5_sum_0 : decode cX5_sum 0 = .ok (.aload_n 0, 1) := by decide +kernel
theorem dX5_sum_1 : decode cX5_sum 1 = .ok (.iconst 0, 1) := by decide +kernel
theorem dX5_sum_2 : decode cX5_sum 2 = .ok (.putfield 72, 3) := by decide +kernel
theorem dX5_sum_5 : decode cX5_sum 5 = .ok (.aload_n 0, 1) := by decide +kernel
theorem dX5_sum_6 : decode cX5_sum 6 = .ok (.iload_n 1, 1) := by decide +kernel
theorem dX5_sum_7 : decode cX5_sum 7 = .ok (.invokevirtual 78, 3) := by decide +kernel
theorem dX5_sum_10 : decode cX5_sum 10 = .ok (.ifCond .eq 13, 3) := by decide +kernel
theorem dX5_sum_13 : decode cX5_sum 13 = .ok (.aload_n 0, 1) := by decide +kernel
theorem dX5_sum_14 : decode cX5_sum 14 = .ok (.getfield 16, 3) := by decide +kernel
theorem dX5_sum_17 : decode cX5_sum 17 = .ok (.iload_n 1, 1) := by decide +kernel
theorem dX5_sum_18 : decode cX5_sum 18 = .ok (.iaload, 1) := by decide +kernel
theorem dX5_sum_19 : decode cX5_sum 19 = .ok (.iconst 4, 1) := by decide +kernel
theorem dX5_sum_20 : decode cX5_sum 20 = .ok (.if_icmp .eq 6, 3) := by decide +kernel
theorem dX5_sum_23 : decode cX5_sum 23 = .ok (.bipush (-2), 2) := by decide +kernel
theorem dX5_sum_25 : decode cX5_sum 25 = .ok (.ireturn, 1) := by decide +kernel
theorem dX5_sum_26 : decode cX5_sum 26 = .ok (.aload_n 0, 1) := by decide +kernel
theorem dX5_sum_27 : decode cX5_sum 27 = .ok (.iload_n 1, 1) := by decide +kernel
theorem dX5_sum_28 : decode cX5_sum 28 = .ok (.iload_n 2, 1) := by decide +kernel
theorem dX5_sum_29 : decode cX5_sum 29 = .ok (.invokevirtual 103, 3) := by decide +kernel
theorem dX5_sum_32 : decode cX5_sum 32 = .ok (.ifCond .eq 17, 3) := by decide +kernel
theorem dX5_sum_35 : decode cX5_sum 35 = .ok (.iload_n 3, 1) := by decide +kernel
theorem dX5_sum_36 : decode cX5_sum 36 = .ok (.ifCond .lt 13, 3) := by decide +kernel
theorem dX5_sum_39 : decode cX5_sum 39 = .ok (.iload_n 3, 1) := by decide +kernel
theorem dX5_sum_40 : decode cX5_sum 40 = .ok (.aload_n 0, 1) := by decide +kernel
theorem dX5_sum_41 : decode cX5_sum 41 = .ok (.getfield 19, 3) := by decide +kernel
theorem dX5_sum_44 : decode cX5_sum 44 = .ok (.iload_n 1, 1) := by decide +kernel
theorem dX5_sum_45 : decode cX5_sum 45 = .ok (.iaload, 1) := by decide +kernel
theorem dX5_sum_46 : decode cX5_sum 46 = .ok (.if_icmp .le 6, 3) := by decide +kernel
theorem dX5_sum_49 : decode cX5_sum 49 = .ok (.bipush (-4), 2) := by decide +kernel
theorem dX5_sum_51 : decode cX5_sum 51 = .ok (.ireturn, 1) := by decide +kernel
theorem dX5_sum_52 : decode cX5_sum 52 = .ok (.aload_n 0, 1) := by decide +kernel
theorem dX5_sum_53 : decode cX5_sum 53 = .ok (.getfield 85, 3) := by decide +kernel
theorem dX5_sum_56 : decode cX5_sum 56 = .ok (.ifCond .eq 6, 3) := by decide +kernel
theorem dX5_sum_59 : decode cX5_sum 59 = .ok (.bipush (-5), 2) := by decide +kernel
theorem dX5_sum_61 : decode cX5_sum 61 = .ok (.ireturn, 1) := by decide +kernel
theorem dX5_sum_62 : decode cX5_sum 62 = .ok (.aload_n 0, 1) := by decide +kernel
theorem dX5_sum_63 : decode cX5_sum 63 = .ok (.getfield 100, 3) := by decide +kernel
theorem dX5_sum_66 : decode cX5_sum 66 = .ok (.bipush 20, 2) := by decide +kernel
theorem dX5_sum_68 : decode cX5_sum 68 = .ok (.if_icmp .ne 5, 3) := by decide +kernel
theorem dX5_sum_71 : decode cX5_sum 71 = .ok (.iconst (-1), 1) := by decide +kernel
theorem dX5_sum_72 : decode cX5_sum 72 = .ok (.ireturn, 1) := by decide +kernel
theorem dX5_sum_73 : decode cX5_sum 73 = .ok (.aload_n 0, 1) := by decide +kernel
theorem dX5_sum_74 : decode cX5_sum 74 = .ok (.dup, 1) := by decide +kernel
theorem dX5_sum_75 : decode cX5_sum 75 = .ok (.getfield 100, 3) := by decide +kernel
theorem dX5_sum_78 : decode cX5_sum 78 = .ok (.iconst 1, 1) := by decide +kernel
theorem dX5_sum_79 : decode cX5_sum 79 = .ok (.iadd, 1) := by decide +kernel
theorem dX5_sum_80 : decode cX5_sum 80 = .ok (.putfield 100, 3) := by decide +kernel
theorem dX5_sum_83 : decode cX5_sum 83 = .ok (.aload_n 0, 1) := by decide +kernel
theorem dX5_sum_84 : decode cX5_sum 84 = .ok (.getfield 41, 3) := by decide +kernel
theorem dX5_sum_87 : decode cX5_sum 87 = .ok (.aload_n 0, 1) := by decide +kernel
theorem dX5_sum_88 : decode cX5_sum 88 = .ok (.getfield 100, 3) := by decide +kernel
theorem dX5_sum_91 : decode cX5_sum 91 = .ok (.iload_n 1, 1) := by decide +kernel
theorem dX5_sum_92 : decode cX5_sum 92 = .ok (.iastore, 1) := by decide +kernel
theorem dX5_sum_93 : decode cX5_sum 93 = .ok (.aload_n 0, 1) := by decide +kernel
theorem dX5_sum_94 : decode cX5_sum 94 = .ok (.getfield 44, 3) := by decide +kernel
theorem dX5_sum_97 : decode cX5_sum 97 = .ok (.aload_n 0, 1) := by decide +kernel
theorem dX5_sum_98 : decode cX5_sum 98 = .ok (.getfield 100, 3) := by decide +kernel
theorem dX5_sum_101 : decode cX5_sum 101 = .ok (.iload_n 2, 1) := by decide +kernel
theorem dX5_sum_102 : decode cX5_sum 102 = .ok (.iastore, 1) := by decide +kernel
theorem dX5_sum_103 : decode cX5_sum 103 = .ok (.aload_n 0, 1) := by decide +kernel
theorem dX5_sum_104 : decode cX5_sum 104 = .ok (.getfield 47, 3) := by decide +kernel
theorem dX5_sum_107 : decode cX5_sum 107 = .ok (.aload_n 0, 1) := by decide +kernel
theorem dX5_sum_108 : decode cX5_sum 108 = .ok (.getfield 100, 3) := by decide +kernel
theorem dX5_sum_111 : decode cX5_sum 111 = .ok (.iload_n 3, 1) := by decide +kernel
theorem dX5_sum_112 : decode cX5_sum 112 = .ok (.iastore, 1) := by decide +kernel
theorem dX5_sum_113 : decode cX5_sum 113 = .ok (.aload_n 0, 1) := by decide +kernel
theorem dX5_sum_114 : decode cX5_sum 114 = .ok (.getfield 50, 3) := by decide +kernel
theorem dX5_sum_117 : decode cX5_sum 117 = .ok (.aload_n 0, 1) := by decide +kernel
theorem dX5_sum_118 : decode cX5_sum 118 = .ok (.getfield 100, 3) := by decide +kernel
theorem dX5_sum_121 : decode cX5_sum 121 = .ok (.lconst 0, 1) := by decide +kernel
theorem dX5_sum_122 : decode cX5_sum 122 = .ok (.lastore, 1) := by decide +kernel
theorem dX5_sum_123 : decode cX5_sum 123 = .ok (.aload_n 0, 1) := by decide +kernel
theorem dX5_sum_124 : decode cX5_sum 124 = .ok (.getfield 100, 3) := by decide +kernel
theorem dX5_sum_127 : decode cX5_sum 127 = .ok (.ireturn, 1) := by decide +kernel
theorem dX5_control_0 : decode cX5_control 0 = .ok (.aload_n 0, 1) := by decide +kernel
theorem dX5_control_1 : decode cX5_control 1 = .ok (.iconst 0, 1) := by decide +kernel
theorem dX5_control_2 : decode cX5_control 2 = .ok (.putfield 72, 3) := by decide +kernel
theorem dX5_control_5 : decode cX5_control 5 = .ok (.aload_n 0, 1) := by decide +kernel
theorem dX5_control_6 : decode cX5_control 6 = .ok (.getfield 85, 3) := by decide +kernel
theorem dX5_control_9 : decode cX5_control 9 = .ok (.ifCond .eq 6, 3) := by decide +kernel
theorem dX5_control_12 : decode cX5_control 12 = .ok (.bipush (-5), 2) := by decide +kernel
theorem dX5_control_14 : decode cX5_control 14 = .ok (.ireturn, 1) := by decide +kernel
theorem dX5_control_15 : decode cX5_control 15 = .ok (.aload_n 0, 1) := by decide +kernel
theorem dX5_control_16 : decode cX5_control 16 = .ok (.getfield 82, 3) := by decide +kernel
theorem dX5_control_19 : decode cX5_control 19 = .ok (.iconst 5, 1) := by decide +kernel
theorem dX5_control_20 : decode cX5_control 20 = .ok (.if_icmp .ne 5, 3) := by decide +kernel
theorem dX5_control_23 : decode cX5_control 23 = .ok (.iconst (-1), 1) := by decide +kernel
theorem dX5_control_24 : decode cX5_control 24 = .ok (.ireturn, 1) := by decide +kernel
theorem dX5_control_25 : decode cX5_control 25 = .ok (.aload_n 0, 1) := by decide +kernel
theorem dX5_control_26 : decode cX5_control 26 = .ok (.dup, 1) := by decide +kernel
theorem dX5_control_27 : decode cX5_control 27 = .ok (.getfield 82, 3) := by decide +kernel
theorem dX5_control_30 : decode cX5_control 30 = .ok (.iconst 1, 1) := by decide +kernel
theorem dX5_control_31 : decode cX5_control 31 = .ok (.iadd, 1) := by decide +kernel
theorem dX5_control_32 : decode cX5_control 32 = .ok (.putfield 82, 3) := by decide +kernel
theorem dX5_control_35 : decode cX5_control 35 = .ok (.aload_n 0, 1) := by decide +kernel
theorem dX5_control_36 : decode cX5_control 36 = .ok (.getfield 7, 3) := by decide +kernel
theorem dX5_control_39 : decode cX5_control 39 = .ok (.aload_n 0, 1) := by decide +kernel
theorem dX5_control_40 : decode cX5_control 40 = .ok (.getfield 82, 3) := by decide +kernel
theorem dX5_control_43 : decode cX5_control 43 = .ok (.iload_n 1, 1) := by decide +kernel
theorem dX5_control_44 : decode cX5_control 44 = .ok (.iastore, 1) := by decide +kernel
theorem dX5_control_45 : decode cX5_control 45 = .ok (.aload_n 0, 1) := by decide +kernel
theorem dX5_control_46 : decode cX5_control 46 = .ok (.getfield 82, 3) := by decide +kernel
theorem dX5_control_49 : decode cX5_control 49 = .ok (.ireturn, 1) := by decide +kernel
theorem dX5_set_0 : decode cX5_set 0 = .ok (.aload_n 0, 1) := by decide +kernel
theorem dX5_set_1 : decode cX5_set 1 = .ok (.iconst 0, 1) := by decide +kernel
theorem dX5_set_2 : decode cX5_set 2 = .ok (.putfield 72, 3) := by decide +kernel
theorem dX5_set_5 : decode cX5_set 5 = .ok (.iload_n 1, 1) := by decide +kernel
theorem dX5_set_6 : decode cX5_set 6 = .ok (.iconst 1, 1) := by decide +kernel
theorem dX5_set_7 : decode cX5_set 7 = .ok (.if_icmp .lt 11, 3) := by decide +kernel
theorem dX5_set_10 : decode cX5_set 10 = .ok (.iload_n 1, 1) := by decide +kernel
theorem dX5_set_11 : decode cX5_set 11 = .ok (.aload_n 0, 1) := by decide +kernel
theorem dX5_set_12 : decode cX5_set 12 = .ok (.getfield 82, 3) := by decide +kernel
theorem dX5_set_15 : decode cX5_set 15 = .ok (.if_icmp .le 6, 3) := by decide +kernel
theorem dX5_set_18 : decode cX5_set 18 = .ok (.bipush (-4), 2) := by decide +kernel
theorem dX5_set_20 : decode cX5_set 20 = .ok (.ireturn, 1) := by decide +kernel
theorem dX5_set_21 : decode cX5_set 21 = .ok (.aload_n 0, 1) := by decide +kernel
theorem dX5_set_22 : decode cX5_set 22 = .ok (.getfield 7, 3) := by decide +kernel
theorem dX5_set_25 : decode cX5_set 25 = .ok (.iload_n 1, 1) := by decide +kernel
theorem dX5_set_26 : decode cX5_set 26 = .ok (.iaload, 1) := by decide +kernel
theorem dX5_set_27 : decode cX5_set 27 = .ok (.istore_n 3, 1) := by decide +kernel
theorem dX5_set_28 : decode cX5_set 28 = .ok (.aload_n 0, 1) := by decide +kernel
theorem dX5_set_29 : decode cX5_set 29 = .ok (.getfield 7, 3) := by decide +kernel
theorem dX5_set_32 : decode cX5_set 32 = .ok (.iload_n 1, 1) := by decide +kernel
theorem dX5_set_33 : decode cX5_set 33 = .ok (.iload_n 2, 1) := by decide +kernel
theorem dX5_set_34 : decode cX5_set 34 = .ok (.iastore, 1) := by decide +kernel
theorem dX5_set_35 : decode cX5_set 35 = .ok (.iload_n 3, 1) := by decide +kernel
theorem dX5_set_36 : decode cX5_set 36 = .ok (.ireturn, 1) := by decide +kernel
theorem dX5_suppress_0 : decode cX5_suppress 0 = .ok (.aload_n 0, 1) := by decide +kernel
theorem dX5_suppress_1 : decode cX5_suppress 1 = .ok (.iconst 0, 1) := by decide +kernel
theorem dX5_suppress_2 : decode cX5_suppress 2 = .ok (.putfield 72, 3) := by decide +kernel
theorem dX5_suppress_5 : decode cX5_suppress 5 = .ok (.aload_n 0, 1) := by decide +kernel
theorem dX5_suppress_6 : decode cX5_suppress 6 = .ok (.iload_n 1, 1) := by decide +kernel
theorem dX5_suppress_7 : decode cX5_suppress 7 = .ok (.invokevirtual 78, 3) := by decide +kernel
theorem dX5_suppress_10 : decode cX5_suppress 10 = .ok (.ifCond .ne 6, 3) := by decide +kernel
theorem dX5_suppress_13 : decode cX5_suppress 13 = .ok (.bipush (-2), 2) := by decide +kernel
theorem dX5_suppress_15 : decode cX5_suppress 15 = .ok (.ireturn, 1) := by decide +kernel
theorem dX5_suppress_16 : decode cX5_suppress 16 = .ok (.aload_n 0, 1) := by decide +kernel
theorem dX5_suppress_17 : decode cX5_suppress 17 = .ok (.getfield 32, 3) := by decide +kernel
theorem dX5_suppress_20 : decode cX5_suppress 20 = .ok (.iload_n 1, 1) := by decide +kernel
theorem dX5_suppress_21 : decode cX5_suppress 21 = .ok (.baload, 1) := by decide +kernel
theorem dX5_suppress_22 : decode cX5_suppress 22 = .ok (.istore_n 2, 1) := by decide +kernel
theorem dX5_suppress_23 : decode cX5_suppress 23 = .ok (.aload_n 0, 1) := by decide +kernel
theorem dX5_suppress_24 : decode cX5_suppress 24 = .ok (.getfield 32, 3) := by decide +kernel
theorem dX5_suppress_27 : decode cX5_suppress 27 = .ok (.iload_n 1, 1) := by decide +kernel
theorem dX5_suppress_28 : decode cX5_suppress 28 = .ok (.iconst 1, 1) := by decide +kernel
theorem dX5_suppress_29 : decode cX5_suppress 29 = .ok (.bastore, 1) := by decide +kernel
theorem dX5_suppress_30 : decode cX5_suppress 30 = .ok (.iload_n 2, 1) := by decide +kernel
theorem dX5_suppress_31 : decode cX5_suppress 31 = .ok (.ifCond .eq 7, 3) := by decide +kernel
theorem dX5_suppress_34 : decode cX5_suppress 34 = .ok (.iconst 0, 1) := by decide +kernel
theorem dX5_suppress_35 : decode cX5_suppress 35 = .ok (.goto 4, 3) := by decide +kernel
theorem dX5_suppress_38 : decode cX5_suppress 38 = .ok (.iconst 1, 1) := by decide +kernel
theorem dX5_suppress_39 : decode cX5_suppress 39 = .ok (.ireturn, 1) := by decide +kernel
theorem dX5_indicate_0 : decode cX5_indicate 0 = .ok (.aload_n 0, 1) := by decide +kernel
theorem dX5_indicate_1 : decode cX5_indicate 1 = .ok (.iconst 0, 1) := by decide +kernel
theorem dX5_indicate_2 : decode cX5_indicate 2 = .ok (.putfield 72, 3) := by decide +kernel
theorem dX5_indicate_5 : decode cX5_indicate 5 = .ok (.aload_n 0, 1) := by decide +kernel
theorem dX5_indicate_6 : decode cX5_indicate 6 = .ok (.iload_n 1, 1) := by decide +kernel
theorem dX5_indicate_7 : decode cX5_indicate 7 = .ok (.invokevirtual 97, 3) := by decide +kernel
theorem dX5_indicate_10 : decode cX5_indicate 10 = .ok (.ifCond .ne 6, 3) := by decide +kernel
theorem dX5_indicate_13 : decode cX5_indicate 13 = .ok (.bipush (-2), 2) := by decide +kernel
theorem dX5_indicate_15 : decode cX5_indicate 15 = .ok (.ireturn, 1) := by decide +kernel
theorem dX5_indicate_16 : decode cX5_indicate 16 = .ok (.aload_n 0, 1) := by decide +kernel
theorem dX5_indicate_17 : decode cX5_indicate 17 = .ok (.getfield 35, 3) := by decide +kernel
