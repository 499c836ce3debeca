theorem dX11_strain_89 : decode cX11_strain 89 = .ok (.goto 5, 3) := by decide +kernel
theorem dX11_strain_92 : decode cX11_strain 92 = .ok (.iload 5, 2) := by decide +kernel
theorem dX11_strain_94 : decode cX11_strain 94 = .ok (.istore 5, 2) := by decide +kernel
theorem dX11_strain_96 : decode cX11_strain 96 = .ok (.iload 7, 2) := by decide +kernel
theorem dX11_strain_98 : decode cX11_strain 98 = .ok (.ifCond .ne 13, 3) := by decide +kernel
theorem dX11_strain_101 : decode cX11_strain 101 = .ok (.aload_n 0, 1) := by decide +kernel
theorem dX11_strain_102 : decode cX11_strain 102 = .ok (.getfield 77, 3) := by decide +kernel
theorem dX11_strain_105 : decode cX11_strain 105 = .ok (.iload 10, 2) := by decide +kernel
theorem dX11_strain_107 : decode cX11_strain 107 = .ok (.iaload, 1) := by decide +kernel
theorem dX11_strain_108 : decode cX11_strain 108 = .ok (.ifCond .ne 7, 3) := by decide +kernel
theorem dX11_strain_111 : decode cX11_strain 111 = .ok (.iconst 1, 1) := by decide +kernel
theorem dX11_strain_112 : decode cX11_strain 112 = .ok (.goto 4, 3) := by decide +kernel
theorem dX11_strain_115 : decode cX11_strain 115 = .ok (.iconst 0, 1) := by decide +kernel
theorem dX11_strain_116 : decode cX11_strain 116 = .ok (.istore 7, 2) := by decide +kernel
theorem dX11_strain_118 : decode cX11_strain 118 = .ok (.iload 8, 2) := by decide +kernel
theorem dX11_strain_120 : decode cX11_strain 120 = .ok (.aload_n 0, 1) := by decide +kernel
theorem dX11_strain_121 : decode cX11_strain 121 = .ok (.getfield 77, 3) := by decide +kernel
theorem dX11_strain_124 : decode cX11_strain 124 = .ok (.iload 10, 2) := by decide +kernel
theorem dX11_strain_126 : decode cX11_strain 126 = .ok (.iaload, 1) := by decide +kernel
theorem dX11_strain_127 : decode cX11_strain 127 = .ok (.ifCond .le 7, 3) := by decide +kernel
theorem dX11_strain_130 : decode cX11_strain 130 = .ok (.iconst 1, 1) := by decide +kernel
theorem dX11_strain_131 : decode cX11_strain 131 = .ok (.goto 4, 3) := by decide +kernel
theorem dX11_strain_134 : decode cX11_strain 134 = .ok (.iconst 0, 1) := by decide +kernel
theorem dX11_strain_135 : decode cX11_strain 135 = .ok (.iadd, 1) := by decide +kernel
theorem dX11_strain_136 : decode cX11_strain 136 = .ok (.istore 8, 2) := by decide +kernel
theorem dX11_strain_138 : decode cX11_strain 138 = .ok (.iload 9, 2) := by decide +kernel
theorem dX11_strain_140 : decode cX11_strain 140 = .ok (.aload_n 0, 1) := by decide +kernel
theorem dX11_strain_141 : decode cX11_strain 141 = .ok (.getfield 77, 3) := by decide +kernel
theorem dX11_strain_144 : decode cX11_strain 144 = .ok (.iload 10, 2) := by decide +kernel
theorem dX11_strain_146 : decode cX11_strain 146 = .ok (.iaload, 1) := by decide +kernel
theorem dX11_strain_147 : decode cX11_strain 147 = .ok (.ifCond .le 26, 3) := by decide +kernel
theorem dX11_strain_150 : decode cX11_strain 150 = .ok (.aload_n 0, 1) := by decide +kernel
theorem dX11_strain_151 : decode cX11_strain 151 = .ok (.getfield 77, 3) := by decide +kernel
theorem dX11_strain_154 : decode cX11_strain 154 = .ok (.iload 10, 2) := by decide +kernel
theorem dX11_strain_156 : decode cX11_strain 156 = .ok (.iaload, 1) := by decide +kernel
theorem dX11_strain_157 : decode cX11_strain 157 = .ok (.aload_n 0, 1) := by decide +kernel
theorem dX11_strain_158 : decode cX11_strain 158 = .ok (.getfield 80, 3) := by decide +kernel
theorem dX11_strain_161 : decode cX11_strain 161 = .ok (.aload_n 0, 1) := by decide +kernel
theorem dX11_strain_162 : decode cX11_strain 162 = .ok (.getfield 264, 3) := by decide +kernel
theorem dX11_strain_165 : decode cX11_strain 165 = .ok (.iaload, 1) := by decide +kernel
theorem dX11_strain_166 : decode cX11_strain 166 = .ok (.if_icmp .ne 7, 3) := by decide +kernel
theorem dX11_strain_169 : decode cX11_strain 169 = .ok (.iconst 1, 1) := by decide +kernel
theorem dX11_strain_170 : decode cX11_strain 170 = .ok (.goto 4, 3) := by decide +kernel
theorem dX11_strain_173 : decode cX11_strain 173 = .ok (.iconst 0, 1) := by decide +kernel
theorem dX11_strain_174 : decode cX11_strain 174 = .ok (.iadd, 1) := by decide +kernel
theorem dX11_strain_175 : decode cX11_strain 175 = .ok (.istore 9, 2) := by decide +kernel
theorem dX11_strain_177 : decode cX11_strain 177 = .ok (.iinc 10 1, 3) := by decide +kernel
theorem dX11_strain_180 : decode cX11_strain 180 = .ok (.goto (-157), 3) := by decide +kernel
theorem dX11_strain_183 : decode cX11_strain 183 = .ok (.iload 5, 2) := by decide +kernel
theorem dX11_strain_185 : decode cX11_strain 185 = .ok (.ldc_w 271, 3) := by decide +kernel
theorem dX11_strain_188 : decode cX11_strain 188 = .ok (.if_icmp .eq 20, 3) := by decide +kernel
theorem dX11_strain_191 : decode cX11_strain 191 = .ok (.iload 5, 2) := by decide +kernel
theorem dX11_strain_193 : decode cX11_strain 193 = .ok (.bipush 12, 2) := by decide +kernel
theorem dX11_strain_195 : decode cX11_strain 195 = .ok (.irem, 1) := by decide +kernel
theorem dX11_strain_196 : decode cX11_strain 196 = .ok (.aload_n 0, 1) := by decide +kernel
theorem dX11_strain_197 : decode cX11_strain 197 = .ok (.getfield 26, 3) := by decide +kernel
theorem dX11_strain_200 : decode cX11_strain 200 = .ok (.iload_n 1, 1) := by decide +kernel
theorem dX11_strain_201 : decode cX11_strain 201 = .ok (.iaload, 1) := by decide +kernel
theorem dX11_strain_202 : decode cX11_strain 202 = .ok (.invokestatic 127, 3) := by decide +kernel
theorem dX11_strain_205 : decode cX11_strain 205 = .ok (.if_icmp .eq 7, 3) := by decide +kernel
theorem dX11_strain_208 : decode cX11_strain 208 = .ok (.ldc_w 271, 3) := by decide +kernel
theorem dX11_strain_211 : decode cX11_strain 211 = .ok (.ireturn, 1) := by decide +kernel
theorem dX11_strain_212 : decode cX11_strain 212 = .ok (.iload_n 3, 1) := by decide +kernel
theorem dX11_strain_213 : decode cX11_strain 213 = .ok (.iload 4, 2) := by decide +kernel
theorem dX11_strain_215 : decode cX11_strain 215 = .ok (.iconst (-1), 1) := by decide +kernel
theorem dX11_strain_216 : decode cX11_strain 216 = .ok (.ixor, 1) := by decide +kernel
theorem dX11_strain_217 : decode cX11_strain 217 = .ok (.iand, 1) := by decide +kernel
theorem dX11_strain_218 : decode cX11_strain 218 = .ok (.istore 10, 2) := by decide +kernel
theorem dX11_strain_220 : decode cX11_strain 220 = .ok (.iload_n 3, 1) := by decide +kernel
theorem dX11_strain_221 : decode cX11_strain 221 = .ok (.invokestatic 276, 3) := by decide +kernel
theorem dX11_strain_224 : decode cX11_strain 224 = .ok (.iconst 4, 1) := by decide +kernel
theorem dX11_strain_225 : decode cX11_strain 225 = .ok (.if_icmp .lt 27, 3) := by decide +kernel
theorem dX11_strain_228 : decode cX11_strain 228 = .ok (.iload 10, 2) := by decide +kernel
theorem dX11_strain_230 : decode cX11_strain 230 = .ok (.iconst 1, 1) := by decide +kernel
theorem dX11_strain_231 : decode cX11_strain 231 = .ok (.aload_n 0, 1) := by decide +kernel
theorem dX11_strain_232 : decode cX11_strain 232 = .ok (.getfield 20, 3) := by decide +kernel
theorem dX11_strain_235 : decode cX11_strain 235 = .ok (.iload_n 1, 1) := by decide +kernel
theorem dX11_strain_236 : decode cX11_strain 236 = .ok (.iaload, 1) := by decide +kernel
theorem dX11_strain_237 : decode cX11_strain 237 = .ok (.invokestatic 127, 3) := by decide +kernel
theorem dX11_strain_240 : decode cX11_strain 240 = .ok (.bipush 7, 2) := by decide +kernel
theorem dX11_strain_242 : decode cX11_strain 242 = .ok (.iadd, 1) := by decide +kernel
theorem dX11_strain_243 : decode cX11_strain 243 = .ok (.bipush 12, 2) := by decide +kernel
theorem dX11_strain_245 : decode cX11_strain 245 = .ok (.irem, 1) := by decide +kernel
theorem dX11_strain_246 : decode cX11_strain 246 = .ok (.ishl, 1) := by decide +kernel
theorem dX11_strain_247 : decode cX11_strain 247 = .ok (.iconst (-1), 1) := by decide +kernel
theorem dX11_strain_248 : decode cX11_strain 248 = .ok (.ixor, 1) := by decide +kernel
theorem dX11_strain_249 : decode cX11_strain 249 = .ok (.iand, 1) := by decide +kernel
theorem dX11_strain_250 : decode cX11_strain 250 = .ok (.istore 10, 2) := by decide +kernel
theorem dX11_strain_252 : decode cX11_strain 252 = .ok (.iload 10, 2) := by decide +kernel
theorem dX11_strain_254 : decode cX11_strain 254 = .ok (.ifCond .eq 7, 3) := by decide +kernel
theorem dX11_strain_257 : decode cX11_strain 257 = .ok (.ldc_w 271, 3) := by decide +kernel
theorem dX11_strain_260 : decode cX11_strain 260 = .ok (.ireturn, 1) := by decide +kernel
theorem dX11_strain_261 : decode cX11_strain 261 = .ok (.iload 7, 2) := by decide +kernel
theorem dX11_strain_263 : decode cX11_strain 263 = .ok (.ifCond .ne 18, 3) := by decide +kernel
theorem dX11_strain_266 : decode cX11_strain 266 = .ok (.iload 9, 2) := by decide +kernel
theorem dX11_strain_268 : decode cX11_strain 268 = .ok (.iconst 1, 1) := by decide +kernel
theorem dX11_strain_269 : decode cX11_strain 269 = .ok (.if_icmp .le 12, 3) := by decide +kernel
theorem dX11_strain_272 : decode cX11_strain 272 = .ok (.iload 8, 2) := by decide +kernel
theorem dX11_strain_274 : decode cX11_strain 274 = .ok (.iload 9, 2) := by decide +kernel
theorem dX11_strain_276 : decode cX11_strain 276 = .ok (.iconst 1, 1) := by decide +kernel
theorem dX11_strain_277 : decode cX11_strain 277 = .ok (.isub, 1) := by decide +kernel
theorem dX11_strain_278 : decode cX11_strain 278 = .ok (.isub, 1) := by decide +kernel
theorem dX11_strain_279 : decode cX11_strain 279 = .ok (.istore 8, 2) := by decide +kernel
theorem dX11_strain_281 : decode cX11_strain 281 = .ok (.iload 8, 2) := by decide +kernel
theorem dX11_strain_283 : decode cX11_strain 283 = .ok (.iconst 4, 1) := by decide +kernel
theorem dX11_strain_284 : decode cX11_strain 284 = .ok (.if_icmp .le 9, 3) := by decide +kernel
theorem dX11_strain_287 : decode cX11_strain 287 = .ok (.ldc_w 271, 3) := by decide +kernel
theorem dX11_strain_290 : decode cX11_strain 290 = .ok (.goto 22, 3) := by decide +kernel
theorem dX11_strain_293 : decode cX11_strain 293 = .ok (.iconst 3, 1) := by decide +kernel
theorem dX11_strain_294 : decode cX11_strain 294 = .ok (.iload 8, 2) := by decide +kernel
theorem dX11_strain_296 : decode cX11_strain 296 = .ok (.imul, 1) := by decide +kernel
theorem dX11_strain_297 : decode cX11_strain 297 = .ok (.aload_n 0, 1) := by decide +kernel
theorem dX11_strain_298 : decode cX11_strain 298 = .ok (.getfield 83, 3) := by decide +kernel
theorem dX11_strain_301 : decode cX11_strain 301 = .ok (.aload_n 0, 1) := by decide +kernel
theorem dX11_strain_302 : decode cX11_strain 302 = .ok (.getfield 264, 3) := by decide +kernel
theorem dX11_strain_305 : decode cX11_strain 305 = .ok (.iaload, 1) := by decide +kernel
theorem dX11_strain_306 : decode cX11_strain 306 = .ok (.iadd, 1) := by decide +kernel
theorem dX11_strain_307 : decode cX11_strain 307 = .ok (.iconst 4, 1) := by decide +kernel
theorem dX11_strain_308 : decode cX11_strain 308 = .ok (.iload 6, 2) := by decide +kernel
theorem dX11_strain_310 : decode cX11_strain 310 = .ok (.imul, 1) := by decide +kernel
theorem dX11_strain_311 : decode cX11_strain 311 = .ok (.iadd, 1) := by decide +kernel
theorem dX11_strain_312 : decode cX11_strain 312 = .ok (.ireturn, 1) := by decide +kernel
theorem dX11_comes_0 : decode cX11_comes 0 = .ok (.aload_n 0, 1) := by decide +kernel
theorem dX11_comes_1 : decode cX11_comes 1 = .ok (.getfield 68, 3) := by decide +kernel
theorem dX11_comes_4 : decode cX11_comes 4 = .ok (.iload_n 1, 1) := by decide +kernel
theorem dX11_comes_5 : decode cX11_comes 5 = .ok (.iaload, 1) := by decide +kernel
theorem dX11_comes_6 : decode cX11_comes 6 = .ok (.istore_n 3, 1) := by decide +kernel
theorem dX11_comes_7 : decode cX11_comes 7 = .ok (.iload_n 3, 1) := by decide +kernel
theorem dX11_comes_8 : decode cX11_comes 8 = .ok (.ifCond .le 26, 3) := by decide +kernel
theorem dX11_comes_11 : decode cX11_comes 11 = .ok (.aload_n 0, 1) := by decide +kernel
theorem dX11_comes_12 : decode cX11_comes 12 = .ok (.getfield 74, 3) := by decide +kernel
theorem dX11_comes_15 : decode cX11_comes 15 = .ok (.bipush 6, 2) := by decide +kernel
theorem dX11_comes_17 : decode cX11_comes 17 = .ok (.iload_n 1, 1) := by decide +kernel
theorem dX11_comes_18 : decode cX11_comes 18 = .ok (.imul, 1) := by decide +kernel
theorem dX11_comes_19 : decode cX11_comes 19 = .ok (.iload_n 3, 1) := by decide +kernel
theorem dX11_comes_20 : decode cX11_comes 20 = .ok (.iadd, 1) := by decide +kernel
theorem dX11_comes_21 : decode cX11_comes 21 = .ok (.iconst 1, 1) := by decide +kernel
theorem dX11_comes_22 : decode cX11_comes 22 = .ok (.isub, 1) := by decide +kernel
theorem dX11_comes_23 : decode cX11_comes 23 = .ok (.iaload, 1) := by decide +kernel
theorem dX11_comes_24 : decode cX11_comes 24 = .ok (.iload_n 2, 1) := by decide +kernel
theorem dX11_comes_25 : decode cX11_comes 25 = .ok (.if_icmp .le 9, 3) := by decide +kernel
theorem dX11_comes_28 : decode cX11_comes 28 = .ok (.iinc 3 (-1), 3) := by decide +kernel
theorem dX11_comes_31 : decode cX11_comes 31 = .ok (.goto (-24), 3) := by decide +kernel
theorem dX11_comes_34 : decode cX11_comes 34 = .ok (.iload_n 3, 1) := by decide +kernel
theorem dX11_comes_35 : decode cX11_comes 35 = .ok (.bipush 6, 2) := by decide +kernel
theorem dX11_comes_37 : decode cX11_comes 37 = .ok (.if_icmp .ne 4, 3) := by decide +kernel
theorem dX11_comes_40 : decode cX11_comes 40 = .ok (.return_, 1) := by decide +kernel
theorem dX11_comes_41 : decode cX11_comes 41 = .ok (.aload_n 0, 1) := by decide +kernel
theorem dX11_comes_42 : decode cX11_comes 42 = .ok (.getfield 68, 3) := by decide +kernel
theorem dX11_comes_45 : decode cX11_comes 45 = .ok (.iload_n 1, 1) := by decide +kernel
theorem dX11_comes_46 : decode cX11_comes 46 = .ok (.iaload, 1) := by decide +kernel
theorem dX11_comes_47 : decode cX11_comes 47 = .ok (.bipush 6, 2) := by decide +kernel
theorem dX11_comes_49 : decode cX11_comes 49 = .ok (.if_icmp .ge 13, 3) := by decide +kernel
theorem dX11_comes_52 : decode cX11_comes 52 = .ok (.aload_n 0, 1) := by decide +kernel
theorem dX11_comes_53 : decode cX11_comes 53 = .ok (.getfield 68, 3) := by decide +kernel
theorem dX11_comes_56 : decode cX11_comes 56 = .ok (.iload_n 1, 1) := by decide +kernel
theorem dX11_comes_57 : decode cX11_comes 57 = .ok (.dup2, 1) := by decide +kernel
theorem dX11_comes_58 : decode cX11_comes 58 = .ok (.iaload, 1) := by decide +kernel
theorem dX11_comes_59 : decode cX11_comes 59 = .ok (.iconst 1, 1) := by decide +kernel
theorem dX11_comes_60 : decode cX11_comes 60 = .ok (.iadd, 1) := by decide +kernel
theorem dX11_comes_61 : decode cX11_comes 61 = .ok (.iastore, 1) := by decide +kernel
theorem dX11_comes_62 : decode cX11_comes 62 = .ok (.aload_n 0, 1) := by decide +kernel
theorem dX11_comes_63 : decode cX11_comes 63 = .ok (.getfield 68, 3) := by decide +kernel
theorem dX11_comes_66 : decode cX11_comes 66 = .ok (.iload_n 1, 1) := by decide +kernel
theorem dX11_comes_67 : decode cX11_comes 67 = .ok (.iaload, 1) := by decide +kernel
theorem dX11_comes_68 : decode cX11_comes 68 = .ok (.iconst 1, 1) := by decide +kernel
theorem dX11_comes_69 : decode cX11_comes 69 = .ok (.isub, 1) := by decide +kernel
theorem dX11_comes_70 : decode cX11_comes 70 = .ok (.istore 4, 2) := by decide +kernel
theorem dX11_comes_72 : decode cX11_comes 72 = .ok (.iload 4, 2) := by decide +kernel
theorem dX11_comes_74 : decode cX11_comes 74 = .ok (.iload_n 3, 1) := by decide +kernel
theorem dX11_comes_75 : decode cX11_comes 75 = .ok (.if_icmp .le 90, 3) := by decide +kernel
theorem dX11_comes_78 : decode cX11_comes 78 = .ok (.aload_n 0, 1) := by decide +kernel
theorem dX11_comes_79 : decode cX11_comes 79 = .ok (.getfield 74, 3) := by decide +kernel
theorem dX11_comes_82 : decode cX11_comes 82 = .ok (.bipush 6, 2) := by decide +kernel
theorem dX11_comes_84 : decode cX11_comes 84 = .ok (.iload_n 1, 1) := by decide +kernel
theorem dX11_comes_85 : decode cX11_comes 85 = .ok (.imul, 1) := by decide +kernel
theorem dX11_comes_86 : decode cX11_comes 86 = .ok (.iload 4, 2) := by decide +kernel
theorem dX11_comes_88 : decode cX11_comes 88 = .ok (.iadd, 1) := by decide +kernel
theorem dX11_comes_89 : decode cX11_comes 89 = .ok (.aload_n 0, 1) := by decide +kernel
theorem dX11_comes_90 : decode cX11_comes 90 = .ok (.getfield 74, 3) := by decide +kernel
theorem dX11_comes_93 : decode cX11_comes 93 = .ok (.bipush 6, 2) := by decide +kernel
theorem dX11_comes_95 : decode cX11_comes 95 = .ok (.iload_n 1, 1) := by decide +kernel
theorem dX11_comes_96 : decode cX11_comes 96 = .ok (.imul, 1) := by decide +kernel
theorem dX11_comes_97 : decode cX11_comes 97 = .ok (.iload 4, 2) := by decide +kernel
theorem dX11_comes_99 : decode cX11_comes 99 = .ok (.iadd, 1) := by decide +kernel
theorem dX11_comes_100 : decode cX11_comes 100 = .ok (.iconst 1, 1) := by decide +kernel
theorem dX11_comes_101 : decode cX11_comes 101 = .ok (.isub, 1) := by decide +kernel
theorem dX11_comes_102 : decode cX11_comes 102 = .ok (.iaload, 1) := by decide +kernel
theorem dX11_comes_103 : decode cX11_comes 103 = .ok (.iastore, 1) := by decide +kernel
theorem dX11_comes_104 : decode cX11_comes 104 = .ok (.iconst 0, 1) := by decide +kernel
theorem dX11_comes_105 : decode cX11_comes 105 = .ok (.istore 5, 2) := by decide +kernel
theorem dX11_comes_107 : decode cX11_comes 107 = .ok (.iload 5, 2) := by decide +kernel
theorem dX11_comes_109 : decode cX11_comes 109 = .ok (.bipush 6, 2) := by decide +kernel
theorem dX11_comes_111 : decode cX11_comes 111 = .ok (.if_icmp .ge 48, 3) := by decide +kernel
theorem dX11_comes_114 : decode cX11_comes 114 = .ok (.aload_n 0, 1) := by decide +kernel
theorem dX11_comes_115 : decode cX11_comes 115 = .ok (.getfield 71, 3) := by decide +kernel
theorem dX11_comes_118 : decode cX11_comes 118 = .ok (.bipush 36, 2) := by decide +kernel
theorem dX11_comes_120 : decode cX11_comes 120 = .ok (.iload_n 1, 1) := by decide +kernel
theorem dX11_comes_121 : decode cX11_comes 121 = .ok (.imul, 1) := by decide +kernel
theorem dX11_comes_122 : decode cX11_comes 122 = .ok (.bipush 6, 2) := by decide +kernel
theorem dX11_comes_124 : decode cX11_comes 124 = .ok (.iload 4, 2) := by decide +kernel
theorem dX11_comes_126 : decode cX11_comes 126 = .ok (.imul, 1) := by decide +kernel
theorem dX11_comes_127 : decode cX11_comes 127 = .ok (.iadd, 1) := by decide +kernel
theorem dX11_comes_128 : decode cX11_comes 128 = .ok (.iload 5, 2) := by decide +kernel
theorem dX11_comes_130 : decode cX11_comes 130 = .ok (.iadd, 1) := by decide +kernel
theorem dX11_comes_131 : decode cX11_comes 131 = .ok (.aload_n 0, 1) := by decide +kernel
theorem dX11_comes_132 : decode cX11_comes 132 = .ok (.getfield 71, 3) := by decide +kernel
theorem dX11_comes_135 : decode cX11_comes 135 = .ok (.bipush 36, 2) := by decide +kernel
theorem dX11_comes_137 : decode cX11_comes 137 = .ok (.iload_n 1, 1) := by decide +kernel
theorem dX11_comes_138 : decode cX11_comes 138 = .ok (.imul, 1) := by decide +kernel
theorem dX11_comes_139 : decode cX11_comes 139 = .ok (.bipush 6, 2) := by decide +kernel
theorem dX11_comes_141 : decode cX11_comes 141 = .ok (.iload 4, 2) := by decide +kernel
theorem dX11_comes_143 : decode cX11_comes 143 = .ok (.imul, 1) := by decide +kernel
theorem dX11_comes_144 : decode cX11_comes 144 = .ok (.iadd, 1) := by decide +kernel
theorem dX11_comes_145 : decode cX11_comes 145 = .ok (.bipush 6, 2) := by decide +kernel
theorem dX11_comes_147 : decode cX11_comes 147 = .ok (.isub, 1) := by decide +kernel
theorem dX11_comes_148 : decode cX11_comes 148 = .ok (.iload 5, 2) := by decide +kernel
theorem dX11_comes_150 : decode cX11_comes 150 = .ok (.iadd, 1) := by decide +kernel
theorem dX11_comes_151 : decode cX11_comes 151 = .ok (.iaload, 1) := by decide +kernel
theorem dX11_comes_152 : decode cX11_comes 152 = .ok (.iastore, 1) := by decide +kernel
theorem dX11_comes_153 : decode cX11_comes 153 = .ok (.iinc 5 1, 3) := by decide +kernel
theorem dX11_comes_156 : decode cX11_comes 156 = .ok (.goto (-49), 3) := by decide +kernel
theorem dX11_comes_159 : decode cX11_comes 159 = .ok (.iinc 4 (-1), 3) := by decide +kernel
theorem dX11_comes_162 : decode cX11_comes 162 = .ok (.goto (-90), 3) := by decide +kernel
theorem dX11_comes_165 : decode cX11_comes 165 = .ok (.aload_n 0, 1) := by decide +kernel
theorem dX11_comes_166 : decode cX11_comes 166 = .ok (.getfield 74, 3) := by decide +kernel
theorem dX11_comes_169 : decode cX11_comes 169 = .ok (.bipush 6, 2) := by decide +kernel
theorem dX11_comes_171 : decode cX11_comes 171 = .ok (.iload_n 1, 1) := by decide +kernel
theorem dX11_comes_172 : decode cX11_comes 172 = .ok (.imul, 1) := by decide +kernel
theorem dX11_comes_173 : decode cX11_comes 173 = .ok (.iload_n 3, 1) := by decide +kernel
theorem dX11_comes_174 : decode cX11_comes 174 = .ok (.iadd, 1) := by decide +kernel
theorem dX11_comes_175 : decode cX11_comes 175 = .ok (.iload_n 2, 1) := by decide +kernel
theorem dX11_comes_176 : decode cX11_comes 176 = .ok (.iastore, 1) := by decide +kernel
theorem dX11_comes_177 : decode cX11_comes 177 = .ok (.iconst 0, 1) := by decide +kernel
theorem dX11_comes_178 : decode cX11_comes 178 = .ok (.istore 4, 2) := by decide +kernel
theorem dX11_comes_180 : decode cX11_comes 180 = .ok (.iload 4, 2) := by decide +kernel
theorem dX11_comes_182 : decode cX11_comes 182 = .ok (.aload_n 0, 1) := by decide +kernel
theorem dX11_comes_183 : decode cX11_comes 183 = .ok (.getfield 264, 3) := by decide +kernel
theorem dX11_comes_186 : decode cX11_comes 186 = .ok (.if_icmp .ge 33, 3) := by decide +kernel
theorem dX11_comes_189 : decode cX11_comes 189 = .ok (.aload_n 0, 1) := by decide +kernel
theorem dX11_comes_190 : decode cX11_comes 190 = .ok (.getfield 71, 3) := by decide +kernel
theorem dX11_comes_193 : decode cX11_comes 193 = .ok (.bipush 36, 2) := by decide +kernel
theorem dX11_comes_195 : decode cX11_comes 195 = .ok (.iload_n 1, 1) := by decide +kernel
theorem dX11_comes_196 : decode cX11_comes 196 = .ok (.imul, 1) := by decide +kernel
theorem dX11_comes_197 : decode cX11_comes 197 = .ok (.bipush 6, 2) := by decide +kernel
theorem dX11_comes_199 : decode cX11_comes 199 = .ok (.iload_n 3, 1) := by decide +kernel
theorem dX11_comes_200 : decode cX11_comes 200 = .ok (.imul, 1) := by decide +kernel
theorem dX11_comes_201 : decode cX11_comes 201 = .ok (.iadd, 1) := by decide +kernel
theorem dX11_comes_202 : decode cX11_comes 202 = .ok (.iload 4, 2) := by decide +kernel
theorem dX11_comes_204 : decode cX11_comes 204 = .ok (.iadd, 1) := by decide +kernel
theorem dX11_comes_205 : decode cX11_comes 205 = .ok (.aload_n 0, 1) := by decide +kernel
theorem dX11_comes_206 : decode cX11_comes 206 = .ok (.getfield 77, 3) := by decide +kernel
theorem dX11_comes_209 : decode cX11_comes 209 = .ok (.iload 4, 2) := by decide +kernel
theorem dX11_comes_211 : decode cX11_comes 211 = .ok (.iaload, 1) := by decide +kernel
theorem dX11_comes_212 : decode cX11_comes 212 = .ok (.iastore, 1) := by decide +kernel
theorem dX11_comes_213 : decode cX11_comes 213 = .ok (.iinc 4 1, 3) := by decide +kernel
theorem dX11_comes_216 : decode cX11_comes 216 = .ok (.goto (-36), 3) := by decide +kernel
theorem dX11_comes_219 : decode cX11_comes 219 = .ok (.return_, 1) := by decide +kernel
theorem dX11_isBar_0 : decode cX11_isBar 0 = .ok (.iload_n 0, 1) := by decide +kernel
theorem dX11_isBar_1 : decode cX11_isBar 1 = .ok (.ifCond .lt 13, 3) := by decide +kernel
theorem dX11_isBar_4 : decode cX11_isBar 4 = .ok (.iload_n 0, 1) := by decide +kernel
theorem dX11_isBar_5 : decode cX11_isBar 5 = .ok (.bipush 7, 2) := by decide +kernel
theorem dX11_isBar_7 : decode cX11_isBar 7 = .ok (.if_icmp .gt 7, 3) := by decide +kernel
theorem dX11_isBar_10 : decode cX11_isBar 10 = .ok (.iconst 1, 1) := by decide +kernel
theorem dX11_isBar_11 : decode cX11_isBar 11 = .ok (.goto 4, 3) := by decide +kernel
theorem dX11_isBar_14 : decode cX11_isBar 14 = .ok (.iconst 0, 1) := by decide +kernel
theorem dX11_isBar_15 : decode cX11_isBar 15 = .ok (.ireturn, 1) := by decide +kernel
theorem dX11_hands_0 : decode cX11_hands 0 = .ok (.aload_n 0, 1) := by decide +kernel
theorem dX11_hands_1 : decode cX11_hands 1 = .ok (.iload_n 1, 1) := by decide +kernel
theorem dX11_hands_2 : decode cX11_hands 2 = .ok (.invokevirtual 219, 3) := by decide +kernel
theorem dX11_hands_5 : decode cX11_hands 5 = .ok (.ifCond .eq 24, 3) := by decide +kernel
theorem dX11_hands_8 : decode cX11_hands 8 = .ok (.aload_n 0, 1) := by decide +kernel
theorem dX11_hands_9 : decode cX11_hands 9 = .ok (.iload_n 2, 1) := by decide +kernel
theorem dX11_hands_10 : decode cX11_hands 10 = .ok (.invokestatic 279, 3) := by decide +kernel
theorem dX11_hands_13 : decode cX11_hands 13 = .ok (.iconst 2, 1) := by decide +kernel
theorem dX11_hands_14 : decode cX11_hands 14 = .ok (.invokevirtual 190, 3) := by decide +kernel
theorem dX11_hands_17 : decode cX11_hands 17 = .ok (.ifCond .eq 12, 3) := by decide +kernel
theorem dX11_hands_20 : decode cX11_hands 20 = .ok (.aload_n 0, 1) := by decide +kernel
theorem dX11_hands_21 : decode cX11_hands 21 = .ok (.iload_n 1, 1) := by decide +kernel
theorem dX11_hands_22 : decode cX11_hands 22 = .ok (.iload_n 2, 1) := by decide +kernel
theorem dX11_hands_23 : decode cX11_hands 23 = .ok (.invokevirtual 282, 3) := by decide +kernel
theorem dX11_hands_26 : decode cX11_hands 26 = .ok (.goto 4, 3) := by decide +kernel
theorem dX11_hands_29 : decode cX11_hands 29 = .ok (.iconst 0, 1) := by decide +kernel
theorem dX11_hands_30 : decode cX11_hands 30 = .ok (.ireturn, 1) := by decide +kernel
theorem dX11_fret_0 : decode cX11_fret 0 = .ok (.aload_n 0, 1) := by decide +kernel
theorem dX11_fret_1 : decode cX11_fret 1 = .ok (.iload_n 1, 1) := by decide +kernel
theorem dX11_fret_2 : decode cX11_fret 2 = .ok (.invokevirtual 219, 3) := by decide +kernel
theorem dX11_fret_5 : decode cX11_fret 5 = .ok (.ifCond .eq 15, 3) := by decide +kernel
theorem dX11_fret_8 : decode cX11_fret 8 = .ok (.aload_n 0, 1) := by decide +kernel
theorem dX11_fret_9 : decode cX11_fret 9 = .ok (.iload_n 2, 1) := by decide +kernel
theorem dX11_fret_10 : decode cX11_fret 10 = .ok (.invokestatic 279, 3) := by decide +kernel
theorem dX11_fret_13 : decode cX11_fret 13 = .ok (.iconst 2, 1) := by decide +kernel
theorem dX11_fret_14 : decode cX11_fret 14 = .ok (.invokevirtual 190, 3) := by decide +kernel
theorem dX11_fret_17 : decode cX11_fret 17 = .ok (.ifCond .ne 5, 3) := by decide +kernel
theorem dX11_fret_20 : decode cX11_fret 20 = .ok (.iconst 0, 1) := by decide +kernel
theorem dX11_fret_21 : decode cX11_fret 21 = .ok (.ireturn, 1) := by decide +kernel
theorem dX11_fret_22 : decode cX11_fret 22 = .ok (.aload_n 0, 1) := by decide +kernel
theorem dX11_fret_23 : decode cX11_fret 23 = .ok (.iload_n 1, 1) := by decide +kernel
theorem dX11_fret_24 : decode cX11_fret 24 = .ok (.iload_n 2, 1) := by decide +kernel
theorem dX11_fret_25 : decode cX11_fret 25 = .ok (.invokevirtual 282, 3) := by decide +kernel
theorem dX11_fret_28 : decode cX11_fret 28 = .ok (.istore 5, 2) := by decide +kernel
theorem dX11_fret_30 : decode cX11_fret 30 = .ok (.aload_n 0, 1) := by decide +kernel
theorem dX11_fret_31 : decode cX11_fret 31 = .ok (.iload_n 3, 1) := by decide +kernel
theorem dX11_fret_32 : decode cX11_fret 32 = .ok (.ifCond .lt 28, 3) := by decide +kernel
theorem dX11_fret_35 : decode cX11_fret 35 = .ok (.iload_n 3, 1) := by decide +kernel
theorem dX11_fret_36 : decode cX11_fret 36 = .ok (.iload 5, 2) := by decide +kernel
theorem dX11_fret_38 : decode cX11_fret 38 = .ok (.if_icmp .ge 22, 3) := by decide +kernel
theorem dX11_fret_41 : decode cX11_fret 41 = .ok (.iload 4, 2) := by decide +kernel
theorem dX11_fret_43 : decode cX11_fret 43 = .ok (.iconst (-1), 1) := by decide +kernel
theorem dX11_fret_44 : decode cX11_fret 44 = .ok (.if_icmp .lt 16, 3) := by decide +kernel
theorem dX11_fret_47 : decode cX11_fret 47 = .ok (.iload 4, 2) := by decide +kernel
theorem dX11_fret_49 : decode cX11_fret 49 = .ok (.aload_n 0, 1) := by decide +kernel
theorem dX11_fret_50 : decode cX11_fret 50 = .ok (.getfield 264, 3) := by decide +kernel
theorem dX11_fret_53 : decode cX11_fret 53 = .ok (.if_icmp .ge 7, 3) := by decide +kernel
theorem dX11_fret_56 : decode cX11_fret 56 = .ok (.iconst 1, 1) := by decide +kernel
theorem dX11_fret_57 : decode cX11_fret 57 = .ok (.goto 4, 3) := by decide +kernel
theorem dX11_fret_60 : decode cX11_fret 60 = .ok (.iconst 0, 1) := by decide +kernel
theorem dX11_fret_61 : decode cX11_fret 61 = .ok (.iconst 1, 1) := by decide +kernel
theorem dX11_fret_62 : decode cX11_fret 62 = .ok (.invokevirtual 190, 3) := by decide +kernel
theorem dX11_fret_65 : decode cX11_fret 65 = .ok (.ifCond .ne 5, 3) := by decide +kernel
theorem dX11_fret_68 : decode cX11_fret 68 = .ok (.iconst 0, 1) := by decide +kernel
theorem dX11_fret_69 : decode cX11_fret 69 = .ok (.ireturn, 1) := by decide +kernel
theorem dX11_fret_70 : decode cX11_fret 70 = .ok (.bipush 8, 2) := by decide +kernel
theorem dX11_fret_72 : decode cX11_fret 72 = .ok (.iload_n 1, 1) := by decide +kernel
theorem dX11_fret_73 : decode cX11_fret 73 = .ok (.imul, 1) := by decide +kernel
theorem dX11_fret_74 : decode cX11_fret 74 = .ok (.iload_n 2, 1) := by decide +kernel
theorem dX11_fret_75 : decode cX11_fret 75 = .ok (.iadd, 1) := by decide +kernel
theorem dX11_fret_76 : decode cX11_fret 76 = .ok (.istore 6, 2) := by decide +kernel
theorem dX11_fret_78 : decode cX11_fret 78 = .ok (.iload 4, 2) := by decide +kernel
theorem dX11_fret_80 : decode cX11_fret 80 = .ok (.iconst (-1), 1) := by decide +kernel
theorem dX11_fret_81 : decode cX11_fret 81 = .ok (.if_icmp .ne 18, 3) := by decide +kernel
theorem dX11_fret_84 : decode cX11_fret 84 = .ok (.aload_n 0, 1) := by decide +kernel
theorem dX11_fret_85 : decode cX11_fret 85 = .ok (.getfield 74, 3) := by decide +kernel
theorem dX11_fret_88 : decode cX11_fret 88 = .ok (.bipush 6, 2) := by decide +kernel
theorem dX11_fret_90 : decode cX11_fret 90 = .ok (.iload 6, 2) := by decide +kernel
theorem dX11_fret_92 : decode cX11_fret 92 = .ok (.imul, 1) := by decide +kernel
theorem dX11_fret_93 : decode cX11_fret 93 = .ok (.iload_n 3, 1) := by decide +kernel
theorem dX11_fret_94 : decode cX11_fret 94 = .ok (.iadd, 1) := by decide +kernel
theorem dX11_fret_95 : decode cX11_fret 95 = .ok (.iaload, 1) := by decide +kernel
theorem dX11_fret_96 : decode cX11_fret 96 = .ok (.goto 21, 3) := by decide +kernel
theorem dX11_fret_99 : decode cX11_fret 99 = .ok (.aload_n 0, 1) := by decide +kernel
theorem dX11_fret_100 : decode cX11_fret 100 = .ok (.getfield 71, 3) := by decide +kernel
theorem dX11_fret_103 : decode cX11_fret 103 = .ok (.bipush 36, 2) := by decide +kernel
theorem dX11_fret_105 : decode cX11_fret 105 = .ok (.iload 6, 2) := by decide +kernel
theorem dX11_fret_107 : decode cX11_fret 107 = .ok (.imul, 1) := by decide +kernel
theorem dX11_fret_108 : decode cX11_fret 108 = .ok (.bipush 6, 2) := by decide +kernel
theorem dX11_fret_110 : decode cX11_fret 110 = .ok (.iload_n 3, 1) := by decide +kernel
theorem dX11_fret_111 : decode cX11_fret 111 = .ok (.imul, 1) := by decide +kernel
theorem dX11_fret_112 : decode cX11_fret 112 = .ok (.iadd, 1) := by decide +kernel
theorem dX11_fret_113 : decode cX11_fret 113 = .ok (.iload 4, 2) := by decide +kernel
theorem dX11_fret_115 : decode cX11_fret 115 = .ok (.iadd, 1) := by decide +kernel
theorem dX11_fret_116 : decode cX11_fret 116 = .ok (.iaload, 1) := by decide +kernel
theorem dX11_fret_117 : decode cX11_fret 117 = .ok (.ireturn, 1) := by decide +kernel
theorem dX11_change_0 : decode cX11_change 0 = .ok (.iconst 0, 1) := by decide +kernel
theorem dX11_change_1 : decode cX11_change 1 = .ok (.istore 6, 2) := by decide +kernel
theorem dX11_change_3 : decode cX11_change 3 = .ok (.iconst 0, 1) := by decide +kernel
theorem dX11_change_4 : decode cX11_change 4 = .ok (.istore 7, 2) := by decide +kernel
theorem dX11_change_6 : decode cX11_change 6 = .ok (.iload 7, 2) := by decide +kernel
theorem dX11_change_8 : decode cX11_change 8 = .ok (.aload_n 0, 1) := by decide +kernel
theorem dX11_change_9 : decode cX11_change 9 = .ok (.getfield 264, 3) := by decide +kernel
theorem dX11_change_12 : decode cX11_change 12 = .ok (.if_icmp .ge 111, 3) := by decide +kernel
theorem dX11_change_15 : decode cX11_change 15 = .ok (.aload_n 0, 1) := by decide +kernel
theorem dX11_change_16 : decode cX11_change 16 = .ok (.getfield 71, 3) := by decide +kernel
theorem dX11_change_19 : decode cX11_change 19 = .ok (.bipush 36, 2) := by decide +kernel
theorem dX11_change_21 : decode cX11_change 21 = .ok (.bipush 8, 2) := by decide +kernel
theorem dX11_change_23 : decode cX11_change 23 = .ok (.iload_n 1, 1) := by decide +kernel
theorem dX11_change_24 : decode cX11_change 24 = .ok (.imul, 1) := by decide +kernel
theorem dX11_change_25 : decode cX11_change 25 = .ok (.iload 5, 2) := by decide +kernel
theorem dX11_change_27 : decode cX11_change 27 = .ok (.iadd, 1) := by decide +kernel
theorem dX11_change_28 : decode cX11_change 28 = .ok (.imul, 1) := by decide +kernel
theorem dX11_change_29 : decode cX11_change 29 = .ok (.bipush 6, 2) := by decide +kernel
theorem dX11_change_31 : decode cX11_change 31 = .ok (.iload_n 2, 1) := by decide +kernel
theorem dX11_change_32 : decode cX11_change 32 = .ok (.imul, 1) := by decide +kernel
theorem dX11_change_33 : decode cX11_change 33 = .ok (.iadd, 1) := by decide +kernel
theorem dX11_change_34 : decode cX11_change 34 = .ok (.iload 7, 2) := by decide +kernel
theorem dX11_change_36 : decode cX11_change 36 = .ok (.iadd, 1) := by decide +kernel
theorem dX11_change_37 : decode cX11_change 37 = .ok (.iaload, 1) := by decide +kernel
theorem dX11_change_38 : decode cX11_change 38 = .ok (.istore 8, 2) := by decide +kernel
theorem dX11_change_40 : decode cX11_change 40 = .ok (.aload_n 0, 1) := by decide +kernel
theorem dX11_change_41 : decode cX11_change 41 = .ok (.getfield 71, 3) := by decide +kernel
theorem dX11_change_44 : decode cX11_change 44 = .ok (.bipush 36, 2) := by decide +kernel
theorem dX11_change_46 : decode cX11_change 46 = .ok (.bipush 8, 2) := by decide +kernel
theorem dX11_change_48 : decode cX11_change 48 = .ok (.iload_n 3, 1) := by decide +kernel
theorem dX11_change_49 : decode cX11_change 49 = .ok (.imul, 1) := by decide +kernel
theorem dX11_change_50 : decode cX11_change 50 = .ok (.iload 5, 2) := by decide +kernel
theorem dX11_change_52 : decode cX11_change 52 = .ok (.iadd, 1) := by decide +kernel
theorem dX11_change_53 : decode cX11_change 53 = .ok (.imul, 1) := by decide +kernel
theorem dX11_change_54 : decode cX11_change 54 = .ok (.bipush 6, 2) := by decide +kernel
theorem dX11_change_56 : decode cX11_change 56 = .ok (.iload 4, 2) := by decide +kernel
theorem dX11_change_58 : decode cX11_change 58 = .ok (.imul, 1) := by decide +kernel
theorem dX11_change_59 : decode cX11_change 59 = .ok (.iadd, 1) := by decide +kernel
theorem dX11_change_60 : decode cX11_change 60 = .ok (.iload 7, 2) := by decide +kernel
theorem dX11_change_62 : decode cX11_change 62 = .ok (.iadd, 1) := by decide +kernel
theorem dX11_change_63 : decode cX11_change 63 = .ok (.iaload, 1) := by decide +kernel
theorem dX11_change_64 : decode cX11_change 64 = .ok (.istore 9, 2) := by decide +kernel
theorem dX11_change_66 : decode cX11_change 66 = .ok (.iload 8, 2) := by decide +kernel
theorem dX11_change_68 : decode cX11_change 68 = .ok (.ifCond .ge 7, 3) := by decide +kernel
theorem dX11_change_71 : decode cX11_change 71 = .ok (.iconst 0, 1) := by decide +kernel
theorem dX11_change_72 : decode cX11_change 72 = .ok (.goto 5, 3) := by decide +kernel
theorem dX11_change_75 : decode cX11_change 75 = .ok (.iload 8, 2) := by decide +kernel
theorem dX11_change_77 : decode cX11_change 77 = .ok (.istore 8, 2) := by decide +kernel
theorem dX11_change_79 : decode cX11_change 79 = .ok (.iload 9, 2) := by decide +kernel
theorem dX11_change_81 : decode cX11_change 81 = .ok (.ifCond .ge 7, 3) := by decide +kernel
theorem dX11_change_84 : decode cX11_change 84 = .ok (.iconst 0, 1) := by decide +kernel
theorem dX11_change_85 : decode cX11_change 85 = .ok (.goto 5, 3) := by decide +kernel
theorem dX11_change_88 : decode cX11_change 88 = .ok (.iload 9, 2) := by decide +kernel
theorem dX11_change_90 : decode cX11_change 90 = .ok (.istore 9, 2) := by decide +kernel
theorem dX11_change_92 : decode cX11_change 92 = .ok (.iload 6, 2) := by decide +kernel
theorem dX11_change_94 : decode cX11_change 94 = .ok (.iload 8, 2) := by decide +kernel
theorem dX11_change_96 : decode cX11_change 96 = .ok (.iload 9, 2) := by decide +kernel
theorem dX11_change_98 : decode cX11_change 98 = .ok (.if_icmp .ge 11, 3) := by decide +kernel
theorem dX11_change_101 : decode cX11_change 101 = .ok (.iload 9, 2) := by decide +kernel
theorem dX11_change_103 : decode cX11_change 103 = .ok (.iload 8, 2) := by decide +kernel
theorem dX11_change_105 : decode cX11_change 105 = .ok (.isub, 1) := by decide +kernel
theorem dX11_change_106 : decode cX11_change 106 = .ok (.goto 8, 3) := by decide +kernel
theorem dX11_change_109 : decode cX11_change 109 = .ok (.iload 8, 2) := by decide +kernel
theorem dX11_change_111 : decode cX11_change 111 = .ok (.iload 9, 2) := by decide +kernel
theorem dX11_change_113 : decode cX11_change 113 = .ok (.isub, 1) := by decide +kernel
theorem dX11_change_114 : decode cX11_change 114 = .ok (.iadd, 1) := by decide +kernel
theorem dX11_change_115 : decode cX11_change 115 = .ok (.istore 6, 2) := by decide +kernel
theorem dX11_change_117 : decode cX11_change 117 = .ok (.iinc 7 1, 3) := by decide +kernel
theorem dX11_change_120 : decode cX11_change 120 = .ok (.goto (-114), 3) := by decide +kernel
theorem dX11_change_123 : decode cX11_change 123 = .ok (.iload 6, 2) := by decide +kernel
theorem dX11_change_125 : decode cX11_change 125 = .ok (.ireturn, 1) := by decide +kernel
theorem dX11_sum_0 : decode cX11_sum 0 = .ok (.aload_n 0, 1) := by decide +kernel
theorem dX11_sum_1 : decode cX11_sum 1 = .ok (.getfield 197, 3) := by decide +kernel
theorem dX11_sum_4 : decode cX11_sum 4 = .ok (.ifCond .le 7, 3) := by decide +kernel
theorem dX11_sum_7 : decode cX11_sum 7 = .ok (.iconst 1, 1) := by decide +kernel
theorem dX11_sum_8 : decode cX11_sum 8 = .ok (.goto 4, 3) := by decide +kernel
theorem dX11_sum_11 : decode cX11_sum 11 = .ok (.iconst 0, 1) := by decide +kernel
theorem dX11_sum_12 : decode cX11_sum 12 = .ok (.istore_n 2, 1) := by decide +kernel
theorem dX11_sum_13 : decode cX11_sum 13 = .ok (.iconst 0, 1) := by decide +kernel
theorem dX11_sum_14 : decode cX11_sum 14 = .ok (.istore_n 3, 1) := by decide +kernel
theorem dX11_sum_15 : decode cX11_sum 15 = .ok (.iload_n 3, 1) := by decide +kernel
theorem dX11_sum_16 : decode cX11_sum 16 = .ok (.aload_n 0, 1) := by decide +kernel
theorem dX11_sum_17 : decode cX11_sum 17 = .ok (.getfield 197, 3) := by decide +kernel
theorem dX11_sum_20 : decode cX11_sum 20 = .ok (.if_icmp .ge 28, 3) := by decide +kernel
theorem dX11_sum_23 : decode cX11_sum 23 = .ok (.iload_n 2, 1) := by decide +kernel
theorem dX11_sum_24 : decode cX11_sum 24 = .ok (.ifCond .eq 24, 3) := by decide +kernel
theorem dX11_sum_27 : decode cX11_sum 27 = .ok (.aload_n 0, 1) := by decide +kernel
theorem dX11_sum_28 : decode cX11_sum 28 = .ok (.iload_n 3, 1) := by decide +kernel
theorem dX11_sum_29 : decode cX11_sum 29 = .ok (.iload_n 1, 1) := by decide +kernel
theorem dX11_sum_30 : decode cX11_sum 30 = .ok (.invokevirtual 282, 3) := by decide +kernel
theorem dX11_sum_33 : decode cX11_sum 33 = .ok (.ifCond .le 7, 3) := by decide +kernel
theorem dX11_sum_36 : decode cX11_sum 36 = .ok (.iconst 1, 1) := by decide +kernel
theorem dX11_sum_37 : decode cX11_sum 37 = .ok (.goto 4, 3) := by decide +kernel
theorem dX11_sum_40 : decode cX11_sum 40 = .ok (.iconst 0, 1) := by decide +kernel
theorem dX11_sum_41 : decode cX11_sum 41 = .ok (.istore_n 2, 1) := by decide +kernel
theorem dX11_sum_42 : decode cX11_sum 42 = .ok (.iinc 3 1, 3) := by decide +kernel
theorem dX11_sum_45 : decode cX11_sum 45 = .ok (.goto (-30), 3) := by decide +kernel
theorem dX11_sum_48 : decode cX11_sum 48 = .ok (.iload_n 2, 1) := by decide +kernel
theorem dX11_sum_49 : decode cX11_sum 49 = .ok (.ifCond .ne 5, 3) := by decide +kernel
theorem dX11_sum_52 : decode cX11_sum 52 = .ok (.iconst (-1), 1) := by decide +kernel
theorem dX11_sum_53 : decode cX11_sum 53 = .ok (.ireturn, 1) := by decide +kernel
theorem dX11_sum_54 : decode cX11_sum 54 = .ok (.aload_n 0, 1) := by decide +kernel
theorem dX11_sum_55 : decode cX11_sum 55 = .ok (.getfield 197, 3) := by decide +kernel
theorem dX11_sum_58 : decode cX11_sum 58 = .ok (.iconst 1, 1) := by decide +kernel
theorem dX11_sum_59 : decode cX11_sum 59 = .ok (.isub, 1) := by decide +kernel
theorem dX11_sum_60 : decode cX11_sum 60 = .ok (.istore_n 3, 1) := by decide +kernel
theorem dX11_sum_61 : decode cX11_sum 61 = .ok (.iload_n 3, 1) := by decide +kernel
theorem dX11_sum_62 : decode cX11_sum 62 = .ok (.ifCond .lt 170, 3) := by decide +kernel
theorem dX11_sum_65 : decode cX11_sum 65 = .ok (.iconst 0, 1) := by decide +kernel
theorem dX11_sum_66 : decode cX11_sum 66 = .ok (.istore 4, 2) := by decide +kernel
theorem dX11_sum_68 : decode cX11_sum 68 = .ok (.iload 4, 2) := by decide +kernel
theorem dX11_sum_70 : decode cX11_sum 70 = .ok (.aload_n 0, 1) := by decide +kernel
theorem dX11_sum_71 : decode cX11_sum 71 = .ok (.getfield 68, 3) := by decide +kernel
theorem dX11_sum_74 : decode cX11_sum 74 = .ok (.bipush 8, 2) := by decide +kernel
theorem dX11_sum_76 : decode cX11_sum 76 = .ok (.iload_n 3, 1) := by decide +kernel
theorem dX11_sum_77 : decode cX11_sum 77 = .ok (.imul, 1) := by decide +kernel
theorem dX11_sum_78 : decode cX11_sum 78 = .ok (.iload_n 1, 1) := by decide +kernel
theorem dX11_sum_79 : decode cX11_sum 79 = .ok (.iadd, 1) := by decide +kernel
theorem dX11_sum_80 : decode cX11_sum 80 = .ok (.iaload, 1) := by decide +kernel
theorem dX11_sum_81 : decode cX11_sum 81 = .ok (.if_icmp .ge 145, 3) := by decide +kernel
theorem dX11_sum_84 : decode cX11_sum 84 = .ok (.iload_n 3, 1) := by decide +kernel
theorem dX11_sum_85 : decode cX11_sum 85 = .ok (.aload_n 0, 1) := by decide +kernel
theorem dX11_sum_86 : decode cX11_sum 86 = .ok (.getfield 197, 3) := by decide +kernel
theorem dX11_sum_89 : decode cX11_sum 89 = .ok (.iconst 1, 1) := by decide +kernel
theorem dX11_sum_90 : decode cX11_sum 90 = .ok (.isub, 1) := by decide +kernel
theorem dX11_sum_91 : decode cX11_sum 91 = .ok (.if_icmp .ne 7, 3) := by decide +kernel
theorem dX11_sum_94 : decode cX11_sum 94 = .ok (.iconst 0, 1) := by decide +kernel
theorem dX11_sum_95 : decode cX11_sum 95 = .ok (.goto 6, 3) := by decide +kernel
theorem dX11_sum_98 : decode cX11_sum 98 = .ok (.ldc_w 271, 3) := by decide +kernel
theorem dX11_sum_101 : decode cX11_sum 101 = .ok (.istore 5, 2) := by decide +kernel
theorem dX11_sum_103 : decode cX11_sum 103 = .ok (.iconst 0, 1) := by decide +kernel
theorem dX11_sum_104 : decode cX11_sum 104 = .ok (.istore 6, 2) := by decide +kernel
theorem dX11_sum_106 : decode cX11_sum 106 = .ok (.iload_n 3, 1) := by decide +kernel
theorem dX11_sum_107 : decode cX11_sum 107 = .ok (.aload_n 0, 1) := by decide +kernel
theorem dX11_sum_108 : decode cX11_sum 108 = .ok (.getfield 197, 3) := by decide +kernel
theorem dX11_sum_111 : decode cX11_sum 111 = .ok (.iconst 1, 1) := by decide +kernel
theorem dX11_sum_112 : decode cX11_sum 112 = .ok (.isub, 1) := by decide +kernel
theorem dX11_sum_113 : decode cX11_sum 113 = .ok (.if_icmp .ge 75, 3) := by decide +kernel
theorem dX11_sum_116 : decode cX11_sum 116 = .ok (.iload 6, 2) := by decide +kernel
theorem dX11_sum_118 : decode cX11_sum 118 = .ok (.aload_n 0, 1) := by decide +kernel
theorem dX11_sum_119 : decode cX11_sum 119 = .ok (.getfield 68, 3) := by decide +kernel
theorem dX11_sum_122 : decode cX11_sum 122 = .ok (.bipush 8, 2) := by decide +kernel
theorem dX11_sum_124 : decode cX11_sum 124 = .ok (.iload_n 3, 1) := by decide +kernel
theorem dX11_sum_125 : decode cX11_sum 125 = .ok (.imul, 1) := by decide +kernel
theorem dX11_sum_126 : decode cX11_sum 126 = .ok (.bipush 8, 2) := by decide +kernel
theorem dX11_sum_128 : decode cX11_sum 128 = .ok (.iadd, 1) := by decide +kernel
theorem dX11_sum_129 : decode cX11_sum 129 = .ok (.iload_n 1, 1) := by decide +kernel
theorem dX11_sum_130 : decode cX11_sum 130 = .ok (.iadd, 1) := by decide +kernel
theorem dX11_sum_131 : decode cX11_sum 131 = .ok (.iaload, 1) := by decide +kernel
theorem dX11_sum_132 : decode cX11_sum 132 = .ok (.if_icmp .ge 56, 3) := by decide +kernel
theorem dX11_sum_135 : decode cX11_sum 135 = .ok (.aload_n 0, 1) := by decide +kernel
theorem dX11_sum_136 : decode cX11_sum 136 = .ok (.iload_n 3, 1) := by decide +kernel
theorem dX11_sum_137 : decode cX11_sum 137 = .ok (.iload 4, 2) := by decide +kernel
theorem dX11_sum_139 : decode cX11_sum 139 = .ok (.iload_n 3, 1) := by decide +kernel
theorem dX11_sum_140 : decode cX11_sum 140 = .ok (.iconst 1, 1) := by decide +kernel
theorem dX11_sum_141 : decode cX11_sum 141 = .ok (.iadd, 1) := by decide +kernel
theorem dX11_sum_142 : decode cX11_sum 142 = .ok (.iload 6, 2) := by decide +kernel
theorem dX11_sum_144 : decode cX11_sum 144 = .ok (.iload_n 1, 1) := by decide +kernel
theorem dX11_sum_145 : decode cX11_sum 145 = .ok (.invokevirtual 286, 3) := by decide +kernel
theorem dX11_sum_148 : decode cX11_sum 148 = .ok (.aload_n 0, 1) := by decide +kernel
theorem dX11_sum_149 : decode cX11_sum 149 = .ok (.getfield 86, 3) := by decide +kernel
theorem dX11_sum_152 : decode cX11_sum 152 = .ok (.bipush 6, 2) := by decide +kernel
theorem dX11_sum_154 : decode cX11_sum 154 = .ok (.iload_n 3, 1) := by decide +kernel
theorem dX11_sum_155 : decode cX11_sum 155 = .ok (.imul, 1) := by decide +kernel
theorem dX11_sum_156 : decode cX11_sum 156 = .ok (.bipush 6, 2) := by decide +kernel
theorem dX11_sum_158 : decode cX11_sum 158 = .ok (.iadd, 1) := by decide +kernel
theorem dX11_sum_159 : decode cX11_sum 159 = .ok (.iload 6, 2) := by decide +kernel
theorem dX11_sum_161 : decode cX11_sum 161 = .ok (.iadd, 1) := by decide +kernel
theorem dX11_sum_162 : decode cX11_sum 162 = .ok (.iaload, 1) := by decide +kernel
theorem dX11_sum_163 : decode cX11_sum 163 = .ok (.iadd, 1) := by decide +kernel
theorem dX11_sum_164 : decode cX11_sum 164 = .ok (.istore 7, 2) := by decide +kernel
theorem dX11_sum_166 : decode cX11_sum 166 = .ok (.iload 7, 2) := by decide +kernel
theorem dX11_sum_168 : decode cX11_sum 168 = .ok (.iload 5, 2) := by decide +kernel
theorem dX11_sum_170 : decode cX11_sum 170 = .ok (.if_icmp .ge 8, 3) := by decide +kernel
theorem dX11_sum_173 : decode cX11_sum 173 = .ok (.iload 7, 2) := by decide +kernel
theorem dX11_sum_175 : decode cX11_sum 175 = .ok (.goto 5, 3) := by decide +kernel
theorem dX11_sum_178 : decode cX11_sum 178 = .ok (.iload 5, 2) := by decide +kernel
theorem dX11_sum_180 : decode cX11_sum 180 = .ok (.istore 5, 2) := by decide +kernel
theorem dX11_sum_182 : decode cX11_sum 182 = .ok (.iinc 6 1, 3) := by decide +kernel
theorem dX11_sum_185 : decode cX11_sum 185 = .ok (.goto (-79), 3) := by decide +kernel
theorem dX11_sum_188 : decode cX11_sum 188 = .ok (.aload_n 0, 1) := by decide +kernel
theorem dX11_sum_189 : decode cX11_sum 189 = .ok (.getfield 86, 3) := by decide +kernel
theorem dX11_sum_192 : decode cX11_sum 192 = .ok (.bipush 6, 2) := by decide +kernel
theorem dX11_sum_194 : decode cX11_sum 194 = .ok (.iload_n 3, 1) := by decide +kernel
theorem dX11_sum_195 : decode cX11_sum 195 = .ok (.imul, 1) := by decide +kernel
theorem dX11_sum_196 : decode cX11_sum 196 = .ok (.iload 4, 2) := by decide +kernel
theorem dX11_sum_198 : decode cX11_sum 198 = .ok (.iadd, 1) := by decide +kernel
theorem dX11_sum_199 : decode cX11_sum 199 = .ok (.aload_n 0, 1) := by decide +kernel
theorem dX11_sum_200 : decode cX11_sum 200 = .ok (.getfield 74, 3) := by decide +kernel
theorem dX11_sum_203 : decode cX11_sum 203 = .ok (.bipush 6, 2) := by decide +kernel
theorem dX11_sum_205 : decode cX11_sum 205 = .ok (.bipush 8, 2) := by decide +kernel
theorem dX11_sum_207 : decode cX11_sum 207 = .ok (.iload_n 3, 1) := by decide +kernel
theorem dX11_sum_208 : decode cX11_sum 208 = .ok (.imul, 1) := by decide +kernel
theorem dX11_sum_209 : decode cX11_sum 209 = .ok (.iload_n 1, 1) := by decide +kernel
theorem dX11_sum_210 : decode cX11_sum 210 = .ok (.iadd, 1) := by decide +kernel
theorem dX11_sum_211 : decode cX11_sum 211 = .ok (.imul, 1) := by decide +kernel
theorem dX11_sum_212 : decode cX11_sum 212 = .ok (.iload 4, 2) := by decide +kernel
theorem dX11_sum_214 : decode cX11_sum 214 = .ok (.iadd, 1) := by decide +kernel
theorem dX11_sum_215 : decode cX11_sum 215 = .ok (.iaload, 1) := by decide +kernel
theorem dX11_sum_216 : decode cX11_sum 216 = .ok (.iload 5, 2) := by decide +kernel
theorem dX11_sum_218 : decode cX11_sum 218 = .ok (.iadd, 1) := by decide +kernel
theorem dX11_sum_219 : decode cX11_sum 219 = .ok (.iastore, 1) := by decide +kernel
theorem dX11_sum_220 : decode cX11_sum 220 = .ok (.iinc 4 1, 3) := by decide +kernel
theorem dX11_sum_223 : decode cX11_sum 223 = .ok (.goto (-155), 3) := by decide +kernel
theorem dX11_sum_226 : decode cX11_sum 226 = .ok (.iinc 3 (-1), 3) := by decide +kernel
theorem dX11_sum_229 : decode cX11_sum 229 = .ok (.goto (-168), 3) := by decide +kernel
theorem dX11_sum_232 : decode cX11_sum 232 = .ok (.ldc_w 271, 3) := by decide +kernel
theorem dX11_sum_235 : decode cX11_sum 235 = .ok (.istore_n 3, 1) := by decide +kernel
theorem dX11_sum_236 : decode cX11_sum 236 = .ok (.iconst 0, 1) := by decide +kernel
theorem dX11_sum_237 : decode cX11_sum 237 = .ok (.istore 4, 2) := by decide +kernel
theorem dX11_sum_239 : decode cX11_sum 239 = .ok (.iload 4, 2) := by decide +kernel
theorem dX11_sum_241 : decode cX11_sum 241 = .ok (.aload_n 0, 1) := by decide +kernel
theorem dX11_sum_242 : decode cX11_sum 242 = .ok (.getfield 68, 3) := by decide +kernel
theorem dX11_sum_245 : decode cX11_sum 245 = .ok (.iload_n 1, 1) := by decide +kernel
theorem dX11_sum_246 : decode cX11_sum 246 = .ok (.iaload, 1) := by decide +kernel
theorem dX11_sum_247 : decode cX11_sum 247 = .ok (.if_icmp .ge 32, 3) := by decide +kernel
theorem dX11_sum_250 : decode cX11_sum 250 = .ok (.aload_n 0, 1) := by decide +kernel
theorem dX11_sum_251 : decode cX11_sum 251 = .ok (.getfield 86, 3) := by decide +kernel
theorem dX11_sum_254 : decode cX11_sum 254 = .ok (.iload 4, 2) := by decide +kernel
theorem dX11_sum_256 : decode cX11_sum 256 = .ok (.iaload, 1) := by decide +kernel
theorem dX11_sum_257 : decode cX11_sum 257 = .ok (.iload_n 3, 1) := by decide +kernel
theorem dX11_sum_258 : decode cX11_sum 258 = .ok (.if_icmp .ge 13, 3) := by decide +kernel
theorem dX11_sum_261 : decode cX11_sum 261 = .ok (.aload_n 0, 1) := by decide +kernel
theorem dX11_sum_262 : decode cX11_sum 262 = .ok (.getfield 86, 3) := by decide +kernel
theorem dX11_sum_265 : decode cX11_sum 265 = .ok (.iload 4, 2) := by decide +kernel
theorem dX11_sum_267 : decode cX11_sum 267 = .ok (.iaload, 1) := by decide +kernel
theorem dX11_sum_268 : decode cX11_sum 268 = .ok (.goto 4, 3) := by decide +kernel
theorem dX11_sum_271 : decode cX11_sum 271 = .ok (.iload_n 3, 1) := by decide +kernel
theorem dX11_sum_272 : decode cX11_sum 272 = .ok (.istore_n 3, 1) := by decide +kernel
theorem dX11_sum_273 : decode cX11_sum 273 = .ok (.iinc 4 1, 3) := by decide +kernel
theorem dX11_sum_276 : decode cX11_sum 276 = .ok (.goto (-37), 3) := by decide +kernel
theorem dX11_sum_279 : decode cX11_sum 279 = .ok (.iload_n 3, 1) := by decide +kernel
theorem dX11_sum_280 : decode cX11_sum 280 = .ok (.ireturn, 1) := by decide +kernel
theorem dX11_plays_0 : decode cX11_plays 0 = .ok (.aload_n 0, 1) := by decide +kernel
theorem dX11_plays_1 : decode cX11_plays 1 = .ok (.iload_n 1, 1) := by decide +kernel
theorem dX11_plays_2 : decode cX11_plays 2 = .ok (.putfield 17, 3) := by decide +kernel
theorem dX11_plays_5 : decode cX11_plays 5 = .ok (.iload_n 2, 1) := by decide +kernel
theorem dX11_plays_6 : decode cX11_plays 6 = .ok (.istore_n 3, 1) := by decide +kernel
theorem dX11_plays_7 : decode cX11_plays 7 = .ok (.iconst 0, 1) := by decide +kernel
theorem dX11_plays_8 : decode cX11_plays 8 = .ok (.istore 4, 2) := by decide +kernel
theorem dX11_plays_10 : decode cX11_plays 10 = .ok (.iload 4, 2) := by decide +kernel
theorem dX11_plays_12 : decode cX11_plays 12 = .ok (.aload_n 0, 1) := by decide +kernel
theorem dX11_plays_13 : decode cX11_plays 13 = .ok (.getfield 197, 3) := by decide +kernel
theorem dX11_plays_16 : decode cX11_plays 16 = .ok (.if_icmp .ge 109, 3) := by decide +kernel
theorem dX11_plays_19 : decode cX11_plays 19 = .ok (.iconst 0, 1) := by decide +kernel
theorem dX11_plays_20 : decode cX11_plays 20 = .ok (.istore 5, 2) := by decide +kernel
theorem dX11_plays_22 : decode cX11_plays 22 = .ok (.aload_n 0, 1) := by decide +kernel
theorem dX11_plays_23 : decode cX11_plays 23 = .ok (.getfield 86, 3) := by decide +kernel
theorem dX11_plays_26 : decode cX11_plays 26 = .ok (.bipush 6, 2) := by decide +kernel
theorem dX11_plays_28 : decode cX11_plays 28 = .ok (.iload 4, 2) := by decide +kernel
theorem dX11_plays_30 : decode cX11_plays 30 = .ok (.imul, 1) := by decide +kernel
theorem dX11_plays_31 : decode cX11_plays 31 = .ok (.iload 5, 2) := by decide +kernel
theorem dX11_plays_33 : decode cX11_plays 33 = .ok (.iadd, 1) := by decide +kernel
theorem dX11_plays_34 : decode cX11_plays 34 = .ok (.iaload, 1) := by decide +kernel
theorem dX11_plays_35 : decode cX11_plays 35 = .ok (.iload 4, 2) := by decide +kernel
theorem dX11_plays_37 : decode cX11_plays 37 = .ok (.ifCond .ne 7, 3) := by decide +kernel
theorem dX11_plays_40 : decode cX11_plays 40 = .ok (.iconst 0, 1) := by decide +kernel
theorem dX11_plays_41 : decode cX11_plays 41 = .ok (.goto 25, 3) := by decide +kernel
theorem dX11_plays_44 : decode cX11_plays 44 = .ok (.aload_n 0, 1) := by decide +kernel
theorem dX11_plays_45 : decode cX11_plays 45 = .ok (.iload 4, 2) := by decide +kernel
theorem dX11_plays_47 : decode cX11_plays 47 = .ok (.iconst 1, 1) := by decide +kernel
theorem dX11_plays_48 : decode cX11_plays 48 = .ok (.isub, 1) := by decide +kernel
theorem dX11_plays_49 : decode cX11_plays 49 = .ok (.aload_n 0, 1) := by decide +kernel
theorem dX11_plays_50 : decode cX11_plays 50 = .ok (.getfield 53, 3) := by decide +kernel
theorem dX11_plays_53 : decode cX11_plays 53 = .ok (.iload 4, 2) := by decide +kernel
theorem dX11_plays_55 : decode cX11_plays 55 = .ok (.iconst 1, 1) := by decide +kernel
theorem dX11_plays_56 : decode cX11_plays 56 = .ok (.isub, 1) := by decide +kernel
theorem dX11_plays_57 : decode cX11_plays 57 = .ok (.iaload, 1) := by decide +kernel
theorem dX11_plays_58 : decode cX11_plays 58 = .ok (.iload 4, 2) := by decide +kernel
theorem dX11_plays_60 : decode cX11_plays 60 = .ok (.iload 5, 2) := by decide +kernel
theorem dX11_plays_62 : decode cX11_plays 62 = .ok (.iload_n 1, 1) := by decide +kernel
theorem dX11_plays_63 : decode cX11_plays 63 = .ok (.invokevirtual 286, 3) := by decide +kernel
theorem dX11_plays_66 : decode cX11_plays 66 = .ok (.iadd, 1) := by decide +kernel
theorem dX11_plays_67 : decode cX11_plays 67 = .ok (.iload_n 3, 1) := by decide +kernel
theorem dX11_plays_68 : decode cX11_plays 68 = .ok (.if_icmp .eq 9, 3) := by decide +kernel
theorem dX11_plays_71 : decode cX11_plays 71 = .ok (.iinc 5 1, 3) := by decide +kernel
theorem dX11_plays_74 : decode cX11_plays 74 = .ok (.goto (-52), 3) := by decide +kernel
theorem dX11_plays_77 : decode cX11_plays 77 = .ok (.aload_n 0, 1) := by decide +kernel
theorem dX11_plays_78 : decode cX11_plays 78 = .ok (.getfield 53, 3) := by decide +kernel
theorem dX11_plays_81 : decode cX11_plays 81 = .ok (.iload 4, 2) := by decide +kernel
theorem dX11_plays_83 : decode cX11_plays 83 = .ok (.iload 5, 2) := by decide +kernel
theorem dX11_plays_85 : decode cX11_plays 85 = .ok (.iastore, 1) := by decide +kernel
theorem dX11_plays_86 : decode cX11_plays 86 = .ok (.aload_n 0, 1) := by decide +kernel
theorem dX11_plays_87 : decode cX11_plays 87 = .ok (.getfield 86, 3) := by decide +kernel
theorem dX11_plays_90 : decode cX11_plays 90 = .ok (.bipush 6, 2) := by decide +kernel
theorem dX11_plays_92 : decode cX11_plays 92 = .ok (.iload 4, 2) := by decide +kernel
theorem dX11_plays_94 : decode cX11_plays 94 = .ok (.imul, 1) := by decide +kernel
theorem dX11_plays_95 : decode cX11_plays 95 = .ok (.iload 5, 2) := by decide +kernel
theorem dX11_plays_97 : decode cX11_plays 97 = .ok (.iadd, 1) := by decide +kernel
theorem dX11_plays_98 : decode cX11_plays 98 = .ok (.iaload, 1) := by decide +kernel
theorem dX11_plays_99 : decode cX11_plays 99 = .ok (.aload_n 0, 1) := by decide +kernel
theorem dX11_plays_100 : decode cX11_plays 100 = .ok (.getfield 74, 3) := by decide +kernel
theorem dX11_plays_103 : decode cX11_plays 103 = .ok (.bipush 6, 2) := by decide +kernel
theorem dX11_plays_105 : decode cX11_plays 105 = .ok (.bipush 8, 2) := by decide +kernel
theorem dX11_plays_107 : decode cX11_plays 107 = .ok (.iload 4, 2) := by decide +kernel
theorem dX11_plays_109 : decode cX11_plays 109 = .ok (.imul, 1) := by decide +kernel
theorem dX11_plays_110 : decode cX11_plays 110 = .ok (.iload_n 1, 1) := by decide +kernel
theorem dX11_plays_111 : decode cX11_plays 111 = .ok (.iadd, 1) := by decide +kernel
theorem dX11_plays_112 : decode cX11_plays 112 = .ok (.imul, 1) := by decide +kernel
theorem dX11_plays_113 : decode cX11_plays 113 = .ok (.iload 5, 2) := by decide +kernel
theorem dX11_plays_115 : decode cX11_plays 115 = .ok (.iadd, 1) := by decide +kernel
theorem dX11_plays_116 : decode cX11_plays 116 = .ok (.iaload, 1) := by decide +kernel
theorem dX11_plays_117 : decode cX11_plays 117 = .ok (.isub, 1) := by decide +kernel
theorem dX11_plays_118 : decode cX11_plays 118 = .ok (.istore_n 3, 1) := by decide +kernel
theorem dX11_plays_119 : decode cX11_plays 119 = .ok (.iinc 4 1, 3) := by decide +kernel
theorem dX11_plays_122 : decode cX11_plays 122 = .ok (.goto (-112), 3) := by decide +kernel
theorem dX11_plays_125 : decode cX11_plays 125 = .ok (.return_, 1) := by decide +kernel
theorem dX11_play_0 : decode cX11_play 0 = .ok (.aload_n 0, 1) := by decide +kernel
theorem dX11_play_1 : decode cX11_play 1 = .ok (.iconst 0, 1) := by decide +kernel
theorem dX11_play_2 : decode cX11_play 2 = .ok (.putfield 89, 3) := by decide +kernel
theorem dX11_play_5 : decode cX11_play 5 = .ok (.aload_n 0, 1) := by decide +kernel
theorem dX11_play_6 : decode cX11_play 6 = .ok (.iload_n 1, 1) := by decide +kernel
theorem dX11_play_7 : decode cX11_play 7 = .ok (.invokestatic 279, 3) := by decide +kernel
theorem dX11_play_10 : decode cX11_play 10 = .ok (.iconst 1, 1) := by decide +kernel
theorem dX11_play_11 : decode cX11_play 11 = .ok (.invokevirtual 190, 3) := by decide +kernel
theorem dX11_play_14 : decode cX11_play 14 = .ok (.ifCond .ne 5, 3) := by decide +kernel
theorem dX11_play_17 : decode cX11_play 17 = .ok (.iconst 0, 1) := by decide +kernel
theorem dX11_play_18 : decode cX11_play 18 = .ok (.ireturn, 1) := by decide +kernel
theorem dX11_play_19 : decode cX11_play 19 = .ok (.aload_n 0, 1) := by decide +kernel
theorem dX11_play_20 : decode cX11_play 20 = .ok (.iload_n 1, 1) := by decide +kernel
theorem dX11_play_21 : decode cX11_play 21 = .ok (.invokevirtual 290, 3) := by decide +kernel
theorem dX11_play_24 : decode cX11_play 24 = .ok (.istore_n 2, 1) := by decide +kernel
theorem dX11_play_25 : decode cX11_play 25 = .ok (.iload_n 2, 1) := by decide +kernel
theorem dX11_play_26 : decode cX11_play 26 = .ok (.iconst (-1), 1) := by decide +kernel
theorem dX11_play_27 : decode cX11_play 27 = .ok (.if_icmp .eq 9, 3) := by decide +kernel
theorem dX11_play_30 : decode cX11_play 30 = .ok (.aload_n 0, 1) := by decide +kernel
theorem dX11_play_31 : decode cX11_play 31 = .ok (.iload_n 1, 1) := by decide +kernel
theorem dX11_play_32 : decode cX11_play 32 = .ok (.iload_n 2, 1) := by decide +kernel
theorem dX11_play_33 : decode cX11_play 33 = .ok (.invokevirtual 293, 3) := by decide +kernel
theorem dX11_play_36 : decode cX11_play 36 = .ok (.iload_n 2, 1) := by decide +kernel
theorem dX11_play_37 : decode cX11_play 37 = .ok (.ireturn, 1) := by decide +kernel
theorem dX11_easiest_0 : decode cX11_easiest 0 = .ok (.aload_n 0, 1) := by decide +kernel
theorem dX11_easiest_1 : decode cX11_easiest 1 = .ok (.iconst 0, 1) := by decide +kernel
theorem dX11_easiest_2 : decode cX11_easiest 2 = .ok (.putfield 89, 3) := by decide +kernel
theorem dX11_easiest_5 : decode cX11_easiest 5 = .ok (.iconst (-1), 1) := by decide +kernel
theorem dX11_easiest_6 : decode cX11_easiest 6 = .ok (.istore_n 1, 1) := by decide +kernel
theorem dX11_easiest_7 : decode cX11_easiest 7 = .ok (.ldc_w 271, 3) := by decide +kernel
theorem dX11_easiest_10 : decode cX11_easiest 10 = .ok (.istore_n 2, 1) := by decide +kernel
theorem dX11_easiest_11 : decode cX11_easiest 11 = .ok (.iconst 0, 1) := by decide +kernel
theorem dX11_easiest_12 : decode cX11_easiest 12 = .ok (.istore_n 3, 1) := by decide +kernel
theorem dX11_easiest_13 : decode cX11_easiest 13 = .ok (.iload_n 3, 1) := by decide +kernel
theorem dX11_easiest_14 : decode cX11_easiest 14 = .ok (.bipush 7, 2) := by decide +kernel
theorem dX11_easiest_16 : decode cX11_easiest 16 = .ok (.if_icmp .gt 36, 3) := by decide +kernel
theorem dX11_easiest_19 : decode cX11_easiest 19 = .ok (.aload_n 0, 1) := by decide +kernel
theorem dX11_easiest_20 : decode cX11_easiest 20 = .ok (.iload_n 3, 1) := by decide +kernel
theorem dX11_easiest_21 : decode cX11_easiest 21 = .ok (.invokevirtual 290, 3) := by decide +kernel
theorem dX11_easiest_24 : decode cX11_easiest 24 = .ok (.istore 4, 2) := by decide +kernel
theorem dX11_easiest_26 : decode cX11_easiest 26 = .ok (.iload 4, 2) := by decide +kernel
theorem dX11_easiest_28 : decode cX11_easiest 28 = .ok (.iconst (-1), 1) := by decide +kernel
theorem dX11_easiest_29 : decode cX11_easiest 29 = .ok (.if_icmp .eq 17, 3) := by decide +kernel
theorem dX11_easiest_32 : decode cX11_easiest 32 = .ok (.iload 4, 2) := by decide +kernel
theorem dX11_easiest_34 : decode cX11_easiest 34 = .ok (.iload_n 2, 1) := by decide +kernel
theorem dX11_easiest_35 : decode cX11_easiest 35 = .ok (.if_icmp .lt 6, 3) := by decide +kernel
theorem dX11_easiest_38 : decode cX11_easiest 38 = .ok (.goto 8, 3) := by decide +kernel
theorem dX11_easiest_41 : decode cX11_easiest 41 = .ok (.iload_n 3, 1) := by decide +kernel
theorem dX11_easiest_42 : decode cX11_easiest 42 = .ok (.istore_n 1, 1) := by decide +kernel
theorem dX11_easiest_43 : decode cX11_easiest 43 = .ok (.iload 4, 2) := by decide +kernel
theorem dX11_easiest_45 : decode cX11_easiest 45 = .ok (.istore_n 2, 1) := by decide +kernel
theorem dX11_easiest_46 : decode cX11_easiest 46 = .ok (.iinc 3 1, 3) := by decide +kernel
theorem dX11_easiest_49 : decode cX11_easiest 49 = .ok (.goto (-36), 3) := by decide +kernel
theorem dX11_easiest_52 : decode cX11_easiest 52 = .ok (.iload_n 1, 1) := by decide +kernel
theorem dX11_easiest_53 : decode cX11_easiest 53 = .ok (.iconst (-1), 1) := by decide +kernel
theorem dX11_easiest_54 : decode cX11_easiest 54 = .ok (.if_icmp .eq 13, 3) := by decide +kernel
theorem dX11_easiest_57 : decode cX11_easiest 57 = .ok (.aload_n 0, 1) := by decide +kernel
theorem dX11_easiest_58 : decode cX11_easiest 58 = .ok (.iload_n 1, 1) := by decide +kernel
theorem dX11_easiest_59 : decode cX11_easiest 59 = .ok (.aload_n 0, 1) := by decide +kernel
theorem dX11_easiest_60 : decode cX11_easiest 60 = .ok (.iload_n 1, 1) := by decide +kernel
theorem dX11_easiest_61 : decode cX11_easiest 61 = .ok (.invokevirtual 290, 3) := by decide +kernel
theorem dX11_easiest_64 : decode cX11_easiest 64 = .ok (.invokevirtual 293, 3) := by decide +kernel
theorem dX11_easiest_67 : decode cX11_easiest 67 = .ok (.iload_n 1, 1) := by decide +kernel
theorem dX11_easiest_68 : decode cX11_easiest 68 = .ok (.ireturn, 1) := by decide +kernel
theorem dX11_played_0 : decode cX11_played 0 = .ok (.aload_n 0, 1) := by decide +kernel
theorem dX11_played_1 : decode cX11_played 1 = .ok (.iconst 0, 1) := by decide +kernel
theorem dX11_played_2 : decode cX11_played 2 = .ok (.putfield 89, 3) := by decide +kernel
theorem dX11_played_5 : decode cX11_played 5 = .ok (.aload_n 0, 1) := by decide +kernel
theorem dX11_played_6 : decode cX11_played 6 = .ok (.getfield 17, 3) := by decide +kernel
theorem dX11_played_9 : decode cX11_played 9 = .ok (.iconst (-1), 1) := by decide +kernel
theorem dX11_played_10 : decode cX11_played 10 = .ok (.if_icmp .eq 16, 3) := by decide +kernel
theorem dX11_played_13 : decode cX11_played 13 = .ok (.iload_n 1, 1) := by decide +kernel
theorem dX11_played_14 : decode cX11_played 14 = .ok (.iconst (-1), 1) := by decide +kernel
theorem dX11_played_15 : decode cX11_played 15 = .ok (.if_icmp .lt 11, 3) := by decide +kernel
theorem dX11_played_18 : decode cX11_played 18 = .ok (.iload_n 1, 1) := by decide +kernel
theorem dX11_played_19 : decode cX11_played 19 = .ok (.aload_n 0, 1) := by decide +kernel
theorem dX11_played_20 : decode cX11_played 20 = .ok (.getfield 197, 3) := by decide +kernel
theorem dX11_played_23 : decode cX11_played 23 = .ok (.if_icmp .lt 5, 3) := by decide +kernel
theorem dX11_played_26 : decode cX11_played 26 = .ok (.iconst (-1), 1) := by decide +kernel
theorem dX11_played_27 : decode cX11_played 27 = .ok (.ireturn, 1) := by decide +kernel
theorem dX11_played_28 : decode cX11_played 28 = .ok (.iload_n 1, 1) := by decide +kernel
theorem dX11_played_29 : decode cX11_played 29 = .ok (.iconst (-1), 1) := by decide +kernel
theorem dX11_played_30 : decode cX11_played 30 = .ok (.if_icmp .ne 10, 3) := by decide +kernel
theorem dX11_played_33 : decode cX11_played 33 = .ok (.aload_n 0, 1) := by decide +kernel
theorem dX11_played_34 : decode cX11_played 34 = .ok (.getfield 17, 3) := by decide +kernel
theorem dX11_played_37 : decode cX11_played 37 = .ok (.goto 9, 3) := by decide +kernel
theorem dX11_played_40 : decode cX11_played 40 = .ok (.aload_n 0, 1) := by decide +kernel
theorem dX11_played_41 : decode cX11_played 41 = .ok (.getfield 53, 3) := by decide +kernel
theorem dX11_played_44 : decode cX11_played 44 = .ok (.iload_n 1, 1) := by decide +kernel
theorem dX11_played_45 : decode cX11_played 45 = .ok (.iaload, 1) := by decide +kernel
theorem dX11_played_46 : decode cX11_played 46 = .ok (.ireturn, 1) := by decide +kernel
theorem dX11_guess_0 : decode cX11_guess 0 = .ok (.aload_n 0, 1) := by decide +kernel
theorem dX11_guess_1 : decode cX11_guess 1 = .ok (.iconst 0, 1) := by decide +kernel
theorem dX11_guess_2 : decode cX11_guess 2 = .ok (.putfield 89, 3) := by decide +kernel
theorem dX11_guess_5 : decode cX11_guess 5 = .ok (.bipush (-100), 2) := by decide +kernel
theorem dX11_guess_7 : decode cX11_guess 7 = .ok (.istore_n 1, 1) := by decide +kernel
theorem dX11_guess_8 : decode cX11_guess 8 = .ok (.iconst (-1), 1) := by decide +kernel
theorem dX11_guess_9 : decode cX11_guess 9 = .ok (.istore_n 2, 1) := by decide +kernel
theorem dX11_guess_10 : decode cX11_guess 10 = .ok (.bipush (-6), 2) := by decide +kernel
theorem dX11_guess_12 : decode cX11_guess 12 = .ok (.istore_n 3, 1) := by decide +kernel
theorem dX11_guess_13 : decode cX11_guess 13 = .ok (.iload_n 3, 1) := by decide +kernel
theorem dX11_guess_14 : decode cX11_guess 14 = .ok (.bipush 6, 2) := by decide +kernel
theorem dX11_guess_16 : decode cX11_guess 16 = .ok (.if_icmp .gt 104, 3) := by decide +kernel
theorem dX11_guess_19 : decode cX11_guess 19 = .ok (.iconst 0, 1) := by decide +kernel
theorem dX11_guess_20 : decode cX11_guess 20 = .ok (.istore 4, 2) := by decide +kernel
theorem dX11_guess_22 : decode cX11_guess 22 = .ok (.iload_n 3, 1) := by decide +kernel
theorem dX11_guess_23 : decode cX11_guess 23 = .ok (.iconst 1, 1) := by decide +kernel
theorem dX11_guess_24 : decode cX11_guess 24 = .ok (.isub, 1) := by decide +kernel
theorem dX11_guess_25 : decode cX11_guess 25 = .ok (.istore 5, 2) := by decide +kernel
theorem dX11_guess_27 : decode cX11_guess 27 = .ok (.iload 5, 2) := by decide +kernel
theorem dX11_guess_29 : decode cX11_guess 29 = .ok (.iload_n 3, 1) := by decide +kernel
theorem dX11_guess_30 : decode cX11_guess 30 = .ok (.iconst 5, 1) := by decide +kernel
theorem dX11_guess_31 : decode cX11_guess 31 = .ok (.iadd, 1) := by decide +kernel
theorem dX11_guess_32 : decode cX11_guess 32 = .ok (.if_icmp .gt 21, 3) := by decide +kernel
theorem dX11_guess_35 : decode cX11_guess 35 = .ok (.iload 4, 2) := by decide +kernel
theorem dX11_guess_37 : decode cX11_guess 37 = .ok (.iconst 1, 1) := by decide +kernel
theorem dX11_guess_38 : decode cX11_guess 38 = .ok (.iload 5, 2) := by decide +kernel
theorem dX11_guess_40 : decode cX11_guess 40 = .ok (.invokestatic 127, 3) := by decide +kernel
theorem dX11_guess_43 : decode cX11_guess 43 = .ok (.ishl, 1) := by decide +kernel
theorem dX11_guess_44 : decode cX11_guess 44 = .ok (.ior, 1) := by decide +kernel
theorem dX11_guess_45 : decode cX11_guess 45 = .ok (.istore 4, 2) := by decide +kernel
theorem dX11_guess_47 : decode cX11_guess 47 = .ok (.iinc 5 1, 3) := by decide +kernel
theorem dX11_guess_50 : decode cX11_guess 50 = .ok (.goto (-23), 3) := by decide +kernel
theorem dX11_guess_53 : decode cX11_guess 53 = .ok (.iconst 0, 1) := by decide +kernel
theorem dX11_guess_54 : decode cX11_guess 54 = .ok (.istore 5, 2) := by decide +kernel
theorem dX11_guess_56 : decode cX11_guess 56 = .ok (.iconst 0, 1) := by decide +kernel
theorem dX11_guess_57 : decode cX11_guess 57 = .ok (.istore 6, 2) := by decide +kernel
theorem dX11_guess_59 : decode cX11_guess 59 = .ok (.iload 6, 2) := by decide +kernel
theorem dX11_guess_61 : decode cX11_guess 61 = .ok (.aload_n 0, 1) := by decide +kernel
theorem dX11_guess_62 : decode cX11_guess 62 = .ok (.getfield 197, 3) := by decide +kernel
theorem dX11_guess_65 : decode cX11_guess 65 = .ok (.if_icmp .ge 26, 3) := by decide +kernel
theorem dX11_guess_68 : decode cX11_guess 68 = .ok (.aload_n 0, 1) := by decide +kernel
theorem dX11_guess_69 : decode cX11_guess 69 = .ok (.iload 6, 2) := by decide +kernel
theorem dX11_guess_71 : decode cX11_guess 71 = .ok (.invokevirtual 223, 3) := by decide +kernel
theorem dX11_guess_74 : decode cX11_guess 74 = .ok (.iload 4, 2) := by decide +kernel
theorem dX11_guess_76 : decode cX11_guess 76 = .ok (.iconst (-1), 1) := by decide +kernel
theorem dX11_guess_77 : decode cX11_guess 77 = .ok (.ixor, 1) := by decide +kernel
theorem dX11_guess_78 : decode cX11_guess 78 = .ok (.iand, 1) := by decide +kernel
theorem dX11_guess_79 : decode cX11_guess 79 = .ok (.ifCond .ne 6, 3) := by decide +kernel
theorem dX11_guess_82 : decode cX11_guess 82 = .ok (.iinc 5 1, 3) := by decide +kernel
theorem dX11_guess_85 : decode cX11_guess 85 = .ok (.iinc 6 1, 3) := by decide +kernel
theorem dX11_guess_88 : decode cX11_guess 88 = .ok (.goto (-29), 3) := by decide +kernel
theorem dX11_guess_91 : decode cX11_guess 91 = .ok (.iload 5, 2) := by decide +kernel
theorem dX11_guess_93 : decode cX11_guess 93 = .ok (.iload_n 2, 1) := by decide +kernel
theorem dX11_guess_94 : decode cX11_guess 94 = .ok (.if_icmp .le 11, 3) := by decide +kernel
theorem dX11_guess_97 : decode cX11_guess 97 = .ok (.iload_n 3, 1) := by decide +kernel
theorem dX11_guess_98 : decode cX11_guess 98 = .ok (.istore_n 1, 1) := by decide +kernel
theorem dX11_guess_99 : decode cX11_guess 99 = .ok (.iload 5, 2) := by decide +kernel
theorem dX11_guess_101 : decode cX11_guess 101 = .ok (.istore_n 2, 1) := by decide +kernel
theorem dX11_guess_102 : decode cX11_guess 102 = .ok (.goto 12, 3) := by decide +kernel
theorem dX11_guess_105 : decode cX11_guess 105 = .ok (.iload 5, 2) := by decide +kernel
theorem dX11_guess_107 : decode cX11_guess 107 = .ok (.iload_n 2, 1) := by decide +kernel
theorem dX11_guess_108 : decode cX11_guess 108 = .ok (.if_icmp .ne 6, 3) := by decide +kernel
theorem dX11_guess_111 : decode cX11_guess 111 = .ok (.bipush (-100), 2) := by decide +kernel
theorem dX11_guess_113 : decode cX11_guess 113 = .ok (.istore_n 1, 1) := by decide +kernel
theorem dX11_guess_114 : decode cX11_guess 114 = .ok (.iinc 3 1, 3) := by decide +kernel
theorem dX11_guess_117 : decode cX11_guess 117 = .ok (.goto (-104), 3) := by decide +kernel
theorem dX11_guess_120 : decode cX11_guess 120 = .ok (.iload_n 1, 1) := by decide +kernel
theorem dX11_guess_121 : decode cX11_guess 121 = .ok (.ireturn, 1) := by decide +kernel
theorem dX11_count_0 : decode cX11_count 0 = .ok (.aload_n 0, 1) := by decide +kernel
theorem dX11_count_1 : decode cX11_count 1 = .ok (.iconst 0, 1) := by decide +kernel
theorem dX11_count_2 : decode cX11_count 2 = .ok (.putfield 89, 3) := by decide +kernel
theorem dX11_count_5 : decode cX11_count 5 = .ok (.aload_n 0, 1) := by decide +kernel
theorem dX11_count_6 : decode cX11_count 6 = .ok (.iload_n 1, 1) := by decide +kernel
theorem dX11_count_7 : decode cX11_count 7 = .ok (.ifCond .lt 12, 3) := by decide +kernel
theorem dX11_count_10 : decode cX11_count 10 = .ok (.iload_n 1, 1) := by decide +kernel
theorem dX11_count_11 : decode cX11_count 11 = .ok (.iconst 5, 1) := by decide +kernel
theorem dX11_count_12 : decode cX11_count 12 = .ok (.if_icmp .gt 7, 3) := by decide +kernel
theorem dX11_count_15 : decode cX11_count 15 = .ok (.iconst 1, 1) := by decide +kernel
theorem dX11_count_16 : decode cX11_count 16 = .ok (.goto 4, 3) := by decide +kernel
theorem dX11_count_19 : decode cX11_count 19 = .ok (.iconst 0, 1) := by decide +kernel
theorem dX11_count_20 : decode cX11_count 20 = .ok (.iconst 1, 1) := by decide +kernel
theorem dX11_count_21 : decode cX11_count 21 = .ok (.invokevirtual 190, 3) := by decide +kernel
theorem dX11_count_24 : decode cX11_count 24 = .ok (.ifCond .ne 5, 3) := by decide +kernel
theorem dX11_count_27 : decode cX11_count 27 = .ok (.iconst 0, 1) := by decide +kernel
theorem dX11_count_28 : decode cX11_count 28 = .ok (.ireturn, 1) := by decide +kernel
theorem dX11_count_29 : decode cX11_count 29 = .ok (.iload_n 1, 1) := by decide +kernel
theorem dX11_count_30 : decode cX11_count 30 = .ok (.tableswitch 59 0 4 #[34, 39, 44, 49, 54], 34) := by decide +kernel
theorem dX11_count_64 : decode cX11_count 64 = .ok (.aload_n 0, 1) := by decide +kernel
theorem dX11_count_65 : decode cX11_count 65 = .ok (.getfield 197, 3) := by decide +kernel
theorem dX11_count_68 : decode cX11_count 68 = .ok (.ireturn, 1) := by decide +kernel
theorem dX11_count_69 : decode cX11_count 69 = .ok (.aload_n 0, 1) := by decide +kernel
theorem dX11_count_70 : decode cX11_count 70 = .ok (.getfield 200, 3) := by decide +kernel
theorem dX11_count_73 : decode cX11_count 73 = .ok (.ireturn, 1) := by decide +kernel
theorem dX11_count_74 : decode cX11_count 74 = .ok (.aload_n 0, 1) := by decide +kernel
theorem dX11_count_75 : decode cX11_count 75 = .ok (.getfield 213, 3) := by decide +kernel
theorem dX11_count_78 : decode cX11_count 78 = .ok (.ireturn, 1) := by decide +kernel
theorem dX11_count_79 : decode cX11_count 79 = .ok (.aload_n 0, 1) := by decide +kernel
theorem dX11_count_80 : decode cX11_count 80 = .ok (.getfield 264, 3) := by decide +kernel
theorem dX11_count_83 : decode cX11_count 83 = .ok (.ireturn, 1) := by decide +kernel
theorem dX11_count_84 : decode cX11_count 84 = .ok (.aload_n 0, 1) := by decide +kernel
theorem dX11_count_85 : decode cX11_count 85 = .ok (.invokevirtual 261, 3) := by decide +kernel
theorem dX11_count_88 : decode cX11_count 88 = .ok (.ireturn, 1) := by decide +kernel
theorem dX11_count_89 : decode cX11_count 89 = .ok (.aload_n 0, 1) := by decide +kernel
theorem dX11_count_90 : decode cX11_count 90 = .ok (.getfield 92, 3) := by decide +kernel
theorem dX11_count_93 : decode cX11_count 93 = .ok (.ireturn, 1) := by decide +kernel
theorem dJ11_isValidCodePoint_9a6ad_0 : decode cJ11_isValidCodePoint_9a6ad 0 = .ok (.iload_n 0, 1) := by decide +kernel
theorem dJ11_isValidCodePoint_9a6ad_1 : decode cJ11_isValidCodePoint_9a6ad 1 = .ok (.bipush 16, 2) := by decide +kernel
theorem dJ11_isValidCodePoint_9a6ad_3 : decode cJ11_isValidCodePoint_9a6ad 3 = .ok (.iushr, 1) := by decide +kernel
theorem dJ11_isValidCodePoint_9a6ad_4 : decode cJ11_isValidCodePoint_9a6ad 4 = .ok (.istore_n 1, 1) := by decide +kernel
theorem dJ11_isValidCodePoint_9a6ad_5 : decode cJ11_isValidCodePoint_9a6ad 5 = .ok (.iload_n 1, 1) := by decide +kernel
theorem dJ11_isValidCodePoint_9a6ad_6 : decode cJ11_isValidCodePoint_9a6ad 6 = .ok (.bipush 17, 2) := by decide +kernel
theorem dJ11_isValidCodePoint_9a6ad_8 : decode cJ11_isValidCodePoint_9a6ad 8 = .ok (.if_icmp .ge 7, 3) := by decide +kernel
theorem dJ11_isValidCodePoint_9a6ad_11 : decode cJ11_isValidCodePoint_9a6ad 11 = .ok (.iconst 1, 1) := by decide +kernel
theorem dJ11_isValidCodePoint_9a6ad_12 : decode cJ11_isValidCodePoint_9a6ad 12 = .ok (.goto 4, 3) := by decide +kernel
theorem dJ11_isValidCodePoint_9a6ad_15 : decode cJ11_isValidCodePoint_9a6ad 15 = .ok (.iconst 0, 1) := by decide +kernel
theorem dJ11_isValidCodePoint_9a6ad_16 : decode cJ11_isValidCodePoint_9a6ad 16 = .ok (.ireturn, 1) := by decide +kernel
theorem dJ11_highSurrogate_5068e_0 : decode cJ11_highSurrogate_5068e 0 = .ok (.iload_n 0, 1) := by decide +kernel
theorem dJ11_highSurrogate_5068e_1 : decode cJ11_highSurrogate_5068e 1 = .ok (.bipush 10, 2) := by decide +kernel
theorem dJ11_highSurrogate_5068e_3 : decode cJ11_highSurrogate_5068e 3 = .ok (.iushr, 1) := by decide +kernel
theorem dJ11_highSurrogate_5068e_4 : decode cJ11_highSurrogate_5068e 4 = .ok (.ldc 110, 2) := by decide +kernel
theorem dJ11_highSurrogate_5068e_6 : decode cJ11_highSurrogate_5068e 6 = .ok (.iadd, 1) := by decide +kernel
theorem dJ11_highSurrogate_5068e_7 : decode cJ11_highSurrogate_5068e 7 = .ok (.i2c, 1) := by decide +kernel
theorem dJ11_highSurrogate_5068e_8 : decode cJ11_highSurrogate_5068e 8 = .ok (.ireturn, 1) := by decide +kernel
theorem dJ11_lowSurrogate_5068e_0 : decode cJ11_lowSurrogate_5068e 0 = .ok (.iload_n 0, 1) := by decide +kernel
theorem dJ11_lowSurrogate_5068e_1 : decode cJ11_lowSurrogate_5068e 1 = .ok (.sipush 1023, 3) := by decide +kernel
theorem dJ11_lowSurrogate_5068e_4 : decode cJ11_lowSurrogate_5068e 4 = .ok (.iand, 1) := by decide +kernel
theorem dJ11_lowSurrogate_5068e_5 : decode cJ11_lowSurrogate_5068e 5 = .ok (.ldc 76, 2) := by decide +kernel
theorem dJ11_lowSurrogate_5068e_7 : decode cJ11_lowSurrogate_5068e 7 = .ok (.iadd, 1) := by decide +kernel
theorem dJ11_lowSurrogate_5068e_8 : decode cJ11_lowSurrogate_5068e 8 = .ok (.i2c, 1) := by decide +kernel
theorem dJ11_lowSurrogate_5068e_9 : decode cJ11_lowSurrogate_5068e 9 = .ok (.ireturn, 1) := by decide +kernel
theorem dJ6_bitCount_0f7a4_0 : decode cJ6_bitCount_0f7a4 0 = .ok (.iload_n 0, 1) := by decide +kernel
theorem dJ6_bitCount_0f7a4_1 : decode cJ6_bitCount_0f7a4 1 = .ok (.iload_n 0, 1) := by decide +kernel
theorem dJ6_bitCount_0f7a4_2 : decode cJ6_bitCount_0f7a4 2 = .ok (.iconst 1, 1) := by decide +kernel
theorem dJ6_bitCount_0f7a4_3 : decode cJ6_bitCount_0f7a4 3 = .ok (.iushr, 1) := by decide +kernel
theorem dJ6_bitCount_0f7a4_4 : decode cJ6_bitCount_0f7a4 4 = .ok (.ldc_w 265, 3) := by decide +kernel
theorem dJ6_bitCount_0f7a4_7 : decode cJ6_bitCount_0f7a4 7 = .ok (.iand, 1) := by decide +kernel
theorem dJ6_bitCount_0f7a4_8 : decode cJ6_bitCount_0f7a4 8 = .ok (.isub, 1) := by decide +kernel
theorem dJ6_bitCount_0f7a4_9 : decode cJ6_bitCount_0f7a4 9 = .ok (.istore_n 0, 1) := by decide +kernel
theorem dJ6_bitCount_0f7a4_10 : decode cJ6_bitCount_0f7a4 10 = .ok (.iload_n 0, 1) := by decide +kernel
theorem dJ6_bitCount_0f7a4_11 : decode cJ6_bitCount_0f7a4 11 = .ok (.ldc_w 266, 3) := by decide +kernel
theorem dJ6_bitCount_0f7a4_14 : decode cJ6_bitCount_0f7a4 14 = .ok (.iand, 1) := by decide +kernel
theorem dJ6_bitCount_0f7a4_15 : decode cJ6_bitCount_0f7a4 15 = .ok (.iload_n 0, 1) := by decide +kernel
theorem dJ6_bitCount_0f7a4_16 : decode cJ6_bitCount_0f7a4 16 = .ok (.iconst 2, 1) := by decide +kernel
theorem dJ6_bitCount_0f7a4_17 : decode cJ6_bitCount_0f7a4 17 = .ok (.iushr, 1) := by decide +kernel
theorem dJ6_bitCount_0f7a4_18 : decode cJ6_bitCount_0f7a4 18 = .ok (.ldc_w 266, 3) := by decide +kernel
theorem dJ6_bitCount_0f7a4_21 : decode cJ6_bitCount_0f7a4 21 = .ok (.iand, 1) := by decide +kernel
theorem dJ6_bitCount_0f7a4_22 : decode cJ6_bitCount_0f7a4 22 = .ok (.iadd, 1) := by decide +kernel
theorem dJ6_bitCount_0f7a4_23 : decode cJ6_bitCount_0f7a4 23 = .ok (.istore_n 0, 1) := by decide +kernel
theorem dJ6_bitCount_0f7a4_24 : decode cJ6_bitCount_0f7a4 24 = .ok (.iload_n 0, 1) := by decide +kernel
theorem dJ6_bitCount_0f7a4_25 : decode cJ6_bitCount_0f7a4 25 = .ok (.iload_n 0, 1) := by decide +kernel
theorem dJ6_bitCount_0f7a4_26 : decode cJ6_bitCount_0f7a4 26 = .ok (.iconst 4, 1) := by decide +kernel
theorem dJ6_bitCount_0f7a4_27 : decode cJ6_bitCount_0f7a4 27 = .ok (.iushr, 1) := by decide +kernel
theorem dJ6_bitCount_0f7a4_28 : decode cJ6_bitCount_0f7a4 28 = .ok (.iadd, 1) := by decide +kernel
theorem dJ6_bitCount_0f7a4_29 : decode cJ6_bitCount_0f7a4 29 = .ok (.ldc_w 267, 3) := by decide +kernel
theorem dJ6_bitCount_0f7a4_32 : decode cJ6_bitCount_0f7a4 32 = .ok (.iand, 1) := by decide +kernel
theorem dJ6_bitCount_0f7a4_33 : decode cJ6_bitCount_0f7a4 33 = .ok (.istore_n 0, 1) := by decide +kernel
theorem dJ6_bitCount_0f7a4_34 : decode cJ6_bitCount_0f7a4 34 = .ok (.iload_n 0, 1) := by decide +kernel
theorem dJ6_bitCount_0f7a4_35 : decode cJ6_bitCount_0f7a4 35 = .ok (.iload_n 0, 1) := by decide +kernel
theorem dJ6_bitCount_0f7a4_36 : decode cJ6_bitCount_0f7a4 36 = .ok (.bipush 8, 2) := by decide +kernel
theorem dJ6_bitCount_0f7a4_38 : decode cJ6_bitCount_0f7a4 38 = .ok (.iushr, 1) := by decide +kernel
theorem dJ6_bitCount_0f7a4_39 : decode cJ6_bitCount_0f7a4 39 = .ok (.iadd, 1) := by decide +kernel
theorem dJ6_bitCount_0f7a4_40 : decode cJ6_bitCount_0f7a4 40 = .ok (.istore_n 0, 1) := by decide +kernel
theorem dJ6_bitCount_0f7a4_41 : decode cJ6_bitCount_0f7a4 41 = .ok (.iload_n 0, 1) := by decide +kernel
theorem dJ6_bitCount_0f7a4_42 : decode cJ6_bitCount_0f7a4 42 = .ok (.iload_n 0, 1) := by decide +kernel
theorem dJ6_bitCount_0f7a4_43 : decode cJ6_bitCount_0f7a4 43 = .ok (.bipush 16, 2) := by decide +kernel
theorem dJ6_bitCount_0f7a4_45 : decode cJ6_bitCount_0f7a4 45 = .ok (.iushr, 1) := by decide +kernel
theorem dJ6_bitCount_0f7a4_46 : decode cJ6_bitCount_0f7a4 46 = .ok (.iadd, 1) := by decide +kernel
theorem dJ6_bitCount_0f7a4_47 : decode cJ6_bitCount_0f7a4 47 = .ok (.istore_n 0, 1) := by decide +kernel
theorem dJ6_bitCount_0f7a4_48 : decode cJ6_bitCount_0f7a4 48 = .ok (.iload_n 0, 1) := by decide +kernel
theorem dJ6_bitCount_0f7a4_49 : decode cJ6_bitCount_0f7a4 49 = .ok (.bipush 63, 2) := by decide +kernel
theorem dJ6_bitCount_0f7a4_51 : decode cJ6_bitCount_0f7a4 51 = .ok (.iand, 1) := by decide +kernel
theorem dJ6_bitCount_0f7a4_52 : decode cJ6_bitCount_0f7a4 52 = .ok (.ireturn, 1) := by decide +kernel
theorem dJ9_floorDiv_7cf53_0 : decode cJ9_floorDiv_7cf53 0 = .ok (.iload_n 0, 1) := by decide +kernel
theorem dJ9_floorDiv_7cf53_1 : decode cJ9_floorDiv_7cf53 1 = .ok (.iload_n 1, 1) := by decide +kernel
theorem dJ9_floorDiv_7cf53_2 : decode cJ9_floorDiv_7cf53 2 = .ok (.idiv, 1) := by decide +kernel
theorem dJ9_floorDiv_7cf53_3 : decode cJ9_floorDiv_7cf53 3 = .ok (.istore_n 2, 1) := by decide +kernel
theorem dJ9_floorDiv_7cf53_4 : decode cJ9_floorDiv_7cf53 4 = .ok (.iload_n 0, 1) := by decide +kernel
theorem dJ9_floorDiv_7cf53_5 : decode cJ9_floorDiv_7cf53 5 = .ok (.iload_n 1, 1) := by decide +kernel
theorem dJ9_floorDiv_7cf53_6 : decode cJ9_floorDiv_7cf53 6 = .ok (.ixor, 1) := by decide +kernel
theorem dJ9_floorDiv_7cf53_7 : decode cJ9_floorDiv_7cf53 7 = .ok (.ifCond .ge 14, 3) := by decide +kernel
theorem dJ9_floorDiv_7cf53_10 : decode cJ9_floorDiv_7cf53 10 = .ok (.iload_n 2, 1) := by decide +kernel
theorem dJ9_floorDiv_7cf53_11 : decode cJ9_floorDiv_7cf53 11 = .ok (.iload_n 1, 1) := by decide +kernel
theorem dJ9_floorDiv_7cf53_12 : decode cJ9_floorDiv_7cf53 12 = .ok (.imul, 1) := by decide +kernel
theorem dJ9_floorDiv_7cf53_13 : decode cJ9_floorDiv_7cf53 13 = .ok (.iload_n 0, 1) := by decide +kernel
theorem dJ9_floorDiv_7cf53_14 : decode cJ9_floorDiv_7cf53 14 = .ok (.if_icmp .eq 7, 3) := by decide +kernel
theorem dJ9_floorDiv_7cf53_17 : decode cJ9_floorDiv_7cf53 17 = .ok (.iload_n 2, 1) := by decide +kernel
theorem dJ9_floorDiv_7cf53_18 : decode cJ9_floorDiv_7cf53 18 = .ok (.iconst 1, 1) := by decide +kernel
theorem dJ9_floorDiv_7cf53_19 : decode cJ9_floorDiv_7cf53 19 = .ok (.isub, 1) := by decide +kernel
theorem dJ9_floorDiv_7cf53_20 : decode cJ9_floorDiv_7cf53 20 = .ok (.ireturn, 1) := by decide +kernel
theorem dJ9_floorDiv_7cf53_21 : decode cJ9_floorDiv_7cf53 21 = .ok (.iload_n 2, 1) := by decide +kernel
theorem dJ9_floorDiv_7cf53_22 : decode cJ9_floorDiv_7cf53 22 = .ok (.ireturn, 1) := by decide +kernel
theorem dJ9_floorMod_7cf53_0 : decode cJ9_floorMod_7cf53 0 = .ok (.iload_n 0, 1) := by decide +kernel
theorem dJ9_floorMod_7cf53_1 : decode cJ9_floorMod_7cf53 1 = .ok (.iload_n 1, 1) := by decide +kernel
theorem dJ9_floorMod_7cf53_2 : decode cJ9_floorMod_7cf53 2 = .ok (.irem, 1) := by decide +kernel
theorem dJ9_floorMod_7cf53_3 : decode cJ9_floorMod_7cf53 3 = .ok (.istore_n 2, 1) := by decide +kernel
theorem dJ9_floorMod_7cf53_4 : decode cJ9_floorMod_7cf53 4 = .ok (.iload_n 0, 1) := by decide +kernel
theorem dJ9_floorMod_7cf53_5 : decode cJ9_floorMod_7cf53 5 = .ok (.iload_n 1, 1) := by decide +kernel
theorem dJ9_floorMod_7cf53_6 : decode cJ9_floorMod_7cf53 6 = .ok (.ixor, 1) := by decide +kernel
theorem dJ9_floorMod_7cf53_7 : decode cJ9_floorMod_7cf53 7 = .ok (.ifCond .ge 11, 3) := by decide +kernel
theorem dJ9_floorMod_7cf53_10 : decode cJ9_floorMod_7cf53 10 = .ok (.iload_n 2, 1) := by decide +kernel
theorem dJ9_floorMod_7cf53_11 : decode cJ9_floorMod_7cf53 11 = .ok (.ifCond .eq 7, 3) := by decide +kernel
theorem dJ9_floorMod_7cf53_14 : decode cJ9_floorMod_7cf53 14 = .ok (.iload_n 2, 1) := by decide +kernel
theorem dJ9_floorMod_7cf53_15 : decode cJ9_floorMod_7cf53 15 = .ok (.iload_n 1, 1) := by decide +kernel
theorem dJ9_floorMod_7cf53_16 : decode cJ9_floorMod_7cf53 16 = .ok (.iadd, 1) := by decide +kernel
theorem dJ9_floorMod_7cf53_17 : decode cJ9_floorMod_7cf53 17 = .ok (.ireturn, 1) := by decide +kernel
theorem dJ9_floorMod_7cf53_18 : decode cJ9_floorMod_7cf53 18 = .ok (.iload_n 2, 1) := by decide +kernel
theorem dJ9_floorMod_7cf53_19 : decode cJ9_floorMod_7cf53 19 = .ok (.ireturn, 1) := by decide +kernel
theorem dJ9_abs_0f7a4_0 : decode cJ9_abs_0f7a4 0 = .ok (.iload_n 0, 1) := by decide +kernel
theorem dJ9_abs_0f7a4_1 : decode cJ9_abs_0f7a4 1 = .ok (.ifCond .ge 8, 3) := by decide +kernel
theorem dJ9_abs_0f7a4_4 : decode cJ9_abs_0f7a4 4 = .ok (.iload_n 0, 1) := by decide +kernel
theorem dJ9_abs_0f7a4_5 : decode cJ9_abs_0f7a4 5 = .ok (.ineg, 1) := by decide +kernel
theorem dJ9_abs_0f7a4_6 : decode cJ9_abs_0f7a4 6 = .ok (.goto 4, 3) := by decide +kernel
theorem dJ9_abs_0f7a4_9 : decode cJ9_abs_0f7a4 9 = .ok (.iload_n 0, 1) := by decide +kernel
theorem dJ9_abs_0f7a4_10 : decode cJ9_abs_0f7a4 10 = .ok (.ireturn, 1) := by decide +kernel
theorem dJ9_max_7cf53_0 : decode cJ9_max_7cf53 0 = .ok (.iload_n 0, 1) := by decide +kernel
theorem dJ9_max_7cf53_1 : decode cJ9_max_7cf53 1 = .ok (.iload_n 1, 1) := by decide +kernel
theorem dJ9_max_7cf53_2 : decode cJ9_max_7cf53 2 = .ok (.if_icmp .lt 7, 3) := by decide +kernel
theorem dJ9_max_7cf53_5 : decode cJ9_max_7cf53 5 = .ok (.iload_n 0, 1) := by decide +kernel
theorem dJ9_max_7cf53_6 : decode cJ9_max_7cf53 6 = .ok (.goto 4, 3) := by decide +kernel
theorem dJ9_max_7cf53_9 : decode cJ9_max_7cf53 9 = .ok (.iload_n 1, 1) := by decide +kernel
theorem dJ9_max_7cf53_10 : decode cJ9_max_7cf53 10 = .ok (.ireturn, 1) := by decide +kernel
theorem dJ9_min_7cf53_0 : decode cJ9_min_7cf53 0 = .ok (.iload_n 0, 1) := by decide +kernel
theorem dJ9_min_7cf53_1 : decode cJ9_min_7cf53 1 = .ok (.iload_n 1, 1) := by decide +kernel
theorem dJ9_min_7cf53_2 : decode cJ9_min_7cf53 2 = .ok (.if_icmp .gt 7, 3) := by decide +kernel
theorem dJ9_min_7cf53_5 : decode cJ9_min_7cf53 5 = .ok (.iload_n 0, 1) := by decide +kernel
theorem dJ9_min_7cf53_6 : decode cJ9_min_7cf53 6 = .ok (.goto 4, 3) := by decide +kernel
theorem dJ9_min_7cf53_9 : decode cJ9_min_7cf53 9 = .ok (.iload_n 1, 1) := by decide +kernel
theorem dJ9_min_7cf53_10 : decode cJ9_min_7cf53 10 = .ok (.ireturn, 1) := by decide +kernel
theorem dJ0_length_8abf5_0 : decode cJ0_length_8abf5 0 = .ok (.aload_n 0, 1) := by decide +kernel
theorem dJ0_length_8abf5_1 : decode cJ0_length_8abf5 1 = .ok (.getfield 9, 3) := by decide +kernel
theorem dJ0_length_8abf5_4 : decode cJ0_length_8abf5 4 = .ok (.arraylength, 1) := by decide +kernel
theorem dJ0_length_8abf5_5 : decode cJ0_length_8abf5 5 = .ok (.aload_n 0, 1) := by decide +kernel
theorem dJ0_length_8abf5_6 : decode cJ0_length_8abf5 6 = .ok (.invokevirtual 335, 3) := by decide +kernel
theorem dJ0_length_8abf5_9 : decode cJ0_length_8abf5 9 = .ok (.ishr, 1) := by decide +kernel
theorem dJ0_length_8abf5_10 : decode cJ0_length_8abf5 10 = .ok (.ireturn, 1) := by decide +kernel
theorem dJ0_charAt_5068e_0 : decode cJ0_charAt_5068e 0 = .ok (.aload_n 0, 1) := by decide +kernel
theorem dJ0_charAt_5068e_1 : decode cJ0_charAt_5068e 1 = .ok (.invokevirtual 492, 3) := by decide +kernel
theorem dJ0_charAt_5068e_4 : decode cJ0_charAt_5068e 4 = .ok (.ifCond .eq 12, 3) := by decide +kernel
theorem dJ0_charAt_5068e_7 : decode cJ0_charAt_5068e 7 = .ok (.aload_n 0, 1) := by decide +kernel
theorem dJ0_charAt_5068e_8 : decode cJ0_charAt_5068e 8 = .ok (.getfield 9, 3) := by decide +kernel
theorem dJ0_charAt_5068e_11 : decode cJ0_charAt_5068e 11 = .ok (.iload_n 1, 1) := by decide +kernel
theorem dJ0_charAt_5068e_12 : decode cJ0_charAt_5068e 12 = .ok (.invokestatic 495, 3) := by decide +kernel
theorem dJ0_charAt_5068e_15 : decode cJ0_charAt_5068e 15 = .ok (.ireturn, 1) := by decide +kernel
theorem dJ0_charAt_5068e_16 : decode cJ0_charAt_5068e 16 = .ok (.aload_n 0, 1) := by decide +kernel
theorem dJ0_charAt_5068e_17 : decode cJ0_charAt_5068e 17 = .ok (.getfield 9, 3) := by decide +kernel
theorem dJ0_charAt_5068e_20 : decode cJ0_charAt_5068e 20 = .ok (.iload_n 1, 1) := by decide +kernel
theorem dJ0_charAt_5068e_21 : decode cJ0_charAt_5068e 21 = .ok (.invokestatic 498, 3) := by decide +kernel
theorem dJ0_charAt_5068e_24 : decode cJ0_charAt_5068e 24 = .ok (.ireturn, 1) := by decide +kernel
theorem dJ0_indexOf_0f7a4_0 : decode cJ0_indexOf_0f7a4 0 = .ok (.aload_n 0, 1) := by decide +kernel
theorem dJ0_indexOf_0f7a4_1 : decode cJ0_indexOf_0f7a4 1 = .ok (.iload_n 1, 1) := by decide +kernel
theorem dJ0_indexOf_0f7a4_2 : decode cJ0_indexOf_0f7a4 2 = .ok (.iconst 0, 1) := by decide +kernel
theorem dJ0_indexOf_0f7a4_3 : decode cJ0_indexOf_0f7a4 3 = .ok (.invokevirtual 633, 3) := by decide +kernel
theorem dJ0_indexOf_0f7a4_6 : decode cJ0_indexOf_0f7a4 6 = .ok (.ireturn, 1) := by decide +kernel
theorem dJ0_indexOf_7cf53_0 : decode cJ0_indexOf_7cf53 0 = .ok (.aload_n 0, 1) := by decide +kernel
theorem dJ0_indexOf_7cf53_1 : decode cJ0_indexOf_7cf53 1 = .ok (.invokevirtual 492, 3) := by decide +kernel
theorem dJ0_indexOf_7cf53_4 : decode cJ0_indexOf_7cf53 4 = .ok (.ifCond .eq 19, 3) := by decide +kernel
theorem dJ0_indexOf_7cf53_7 : decode cJ0_indexOf_7cf53 7 = .ok (.aload_n 0, 1) := by decide +kernel
theorem dJ0_indexOf_7cf53_8 : decode cJ0_indexOf_7cf53 8 = .ok (.getfield 9, 3) := by decide +kernel
theorem dJ0_indexOf_7cf53_11 : decode cJ0_indexOf_7cf53 11 = .ok (.iload_n 1, 1) := by decide +kernel
theorem dJ0_indexOf_7cf53_12 : decode cJ0_indexOf_7cf53 12 = .ok (.iload_n 2, 1) := by decide +kernel
theorem dJ0_indexOf_7cf53_13 : decode cJ0_indexOf_7cf53 13 = .ok (.aload_n 0, 1) := by decide +kernel
theorem dJ0_indexOf_7cf53_14 : decode cJ0_indexOf_7cf53 14 = .ok (.invokevirtual 505, 3) := by decide +kernel
theorem dJ0_indexOf_7cf53_17 : decode cJ0_indexOf_7cf53 17 = .ok (.invokestatic 637, 3) := by decide +kernel
theorem dJ0_indexOf_7cf53_20 : decode cJ0_indexOf_7cf53 20 = .ok (.goto 16, 3) := by decide +kernel
theorem dJ0_indexOf_7cf53_23 : decode cJ0_indexOf_7cf53 23 = .ok (.aload_n 0, 1) := by decide +kernel
theorem dJ0_indexOf_7cf53_24 : decode cJ0_indexOf_7cf53 24 = .ok (.getfield 9, 3) := by decide +kernel
theorem dJ0_indexOf_7cf53_27 : decode cJ0_indexOf_7cf53 27 = .ok (.iload_n 1, 1) := by decide +kernel
theorem dJ0_indexOf_7cf53_28 : decode cJ0_indexOf_7cf53 28 = .ok (.iload_n 2, 1) := by decide +kernel
theorem dJ0_indexOf_7cf53_29 : decode cJ0_indexOf_7cf53 29 = .ok (.aload_n 0, 1) := by decide +kernel
theorem dJ0_indexOf_7cf53_30 : decode cJ0_indexOf_7cf53 30 = .ok (.invokevirtual 505, 3) := by decide +kernel
theorem dJ0_indexOf_7cf53_33 : decode cJ0_indexOf_7cf53 33 = .ok (.invokestatic 640, 3) := by decide +kernel
theorem dJ0_indexOf_7cf53_36 : decode cJ0_indexOf_7cf53 36 = .ok (.ireturn, 1) := by decide +kernel
theorem dJ0_coder_7d493_0 : decode cJ0_coder_7d493 0 = .ok (.getstatic 38, 3) := by decide +kernel
theorem dJ0_coder_7d493_3 : decode cJ0_coder_7d493 3 = .ok (.ifCond .eq 10, 3) := by decide +kernel
theorem dJ0_coder_7d493_6 : decode cJ0_coder_7d493 6 = .ok (.aload_n 0, 1) := by decide +kernel
theorem dJ0_coder_7d493_7 : decode cJ0_coder_7d493 7 = .ok (.getfield 15, 3) := by decide +kernel
theorem dJ0_coder_7d493_10 : decode cJ0_coder_7d493 10 = .ok (.goto 4, 3) := by decide +kernel
theorem dJ0_coder_7d493_13 : decode cJ0_coder_7d493 13 = .ok (.iconst 1, 1) := by decide +kernel
theorem dJ0_coder_7d493_14 : decode cJ0_coder_7d493 14 = .ok (.ireturn, 1) := by decide +kernel
theorem dJ0_isLatin1_aae02_0 : decode cJ0_isLatin1_aae02 0 = .ok (.getstatic 38, 3) := by decide +kernel
theorem dJ0_isLatin1_aae02_3 : decode cJ0_isLatin1_aae02 3 = .ok (.ifCond .eq 14, 3) := by decide +kernel
theorem dJ0_isLatin1_aae02_6 : decode cJ0_isLatin1_aae02 6 = .ok (.aload_n 0, 1) := by decide +kernel
theorem dJ0_isLatin1_aae02_7 : decode cJ0_isLatin1_aae02 7 = .ok (.getfield 15, 3) := by decide +kernel
theorem dJ0_isLatin1_aae02_10 : decode cJ0_isLatin1_aae02 10 = .ok (.ifCond .ne 7, 3) := by decide +kernel
theorem dJ0_isLatin1_aae02_13 : decode cJ0_isLatin1_aae02 13 = .ok (.iconst 1, 1) := by decide +kernel
theorem dJ0_isLatin1_aae02_14 : decode cJ0_isLatin1_aae02 14 = .ok (.goto 4, 3) := by decide +kernel
theorem dJ0_isLatin1_aae02_17 : decode cJ0_isLatin1_aae02 17 = .ok (.iconst 0, 1) := by decide +kernel
theorem dJ0_isLatin1_aae02_18 : decode cJ0_isLatin1_aae02 18 = .ok (.ireturn, 1) := by decide +kernel
theorem dJ0_checkIndex_df160_0 : decode cJ0_checkIndex_df160 0 = .ok (.iload_n 0, 1) := by decide +kernel
theorem dJ0_checkIndex_df160_1 : decode cJ0_checkIndex_df160 1 = .ok (.iload_n 1, 1) := by decide +kernel
theorem dJ0_checkIndex_df160_2 : decode cJ0_checkIndex_df160 2 = .ok (.getstatic 1053, 3) := by decide +kernel
theorem dJ0_checkIndex_df160_5 : decode cJ0_checkIndex_df160 5 = .ok (.invokestatic 1059, 3) := by decide +kernel
theorem dJ0_checkIndex_df160_8 : decode cJ0_checkIndex_df160 8 = .ok (.pop, 1) := by decide +kernel
theorem dJ0_checkIndex_df160_9 : decode cJ0_checkIndex_df160 9 = .ok (.return_, 1) := by decide +kernel
theorem dJ0_checkBoundsBeginEnd_23922_0 : decode cJ0_checkBoundsBeginEnd_23922 0 = .ok (.iload_n 0, 1) := by decide +kernel
theorem dJ0_checkBoundsBeginEnd_23922_1 : decode cJ0_checkBoundsBeginEnd_23922 1 = .ok (.iload_n 1, 1) := by decide +kernel
theorem dJ0_checkBoundsBeginEnd_23922_2 : decode cJ0_checkBoundsBeginEnd_23922 2 = .ok (.iload_n 2, 1) := by decide +kernel
theorem dJ0_checkBoundsBeginEnd_23922_3 : decode cJ0_checkBoundsBeginEnd_23922 3 = .ok (.getstatic 1053, 3) := by decide +kernel
theorem dJ0_checkBoundsBeginEnd_23922_6 : decode cJ0_checkBoundsBeginEnd_23922 6 = .ok (.invokestatic 1062, 3) := by decide +kernel
theorem dJ0_checkBoundsBeginEnd_23922_9 : decode cJ0_checkBoundsBeginEnd_23922 9 = .ok (.pop, 1) := by decide +kernel
theorem dJ0_checkBoundsBeginEnd_23922_10 : decode cJ0_checkBoundsBeginEnd_23922 10 = .ok (.return_, 1) := by decide +kernel
theorem dJ1_charAt_3b067_0 : decode cJ1_charAt_3b067 0 = .ok (.iload_n 1, 1) := by decide +kernel
theorem dJ1_charAt_3b067_1 : decode cJ1_charAt_3b067 1 = .ok (.aload_n 0, 1) := by decide +kernel
theorem dJ1_charAt_3b067_2 : decode cJ1_charAt_3b067 2 = .ok (.arraylength, 1) := by decide +kernel
theorem dJ1_charAt_3b067_3 : decode cJ1_charAt_3b067 3 = .ok (.invokestatic 9, 3) := by decide +kernel
theorem dJ1_charAt_3b067_6 : decode cJ1_charAt_3b067 6 = .ok (.aload_n 0, 1) := by decide +kernel
theorem dJ1_charAt_3b067_7 : decode cJ1_charAt_3b067 7 = .ok (.iload_n 1, 1) := by decide +kernel
theorem dJ1_charAt_3b067_8 : decode cJ1_charAt_3b067 8 = .ok (.baload, 1) := by decide +kernel
theorem dJ1_charAt_3b067_9 : decode cJ1_charAt_3b067 9 = .ok (.sipush 255, 3) := by decide +kernel
theorem dJ1_charAt_3b067_12 : decode cJ1_charAt_3b067 12 = .ok (.iand, 1) := by decide +kernel
theorem dJ1_charAt_3b067_13 : decode cJ1_charAt_3b067 13 = .ok (.i2c, 1) := by decide +kernel
theorem dJ1_charAt_3b067_14 : decode cJ1_charAt_3b067 14 = .ok (.ireturn, 1) := by decide +kernel
theorem dJ1_canEncode_9a6ad_0 : decode cJ1_canEncode_9a6ad 0 = .ok (.iload_n 0, 1) := by decide +kernel
theorem dJ1_canEncode_9a6ad_1 : decode cJ1_canEncode_9a6ad 1 = .ok (.ifCond .lt 14, 3) := by decide +kernel
theorem dJ1_canEncode_9a6ad_4 : decode cJ1_canEncode_9a6ad 4 = .ok (.iload_n 0, 1) := by decide +kernel
theorem dJ1_canEncode_9a6ad_5 : decode cJ1_canEncode_9a6ad 5 = .ok (.sipush 255, 3) := by decide +kernel
theorem dJ1_canEncode_9a6ad_8 : decode cJ1_canEncode_9a6ad 8 = .ok (.if_icmp .gt 7, 3) := by decide +kernel
theorem dJ1_canEncode_9a6ad_11 : decode cJ1_canEncode_9a6ad 11 = .ok (.iconst 1, 1) := by decide +kernel
theorem dJ1_canEncode_9a6ad_12 : decode cJ1_canEncode_9a6ad 12 = .ok (.goto 4, 3) := by decide +kernel
theorem dJ1_canEncode_9a6ad_15 : decode cJ1_canEncode_9a6ad 15 = .ok (.iconst 0, 1) := by decide +kernel
theorem dJ1_canEncode_9a6ad_16 : decode cJ1_canEncode_9a6ad 16 = .ok (.ireturn, 1) := by decide +kernel
theorem dJ1_indexOf_4cfef_0 : decode cJ1_indexOf_4cfef 0 = .ok (.iload_n 1, 1) := by decide +kernel
theorem dJ1_indexOf_4cfef_1 : decode cJ1_indexOf_4cfef 1 = .ok (.invokestatic 88, 3) := by decide +kernel
theorem dJ1_indexOf_4cfef_4 : decode cJ1_indexOf_4cfef 4 = .ok (.ifCond .ne 5, 3) := by decide +kernel
theorem dJ1_indexOf_4cfef_7 : decode cJ1_indexOf_4cfef 7 = .ok (.iconst (-1), 1) := by decide +kernel
theorem dJ1_indexOf_4cfef_8 : decode cJ1_indexOf_4cfef 8 = .ok (.ireturn, 1) := by decide +kernel
theorem dJ1_indexOf_4cfef_9 : decode cJ1_indexOf_4cfef 9 = .ok (.iload_n 2, 1) := by decide +kernel
theorem dJ1_indexOf_4cfef_10 : decode cJ1_indexOf_4cfef 10 = .ok (.iconst 0, 1) := by decide +kernel
theorem dJ1_indexOf_4cfef_11 : decode cJ1_indexOf_4cfef 11 = .ok (.invokestatic 92, 3) := by decide +kernel
theorem dJ1_indexOf_4cfef_14 : decode cJ1_indexOf_4cfef 14 = .ok (.istore_n 2, 1) := by decide +kernel
theorem dJ1_indexOf_4cfef_15 : decode cJ1_indexOf_4cfef 15 = .ok (.iload_n 3, 1) := by decide +kernel
theorem dJ1_indexOf_4cfef_16 : decode cJ1_indexOf_4cfef 16 = .ok (.aload_n 0, 1) := by decide +kernel
theorem dJ1_indexOf_4cfef_17 : decode cJ1_indexOf_4cfef 17 = .ok (.arraylength, 1) := by decide +kernel
theorem dJ1_indexOf_4cfef_18 : decode cJ1_indexOf_4cfef 18 = .ok (.invokestatic 38, 3) := by decide +kernel
theorem dJ1_indexOf_4cfef_21 : decode cJ1_indexOf_4cfef 21 = .ok (.istore_n 3, 1) := by decide +kernel
theorem dJ1_indexOf_4cfef_22 : decode cJ1_indexOf_4cfef 22 = .ok (.iload_n 2, 1) := by decide +kernel
theorem dJ1_indexOf_4cfef_23 : decode cJ1_indexOf_4cfef 23 = .ok (.iload_n 3, 1) := by decide +kernel
theorem dJ1_indexOf_4cfef_24 : decode cJ1_indexOf_4cfef 24 = .ok (.if_icmp .lt 5, 3) := by decide +kernel
theorem dJ1_indexOf_4cfef_27 : decode cJ1_indexOf_4cfef 27 = .ok (.iconst (-1), 1) := by decide +kernel
theorem dJ1_indexOf_4cfef_28 : decode cJ1_indexOf_4cfef 28 = .ok (.ireturn, 1) := by decide +kernel
theorem dJ1_indexOf_4cfef_29 : decode cJ1_indexOf_4cfef 29 = .ok (.aload_n 0, 1) := by decide +kernel
theorem dJ1_indexOf_4cfef_30 : decode cJ1_indexOf_4cfef 30 = .ok (.iload_n 1, 1) := by decide +kernel
theorem dJ1_indexOf_4cfef_31 : decode cJ1_indexOf_4cfef 31 = .ok (.iload_n 2, 1) := by decide +kernel
theorem dJ1_indexOf_4cfef_32 : decode cJ1_indexOf_4cfef 32 = .ok (.iload_n 3, 1) := by decide +kernel
theorem dJ1_indexOf_4cfef_33 : decode cJ1_indexOf_4cfef 33 = .ok (.invokestatic 95, 3) := by decide +kernel
theorem dJ1_indexOf_4cfef_36 : decode cJ1_indexOf_4cfef 36 = .ok (.ireturn, 1) := by decide +kernel
theorem dJ1_indexOfChar_4cfef_0 : decode cJ1_indexOfChar_4cfef 0 = .ok (.iload_n 1, 1) := by decide +kernel
theorem dJ1_indexOfChar_4cfef_1 : decode cJ1_indexOfChar_4cfef 1 = .ok (.i2b, 1) := by decide +kernel
theorem dJ1_indexOfChar_4cfef_2 : decode cJ1_indexOfChar_4cfef 2 = .ok (.istore 4, 2) := by decide +kernel
theorem dJ1_indexOfChar_4cfef_4 : decode cJ1_indexOfChar_4cfef 4 = .ok (.iload_n 2, 1) := by decide +kernel
theorem dJ1_indexOfChar_4cfef_5 : decode cJ1_indexOfChar_4cfef 5 = .ok (.istore 5, 2) := by decide +kernel
theorem dJ1_indexOfChar_4cfef_7 : decode cJ1_indexOfChar_4cfef 7 = .ok (.iload 5, 2) := by decide +kernel
theorem dJ1_indexOfChar_4cfef_9 : decode cJ1_indexOfChar_4cfef 9 = .ok (.iload_n 3, 1) := by decide +kernel
theorem dJ1_indexOfChar_4cfef_10 : decode cJ1_indexOfChar_4cfef 10 = .ok (.if_icmp .ge 21, 3) := by decide +kernel
theorem dJ1_indexOfChar_4cfef_13 : decode cJ1_indexOfChar_4cfef 13 = .ok (.aload_n 0, 1) := by decide +kernel
theorem dJ1_indexOfChar_4cfef_14 : decode cJ1_indexOfChar_4cfef 14 = .ok (.iload 5, 2) := by decide +kernel
theorem dJ1_indexOfChar_4cfef_16 : decode cJ1_indexOfChar_4cfef 16 = .ok (.baload, 1) := by decide +kernel
theorem dJ1_indexOfChar_4cfef_17 : decode cJ1_indexOfChar_4cfef 17 = .ok (.iload 4, 2) := by decide +kernel
theorem dJ1_indexOfChar_4cfef_19 : decode cJ1_indexOfChar_4cfef 19 = .ok (.if_icmp .ne 6, 3) := by decide +kernel
theorem dJ1_indexOfChar_4cfef_22 : decode cJ1_indexOfChar_4cfef 22 = .ok (.iload 5, 2) := by decide +kernel
theorem dJ1_indexOfChar_4cfef_24 : decode cJ1_indexOfChar_4cfef 24 = .ok (.ireturn, 1) := by decide +kernel
theorem dJ1_indexOfChar_4cfef_25 : decode cJ1_indexOfChar_4cfef 25 = .ok (.iinc 5 1, 3) := by decide +kernel
theorem dJ1_indexOfChar_4cfef_28 : decode cJ1_indexOfChar_4cfef 28 = .ok (.goto (-21), 3) := by decide +kernel
theorem dJ1_indexOfChar_4cfef_31 : decode cJ1_indexOfChar_4cfef 31 = .ok (.iconst (-1), 1) := by decide +kernel
theorem dJ1_indexOfChar_4cfef_32 : decode cJ1_indexOfChar_4cfef 32 = .ok (.ireturn, 1) := by decide +kernel
theorem dJ2_getChar_3b067_0 : decode cJ2_getChar_3b067 0 = .ok (.getstatic 44, 3) := by decide +kernel
theorem dJ2_getChar_3b067_3 : decode cJ2_getChar_3b067 3 = .ok (.ifCond .ne 25, 3) := by decide +kernel
theorem dJ2_getChar_3b067_6 : decode cJ2_getChar_3b067 6 = .ok (.iload_n 1, 1) := by decide +kernel
theorem dJ2_getChar_3b067_7 : decode cJ2_getChar_3b067 7 = .ok (.ifCond .lt 11, 3) := by decide +kernel
theorem dJ2_getChar_3b067_10 : decode cJ2_getChar_3b067 10 = .ok (.iload_n 1, 1) := by decide +kernel
theorem dJ2_getChar_3b067_11 : decode cJ2_getChar_3b067 11 = .ok (.aload_n 0, 1) := by decide +kernel
theorem dJ2_getChar_3b067_12 : decode cJ2_getChar_3b067 12 = .ok (.invokestatic 48, 3) := by decide +kernel
theorem dJ2_getChar_3b067_15 : decode cJ2_getChar_3b067 15 = .ok (.if_icmp .lt 13, 3) := by decide +kernel
theorem dJ2_getChar_3b067_18 : decode cJ2_getChar_3b067 18 = .ok (.new 52, 3) := by decide +kernel
theorem dJ2_getChar_3b067_21 : decode cJ2_getChar_3b067 21 = .ok (.dup, 1) := by decide +kernel
theorem dJ2_getChar_3b067_22 : decode cJ2_getChar_3b067 22 = .ok (.ldc 54, 2) := by decide +kernel
theorem dJ2_getChar_3b067_24 : decode cJ2_getChar_3b067 24 = .ok (.invokespecial 56, 3) := by decide +kernel
theorem dJ2_getChar_3b067_27 : decode cJ2_getChar_3b067 27 = .ok (.athrow, 1) := by decide +kernel
theorem dJ2_getChar_3b067_28 : decode cJ2_getChar_3b067 28 = .ok (.iload_n 1, 1) := by decide +kernel
theorem dJ2_getChar_3b067_29 : decode cJ2_getChar_3b067 29 = .ok (.iconst 1, 1) := by decide +kernel
theorem dJ2_getChar_3b067_30 : decode cJ2_getChar_3b067 30 = .ok (.ishl, 1) := by decide +kernel
theorem dJ2_getChar_3b067_31 : decode cJ2_getChar_3b067 31 = .ok (.istore_n 1, 1) := by decide +kernel
theorem dJ2_getChar_3b067_32 : decode cJ2_getChar_3b067 32 = .ok (.aload_n 0, 1) := by decide +kernel
theorem dJ2_getChar_3b067_33 : decode cJ2_getChar_3b067 33 = .ok (.iload_n 1, 1) := by decide +kernel
theorem dJ2_getChar_3b067_34 : decode cJ2_getChar_3b067 34 = .ok (.iinc 1 1, 3) := by decide +kernel
theorem dJ2_getChar_3b067_37 : decode cJ2_getChar_3b067 37 = .ok (.baload, 1) := by decide +kernel
theorem dJ2_getChar_3b067_38 : decode cJ2_getChar_3b067 38 = .ok (.sipush 255, 3) := by decide +kernel
theorem dJ2_getChar_3b067_41 : decode cJ2_getChar_3b067 41 = .ok (.iand, 1) := by decide +kernel
theorem dJ2_getChar_3b067_42 : decode cJ2_getChar_3b067 42 = .ok (.getstatic 59, 3) := by decide +kernel
theorem dJ2_getChar_3b067_45 : decode cJ2_getChar_3b067 45 = .ok (.ishl, 1) := by decide +kernel
theorem dJ2_getChar_3b067_46 : decode cJ2_getChar_3b067 46 = .ok (.aload_n 0, 1) := by decide +kernel
theorem dJ2_getChar_3b067_47 : decode cJ2_getChar_3b067 47 = .ok (.iload_n 1, 1) := by decide +kernel
theorem dJ2_getChar_3b067_48 : decode cJ2_getChar_3b067 48 = .ok (.baload, 1) := by decide +kernel
theorem dJ2_getChar_3b067_49 : decode cJ2_getChar_3b067 49 = .ok (.sipush 255, 3) := by decide +kernel
theorem dJ2_getChar_3b067_52 : decode cJ2_getChar_3b067 52 = .ok (.iand, 1) := by decide +kernel
theorem dJ2_getChar_3b067_53 : decode cJ2_getChar_3b067 53 = .ok (.getstatic 63, 3) := by decide +kernel
theorem dJ2_getChar_3b067_56 : decode cJ2_getChar_3b067 56 = .ok (.ishl, 1) := by decide +kernel
theorem dJ2_getChar_3b067_57 : decode cJ2_getChar_3b067 57 = .ok (.ior, 1) := by decide +kernel
theorem dJ2_getChar_3b067_58 : decode cJ2_getChar_3b067 58 = .ok (.i2c, 1) := by decide +kernel
theorem dJ2_getChar_3b067_59 : decode cJ2_getChar_3b067 59 = .ok (.ireturn, 1) := by decide +kernel
theorem dJ2_length_9d52b_0 : decode cJ2_length_9d52b 0 = .ok (.aload_n 0, 1) := by decide +kernel
theorem dJ2_length_9d52b_1 : decode cJ2_length_9d52b 1 = .ok (.arraylength, 1) := by decide +kernel
theorem dJ2_length_9d52b_2 : decode cJ2_length_9d52b 2 = .ok (.iconst 1, 1) := by decide +kernel
theorem dJ2_length_9d52b_3 : decode cJ2_length_9d52b 3 = .ok (.ishr, 1) := by decide +kernel
theorem dJ2_length_9d52b_4 : decode cJ2_length_9d52b 4 = .ok (.ireturn, 1) := by decide +kernel
theorem dJ2_indexOf_4cfef_0 : decode cJ2_indexOf_4cfef 0 = .ok (.iload_n 2, 1) := by decide +kernel
theorem dJ2_indexOf_4cfef_1 : decode cJ2_indexOf_4cfef 1 = .ok (.iconst 0, 1) := by decide +kernel
theorem dJ2_indexOf_4cfef_2 : decode cJ2_indexOf_4cfef 2 = .ok (.invokestatic 224, 3) := by decide +kernel
theorem dJ2_indexOf_4cfef_5 : decode cJ2_indexOf_4cfef 5 = .ok (.istore_n 2, 1) := by decide +kernel
theorem dJ2_indexOf_4cfef_6 : decode cJ2_indexOf_4cfef 6 = .ok (.iload_n 3, 1) := by decide +kernel
theorem dJ2_indexOf_4cfef_7 : decode cJ2_indexOf_4cfef 7 = .ok (.aload_n 0, 1) := by decide +kernel
theorem dJ2_indexOf_4cfef_8 : decode cJ2_indexOf_4cfef 8 = .ok (.arraylength, 1) := by decide +kernel
theorem dJ2_indexOf_4cfef_9 : decode cJ2_indexOf_4cfef 9 = .ok (.iconst 1, 1) := by decide +kernel
theorem dJ2_indexOf_4cfef_10 : decode cJ2_indexOf_4cfef 10 = .ok (.ishr, 1) := by decide +kernel
theorem dJ2_indexOf_4cfef_11 : decode cJ2_indexOf_4cfef 11 = .ok (.invokestatic 183, 3) := by decide +kernel
theorem dJ2_indexOf_4cfef_14 : decode cJ2_indexOf_4cfef 14 = .ok (.istore_n 3, 1) := by decide +kernel
theorem dJ2_indexOf_4cfef_15 : decode cJ2_indexOf_4cfef 15 = .ok (.iload_n 2, 1) := by decide +kernel
theorem dJ2_indexOf_4cfef_16 : decode cJ2_indexOf_4cfef 16 = .ok (.iload_n 3, 1) := by decide +kernel
theorem dJ2_indexOf_4cfef_17 : decode cJ2_indexOf_4cfef 17 = .ok (.if_icmp .lt 5, 3) := by decide +kernel
theorem dJ2_indexOf_4cfef_20 : decode cJ2_indexOf_4cfef 20 = .ok (.iconst (-1), 1) := by decide +kernel
theorem dJ2_indexOf_4cfef_21 : decode cJ2_indexOf_4cfef 21 = .ok (.ireturn, 1) := by decide +kernel
theorem dJ2_indexOf_4cfef_22 : decode cJ2_indexOf_4cfef 22 = .ok (.iload_n 1, 1) := by decide +kernel
theorem dJ2_indexOf_4cfef_23 : decode cJ2_indexOf_4cfef 23 = .ok (.ldc 227, 2) := by decide +kernel
theorem dJ2_indexOf_4cfef_25 : decode cJ2_indexOf_4cfef 25 = .ok (.if_icmp .ge 11, 3) := by decide +kernel
theorem dJ2_indexOf_4cfef_28 : decode cJ2_indexOf_4cfef 28 = .ok (.aload_n 0, 1) := by decide +kernel
theorem dJ2_indexOf_4cfef_29 : decode cJ2_indexOf_4cfef 29 = .ok (.iload_n 1, 1) := by decide +kernel
theorem dJ2_indexOf_4cfef_30 : decode cJ2_indexOf_4cfef 30 = .ok (.iload_n 2, 1) := by decide +kernel
theorem dJ2_indexOf_4cfef_31 : decode cJ2_indexOf_4cfef 31 = .ok (.iload_n 3, 1) := by decide +kernel
theorem dJ2_indexOf_4cfef_32 : decode cJ2_indexOf_4cfef 32 = .ok (.invokestatic 228, 3) := by decide +kernel
theorem dJ2_indexOf_4cfef_35 : decode cJ2_indexOf_4cfef 35 = .ok (.ireturn, 1) := by decide +kernel
theorem dJ2_indexOf_4cfef_36 : decode cJ2_indexOf_4cfef 36 = .ok (.aload_n 0, 1) := by decide +kernel
theorem dJ2_indexOf_4cfef_37 : decode cJ2_indexOf_4cfef 37 = .ok (.iload_n 1, 1) := by decide +kernel
theorem dJ2_indexOf_4cfef_38 : decode cJ2_indexOf_4cfef 38 = .ok (.iload_n 2, 1) := by decide +kernel
theorem dJ2_indexOf_4cfef_39 : decode cJ2_indexOf_4cfef 39 = .ok (.iload_n 3, 1) := by decide +kernel
theorem dJ2_indexOf_4cfef_40 : decode cJ2_indexOf_4cfef 40 = .ok (.invokestatic 232, 3) := by decide +kernel
theorem dJ2_indexOf_4cfef_43 : decode cJ2_indexOf_4cfef 43 = .ok (.ireturn, 1) := by decide +kernel
theorem dJ2_indexOfChar_4cfef_0 : decode cJ2_indexOfChar_4cfef 0 = .ok (.iload_n 2, 1) := by decide +kernel
theorem dJ2_indexOfChar_4cfef_1 : decode cJ2_indexOfChar_4cfef 1 = .ok (.iload_n 3, 1) := by decide +kernel
theorem dJ2_indexOfChar_4cfef_2 : decode cJ2_indexOfChar_4cfef 2 = .ok (.aload_n 0, 1) := by decide +kernel
theorem dJ2_indexOfChar_4cfef_3 : decode cJ2_indexOfChar_4cfef 3 = .ok (.invokestatic 96, 3) := by decide +kernel
theorem dJ2_indexOfChar_4cfef_6 : decode cJ2_indexOfChar_4cfef 6 = .ok (.aload_n 0, 1) := by decide +kernel
theorem dJ2_indexOfChar_4cfef_7 : decode cJ2_indexOfChar_4cfef 7 = .ok (.iload_n 1, 1) := by decide +kernel
theorem dJ2_indexOfChar_4cfef_8 : decode cJ2_indexOfChar_4cfef 8 = .ok (.iload_n 2, 1) := by decide +kernel
theorem dJ2_indexOfChar_4cfef_9 : decode cJ2_indexOfChar_4cfef 9 = .ok (.iload_n 3, 1) := by decide +kernel
theorem dJ2_indexOfChar_4cfef_10 : decode cJ2_indexOfChar_4cfef 10 = .ok (.invokestatic 244, 3) := by decide +kernel
theorem dJ2_indexOfChar_4cfef_13 : decode cJ2_indexOfChar_4cfef 13 = .ok (.ireturn, 1) := by decide +kernel
theorem dJ2_indexOfCharUnsafe_4cfef_0 : decode cJ2_indexOfCharUnsafe_4cfef 0 = .ok (.iload_n 2, 1) := by decide +kernel
theorem dJ2_indexOfCharUnsafe_4cfef_1 : decode cJ2_indexOfCharUnsafe_4cfef 1 = .ok (.istore 4, 2) := by decide +kernel
theorem dJ2_indexOfCharUnsafe_4cfef_3 : decode cJ2_indexOfCharUnsafe_4cfef 3 = .ok (.iload 4, 2) := by decide +kernel
theorem dJ2_indexOfCharUnsafe_4cfef_5 : decode cJ2_indexOfCharUnsafe_4cfef 5 = .ok (.iload_n 3, 1) := by decide +kernel
theorem dJ2_indexOfCharUnsafe_4cfef_6 : decode cJ2_indexOfCharUnsafe_4cfef 6 = .ok (.if_icmp .ge 22, 3) := by decide +kernel
theorem dJ2_indexOfCharUnsafe_4cfef_9 : decode cJ2_indexOfCharUnsafe_4cfef 9 = .ok (.aload_n 0, 1) := by decide +kernel
theorem dJ2_indexOfCharUnsafe_4cfef_10 : decode cJ2_indexOfCharUnsafe_4cfef 10 = .ok (.iload 4, 2) := by decide +kernel
theorem dJ2_indexOfCharUnsafe_4cfef_12 : decode cJ2_indexOfCharUnsafe_4cfef 12 = .ok (.invokestatic 71, 3) := by decide +kernel
theorem dJ2_indexOfCharUnsafe_4cfef_15 : decode cJ2_indexOfCharUnsafe_4cfef 15 = .ok (.iload_n 1, 1) := by decide +kernel
theorem dJ2_indexOfCharUnsafe_4cfef_16 : decode cJ2_indexOfCharUnsafe_4cfef 16 = .ok (.if_icmp .ne 6, 3) := by decide +kernel
theorem dJ2_indexOfCharUnsafe_4cfef_19 : decode cJ2_indexOfCharUnsafe_4cfef 19 = .ok (.iload 4, 2) := by decide +kernel
theorem dJ2_indexOfCharUnsafe_4cfef_21 : decode cJ2_indexOfCharUnsafe_4cfef 21 = .ok (.ireturn, 1) := by decide +kernel
theorem dJ2_indexOfCharUnsafe_4cfef_22 : decode cJ2_indexOfCharUnsafe_4cfef 22 = .ok (.iinc 4 1, 3) := by decide +kernel
theorem dJ2_indexOfCharUnsafe_4cfef_25 : decode cJ2_indexOfCharUnsafe_4cfef 25 = .ok (.goto (-22), 3) := by decide +kernel
theorem dJ2_indexOfCharUnsafe_4cfef_28 : decode cJ2_indexOfCharUnsafe_4cfef 28 = .ok (.iconst (-1), 1) := by decide +kernel
theorem dJ2_indexOfCharUnsafe_4cfef_29 : decode cJ2_indexOfCharUnsafe_4cfef 29 = .ok (.ireturn, 1) := by decide +kernel
theorem dJ2_indexOfSupplementary_4cfef_0 : decode cJ2_indexOfSupplementary_4cfef 0 = .ok (.iload_n 1, 1) := by decide +kernel
theorem dJ2_indexOfSupplementary_4cfef_1 : decode cJ2_indexOfSupplementary_4cfef 1 = .ok (.invokestatic 164, 3) := by decide +kernel
theorem dJ2_indexOfSupplementary_4cfef_4 : decode cJ2_indexOfSupplementary_4cfef 4 = .ok (.ifCond .eq 65, 3) := by decide +kernel
theorem dJ2_indexOfSupplementary_4cfef_7 : decode cJ2_indexOfSupplementary_4cfef 7 = .ok (.iload_n 1, 1) := by decide +kernel
theorem dJ2_indexOfSupplementary_4cfef_8 : decode cJ2_indexOfSupplementary_4cfef 8 = .ok (.invokestatic 157, 3) := by decide +kernel
theorem dJ2_indexOfSupplementary_4cfef_11 : decode cJ2_indexOfSupplementary_4cfef 11 = .ok (.istore 4, 2) := by decide +kernel
theorem dJ2_indexOfSupplementary_4cfef_13 : decode cJ2_indexOfSupplementary_4cfef 13 = .ok (.iload_n 1, 1) := by decide +kernel
theorem dJ2_indexOfSupplementary_4cfef_14 : decode cJ2_indexOfSupplementary_4cfef 14 = .ok (.invokestatic 161, 3) := by decide +kernel
theorem dJ2_indexOfSupplementary_4cfef_17 : decode cJ2_indexOfSupplementary_4cfef 17 = .ok (.istore 5, 2) := by decide +kernel
theorem dJ2_indexOfSupplementary_4cfef_19 : decode cJ2_indexOfSupplementary_4cfef 19 = .ok (.iload_n 2, 1) := by decide +kernel
theorem dJ2_indexOfSupplementary_4cfef_20 : decode cJ2_indexOfSupplementary_4cfef 20 = .ok (.iload_n 3, 1) := by decide +kernel
theorem dJ2_indexOfSupplementary_4cfef_21 : decode cJ2_indexOfSupplementary_4cfef 21 = .ok (.aload_n 0, 1) := by decide +kernel
theorem dJ2_indexOfSupplementary_4cfef_22 : decode cJ2_indexOfSupplementary_4cfef 22 = .ok (.invokestatic 96, 3) := by decide +kernel
theorem dJ2_indexOfSupplementary_4cfef_25 : decode cJ2_indexOfSupplementary_4cfef 25 = .ok (.iload_n 2, 1) := by decide +kernel
theorem dJ2_indexOfSupplementary_4cfef_26 : decode cJ2_indexOfSupplementary_4cfef 26 = .ok (.istore 6, 2) := by decide +kernel
theorem dJ2_indexOfSupplementary_4cfef_28 : decode cJ2_indexOfSupplementary_4cfef 28 = .ok (.iload 6, 2) := by decide +kernel
theorem dJ2_indexOfSupplementary_4cfef_30 : decode cJ2_indexOfSupplementary_4cfef 30 = .ok (.iload_n 3, 1) := by decide +kernel
theorem dJ2_indexOfSupplementary_4cfef_31 : decode cJ2_indexOfSupplementary_4cfef 31 = .ok (.iconst 1, 1) := by decide +kernel
theorem dJ2_indexOfSupplementary_4cfef_32 : decode cJ2_indexOfSupplementary_4cfef 32 = .ok (.isub, 1) := by decide +kernel
theorem dJ2_indexOfSupplementary_4cfef_33 : decode cJ2_indexOfSupplementary_4cfef 33 = .ok (.if_icmp .ge 36, 3) := by decide +kernel
theorem dJ2_indexOfSupplementary_4cfef_36 : decode cJ2_indexOfSupplementary_4cfef 36 = .ok (.aload_n 0, 1) := by decide +kernel
theorem dJ2_indexOfSupplementary_4cfef_37 : decode cJ2_indexOfSupplementary_4cfef 37 = .ok (.iload 6, 2) := by decide +kernel
theorem dJ2_indexOfSupplementary_4cfef_39 : decode cJ2_indexOfSupplementary_4cfef 39 = .ok (.invokestatic 71, 3) := by decide +kernel
theorem dJ2_indexOfSupplementary_4cfef_42 : decode cJ2_indexOfSupplementary_4cfef 42 = .ok (.iload 4, 2) := by decide +kernel
theorem dJ2_indexOfSupplementary_4cfef_44 : decode cJ2_indexOfSupplementary_4cfef 44 = .ok (.if_icmp .ne 19, 3) := by decide +kernel
theorem dJ2_indexOfSupplementary_4cfef_47 : decode cJ2_indexOfSupplementary_4cfef 47 = .ok (.aload_n 0, 1) := by decide +kernel
theorem dJ2_indexOfSupplementary_4cfef_48 : decode cJ2_indexOfSupplementary_4cfef 48 = .ok (.iload 6, 2) := by decide +kernel
theorem dJ2_indexOfSupplementary_4cfef_50 : decode cJ2_indexOfSupplementary_4cfef 50 = .ok (.iconst 1, 1) := by decide +kernel
theorem dJ2_indexOfSupplementary_4cfef_51 : decode cJ2_indexOfSupplementary_4cfef 51 = .ok (.iadd, 1) := by decide +kernel
theorem dJ2_indexOfSupplementary_4cfef_52 : decode cJ2_indexOfSupplementary_4cfef 52 = .ok (.invokestatic 71, 3) := by decide +kernel
theorem dJ2_indexOfSupplementary_4cfef_55 : decode cJ2_indexOfSupplementary_4cfef 55 = .ok (.iload 5, 2) := by decide +kernel
theorem dJ2_indexOfSupplementary_4cfef_57 : decode cJ2_indexOfSupplementary_4cfef 57 = .ok (.if_icmp .ne 6, 3) := by decide +kernel
theorem dJ2_indexOfSupplementary_4cfef_60 : decode cJ2_indexOfSupplementary_4cfef 60 = .ok (.iload 6, 2) := by decide +kernel
theorem dJ2_indexOfSupplementary_4cfef_62 : decode cJ2_indexOfSupplementary_4cfef 62 = .ok (.ireturn, 1) := by decide +kernel
theorem dJ2_indexOfSupplementary_4cfef_63 : decode cJ2_indexOfSupplementary_4cfef 63 = .ok (.iinc 6 1, 3) := by decide +kernel
theorem dJ2_indexOfSupplementary_4cfef_66 : decode cJ2_indexOfSupplementary_4cfef 66 = .ok (.goto (-38), 3) := by decide +kernel
theorem dJ2_indexOfSupplementary_4cfef_69 : decode cJ2_indexOfSupplementary_4cfef 69 = .ok (.iconst (-1), 1) := by decide +kernel
theorem dJ2_indexOfSupplementary_4cfef_70 : decode cJ2_indexOfSupplementary_4cfef 70 = .ok (.ireturn, 1) := by decide +kernel
theorem dJ2_charAt_3b067_0 : decode cJ2_charAt_3b067 0 = .ok (.iload_n 1, 1) := by decide +kernel
theorem dJ2_charAt_3b067_1 : decode cJ2_charAt_3b067 1 = .ok (.aload_n 0, 1) := by decide +kernel
theorem dJ2_charAt_3b067_2 : decode cJ2_charAt_3b067 2 = .ok (.invokestatic 67, 3) := by decide +kernel
theorem dJ2_charAt_3b067_5 : decode cJ2_charAt_3b067 5 = .ok (.aload_n 0, 1) := by decide +kernel
theorem dJ2_charAt_3b067_6 : decode cJ2_charAt_3b067 6 = .ok (.iload_n 1, 1) := by decide +kernel
theorem dJ2_charAt_3b067_7 : decode cJ2_charAt_3b067 7 = .ok (.invokestatic 71, 3) := by decide +kernel
theorem dJ2_charAt_3b067_10 : decode cJ2_charAt_3b067 10 = .ok (.ireturn, 1) := by decide +kernel
theorem dJ2_checkIndex_2214a_0 : decode cJ2_checkIndex_2214a 0 = .ok (.iload_n 0, 1) := by decide +kernel
theorem dJ2_checkIndex_2214a_1 : decode cJ2_checkIndex_2214a 1 = .ok (.aload_n 1, 1) := by decide +kernel
theorem dJ2_checkIndex_2214a_2 : decode cJ2_checkIndex_2214a 2 = .ok (.invokestatic 48, 3) := by decide +kernel
theorem dJ2_checkIndex_2214a_5 : decode cJ2_checkIndex_2214a 5 = .ok (.invokestatic 414, 3) := by decide +kernel
theorem dJ2_checkIndex_2214a_8 : decode cJ2_checkIndex_2214a 8 = .ok (.return_, 1) := by decide +kernel
theorem dJ2_checkBoundsBeginEnd_d044e_0 : decode cJ2_checkBoundsBeginEnd_d044e 0 = .ok (.iload_n 0, 1) := by decide +kernel
theorem dJ2_checkBoundsBeginEnd_d044e_1 : decode cJ2_checkBoundsBeginEnd_d044e 1 = .ok (.iload_n 1, 1) := by decide +kernel
theorem dJ2_checkBoundsBeginEnd_d044e_2 : decode cJ2_checkBoundsBeginEnd_d044e 2 = .ok (.aload_n 2, 1) := by decide +kernel
theorem dJ2_checkBoundsBeginEnd_d044e_3 : decode cJ2_checkBoundsBeginEnd_d044e 3 = .ok (.invokestatic 48, 3) := by decide +kernel
theorem dJ2_checkBoundsBeginEnd_d044e_6 : decode cJ2_checkBoundsBeginEnd_d044e 6 = .ok (.invokestatic 241, 3) := by decide +kernel
theorem dJ2_checkBoundsBeginEnd_d044e_9 : decode cJ2_checkBoundsBeginEnd_d044e 9 = .ok (.return_, 1) := by decide +kernel
theorem dJ7_fill_53178_0 : decode cJ7_fill_53178 0 = .ok (.iconst 0, 1) := by decide +kernel
theorem dJ7_fill_53178_1 : decode cJ7_fill_53178 1 = .ok (.istore_n 2, 1) := by decide +kernel
theorem dJ7_fill_53178_2 : decode cJ7_fill_53178 2 = .ok (.aload_n 0, 1) := by decide +kernel
theorem dJ7_fill_53178_3 : decode cJ7_fill_53178 3 = .ok (.arraylength, 1) := by decide +kernel
theorem dJ7_fill_53178_4 : decode cJ7_fill_53178 4 = .ok (.istore_n 3, 1) := by decide +kernel
theorem dJ7_fill_53178_5 : decode cJ7_fill_53178 5 = .ok (.iload_n 2, 1) := by decide +kernel
theorem dJ7_fill_53178_6 : decode cJ7_fill_53178 6 = .ok (.iload_n 3, 1) := by decide +kernel
theorem dJ7_fill_53178_7 : decode cJ7_fill_53178 7 = .ok (.if_icmp .ge 13, 3) := by decide +kernel
theorem dJ7_fill_53178_10 : decode cJ7_fill_53178 10 = .ok (.aload_n 0, 1) := by decide +kernel
theorem dJ7_fill_53178_11 : decode cJ7_fill_53178 11 = .ok (.iload_n 2, 1) := by decide +kernel
theorem dJ7_fill_53178_12 : decode cJ7_fill_53178 12 = .ok (.iload_n 1, 1) := by decide +kernel
theorem dJ7_fill_53178_13 : decode cJ7_fill_53178 13 = .ok (.iastore, 1) := by decide +kernel
theorem dJ7_fill_53178_14 : decode cJ7_fill_53178 14 = .ok (.iinc 2 1, 3) := by decide +kernel
theorem dJ7_fill_53178_17 : decode cJ7_fill_53178 17 = .ok (.goto (-12), 3) := by decide +kernel
theorem dJ7_fill_53178_20 : decode cJ7_fill_53178 20 = .ok (.return_, 1) := by decide +kernel
theorem dJ3_checkIndex_8e157_0 : decode cJ3_checkIndex_8e157 0 = .ok (.iload_n 0, 1) := by decide +kernel
theorem dJ3_checkIndex_8e157_1 : decode cJ3_checkIndex_8e157 1 = .ok (.ifCond .lt 8, 3) := by decide +kernel
theorem dJ3_checkIndex_8e157_4 : decode cJ3_checkIndex_8e157 4 = .ok (.iload_n 0, 1) := by decide +kernel
theorem dJ3_checkIndex_8e157_5 : decode cJ3_checkIndex_8e157 5 = .ok (.iload_n 1, 1) := by decide +kernel
theorem dJ3_checkIndex_8e157_6 : decode cJ3_checkIndex_8e157 6 = .ok (.if_icmp .lt 10, 3) := by decide +kernel
theorem dJ3_checkIndex_8e157_9 : decode cJ3_checkIndex_8e157 9 = .ok (.aload_n 2, 1) := by decide +kernel
theorem dJ3_checkIndex_8e157_10 : decode cJ3_checkIndex_8e157 10 = .ok (.iload_n 0, 1) := by decide +kernel
theorem dJ3_checkIndex_8e157_11 : decode cJ3_checkIndex_8e157 11 = .ok (.iload_n 1, 1) := by decide +kernel
theorem dJ3_checkIndex_8e157_12 : decode cJ3_checkIndex_8e157 12 = .ok (.invokestatic 95, 3) := by decide +kernel
theorem dJ3_checkIndex_8e157_15 : decode cJ3_checkIndex_8e157 15 = .ok (.athrow, 1) := by decide +kernel
theorem dJ3_checkIndex_8e157_16 : decode cJ3_checkIndex_8e157 16 = .ok (.iload_n 0, 1) := by decide +kernel
theorem dJ3_checkIndex_8e157_17 : decode cJ3_checkIndex_8e157 17 = .ok (.ireturn, 1) := by decide +kernel
theorem dJ3_checkFromToIndex_8c36e_0 : decode cJ3_checkFromToIndex_8c36e 0 = .ok (.iload_n 0, 1) := by decide +kernel
theorem dJ3_checkFromToIndex_8c36e_1 : decode cJ3_checkFromToIndex_8c36e 1 = .ok (.ifCond .lt 13, 3) := by decide +kernel
theorem dJ3_checkFromToIndex_8c36e_4 : decode cJ3_checkFromToIndex_8c36e 4 = .ok (.iload_n 0, 1) := by decide +kernel
theorem dJ3_checkFromToIndex_8c36e_5 : decode cJ3_checkFromToIndex_8c36e 5 = .ok (.iload_n 1, 1) := by decide +kernel
theorem dJ3_checkFromToIndex_8c36e_6 : decode cJ3_checkFromToIndex_8c36e 6 = .ok (.if_icmp .gt 8, 3) := by decide +kernel
theorem dJ3_checkFromToIndex_8c36e_9 : decode cJ3_checkFromToIndex_8c36e 9 = .ok (.iload_n 1, 1) := by decide +kernel
theorem dJ3_checkFromToIndex_8c36e_10 : decode cJ3_checkFromToIndex_8c36e 10 = .ok (.iload_n 2, 1) := by decide +kernel
theorem dJ3_checkFromToIndex_8c36e_11 : decode cJ3_checkFromToIndex_8c36e 11 = .ok (.if_icmp .le 11, 3) := by decide +kernel
theorem dJ3_checkFromToIndex_8c36e_14 : decode cJ3_checkFromToIndex_8c36e 14 = .ok (.aload_n 3, 1) := by decide +kernel
theorem dJ3_checkFromToIndex_8c36e_15 : decode cJ3_checkFromToIndex_8c36e 15 = .ok (.iload_n 0, 1) := by decide +kernel
theorem dJ3_checkFromToIndex_8c36e_16 : decode cJ3_checkFromToIndex_8c36e 16 = .ok (.iload_n 1, 1) := by decide +kernel
theorem dJ3_checkFromToIndex_8c36e_17 : decode cJ3_checkFromToIndex_8c36e 17 = .ok (.iload_n 2, 1) := by decide +kernel
theorem dJ3_checkFromToIndex_8c36e_18 : decode cJ3_checkFromToIndex_8c36e 18 = .ok (.invokestatic 99, 3) := by decide +kernel
theorem dJ3_checkFromToIndex_8c36e_21 : decode cJ3_checkFromToIndex_8c36e 21 = .ok (.athrow, 1) := by decide +kernel
theorem dJ3_checkFromToIndex_8c36e_22 : decode cJ3_checkFromToIndex_8c36e 22 = .ok (.iload_n 0, 1) := by decide +kernel
theorem dJ3_checkFromToIndex_8c36e_23 : decode cJ3_checkFromToIndex_8c36e 23 = .ok (.ireturn, 1) := by decide +kernel
theorem dL_song_0 : decode cL_song 0 = .ok (.aload_n 2, 1) := by decide +kernel
theorem dL_song_1 : decode cL_song 1 = .ok (.iconst 0, 1) := by decide +kernel
theorem dL_song_2 : decode cL_song 2 = .ok (.aload_n 0, 1) := by decide +kernel
theorem dL_song_3 : decode cL_song 3 = .ok (.iload_n 1, 1) := by decide +kernel
theorem dL_song_4 : decode cL_song 4 = .ok (.invokevirtual 7, 3) := by decide +kernel
theorem dL_song_7 : decode cL_song 7 = .ok (.i2l, 1) := by decide +kernel
theorem dL_song_8 : decode cL_song 8 = .ok (.lastore, 1) := by decide +kernel
theorem dL_song_9 : decode cL_song 9 = .ok (.goto 6, 3) := by decide +kernel
theorem dL_song_12 : decode cL_song 12 = .ok (.astore_n 3, 1) := by decide +kernel
theorem dL_song_13 : decode cL_song 13 = .ok (.iconst 1, 1) := by decide +kernel
theorem dL_song_14 : decode cL_song 14 = .ok (.ireturn, 1) := by decide +kernel
theorem dL_song_15 : decode cL_song 15 = .ok (.iconst 0, 1) := by decide +kernel
theorem dL_song_16 : decode cL_song 16 = .ok (.ireturn, 1) := by decide +kernel
theorem dL_fault_0 : decode cL_fault 0 = .ok (.aload_n 2, 1) := by decide +kernel
theorem dL_fault_1 : decode cL_fault 1 = .ok (.iconst 0, 1) := by decide +kernel
theorem dL_fault_2 : decode cL_fault 2 = .ok (.aload_n 0, 1) := by decide +kernel
theorem dL_fault_3 : decode cL_fault 3 = .ok (.iload_n 1, 1) := by decide +kernel
theorem dL_fault_4 : decode cL_fault 4 = .ok (.invokevirtual 15, 3) := by decide +kernel
theorem dL_fault_7 : decode cL_fault 7 = .ok (.i2l, 1) := by decide +kernel
theorem dL_fault_8 : decode cL_fault 8 = .ok (.lastore, 1) := by decide +kernel
theorem dL_fault_9 : decode cL_fault 9 = .ok (.goto 6, 3) := by decide +kernel
theorem dL_fault_12 : decode cL_fault 12 = .ok (.astore_n 3, 1) := by decide +kernel
theorem dL_fault_13 : decode cL_fault 13 = .ok (.iconst 1, 1) := by decide +kernel
theorem dL_fault_14 : decode cL_fault 14 = .ok (.ireturn, 1) := by decide +kernel
theorem dL_fault_15 : decode cL_fault 15 = .ok (.iconst 0, 1) := by decide +kernel
theorem dL_fault_16 : decode cL_fault 16 = .ok (.ireturn, 1) := by decide +kernel
theorem dL_key_0 : decode cL_key 0 = .ok (.aload_n 2, 1) := by decide +kernel
theorem dL_key_1 : decode cL_key 1 = .ok (.iconst 0, 1) := by decide +kernel
theorem dL_key_2 : decode cL_key 2 = .ok (.aload_n 0, 1) := by decide +kernel
theorem dL_key_3 : decode cL_key 3 = .ok (.iload_n 1, 1) := by decide +kernel
theorem dL_key_4 : decode cL_key 4 = .ok (.invokevirtual 20, 3) := by decide +kernel
theorem dL_key_7 : decode cL_key 7 = .ok (.i2l, 1) := by decide +kernel
theorem dL_key_8 : decode cL_key 8 = .ok (.lastore, 1) := by decide +kernel
theorem dL_key_9 : decode cL_key 9 = .ok (.goto 6, 3) := by decide +kernel
theorem dL_key_12 : decode cL_key 12 = .ok (.astore_n 3, 1) := by decide +kernel
theorem dL_key_13 : decode cL_key 13 = .ok (.iconst 1, 1) := by decide +kernel
theorem dL_key_14 : decode cL_key 14 = .ok (.ireturn, 1) := by decide +kernel
theorem dL_key_15 : decode cL_key 15 = .ok (.iconst 0, 1) := by decide +kernel
theorem dL_key_16 : decode cL_key 16 = .ok (.ireturn, 1) := by decide +kernel
theorem dL_move_0 : decode cL_move 0 = .ok (.aload_n 2, 1) := by decide +kernel
theorem dL_move_1 : decode cL_move 1 = .ok (.iconst 0, 1) := by decide +kernel
theorem dL_move_2 : decode cL_move 2 = .ok (.aload_n 0, 1) := by decide +kernel
theorem dL_move_3 : decode cL_move 3 = .ok (.iload_n 1, 1) := by decide +kernel
theorem dL_move_4 : decode cL_move 4 = .ok (.invokevirtual 23, 3) := by decide +kernel
theorem dL_move_7 : decode cL_move 7 = .ok (.i2l, 1) := by decide +kernel
theorem dL_move_8 : decode cL_move 8 = .ok (.lastore, 1) := by decide +kernel
theorem dL_move_9 : decode cL_move 9 = .ok (.goto 6, 3) := by decide +kernel
theorem dL_move_12 : decode cL_move 12 = .ok (.astore_n 3, 1) := by decide +kernel
theorem dL_move_13 : decode cL_move 13 = .ok (.iconst 1, 1) := by decide +kernel
theorem dL_move_14 : decode cL_move 14 = .ok (.ireturn, 1) := by decide +kernel
theorem dL_move_15 : decode cL_move 15 = .ok (.iconst 0, 1) := by decide +kernel
theorem dL_move_16 : decode cL_move 16 = .ok (.ireturn, 1) := by decide +kernel
theorem dL_chord_0 : decode cL_chord 0 = .ok (.aload_n 3, 1) := by decide +kernel
theorem dL_chord_1 : decode cL_chord 1 = .ok (.iconst 0, 1) := by decide +kernel
theorem dL_chord_2 : decode cL_chord 2 = .ok (.aload_n 0, 1) := by decide +kernel
theorem dL_chord_3 : decode cL_chord 3 = .ok (.iload_n 1, 1) := by decide +kernel
theorem dL_chord_4 : decode cL_chord 4 = .ok (.iload_n 2, 1) := by decide +kernel
theorem dL_chord_5 : decode cL_chord 5 = .ok (.invokevirtual 26, 3) := by decide +kernel
theorem dL_chord_8 : decode cL_chord 8 = .ok (.i2l, 1) := by decide +kernel
theorem dL_chord_9 : decode cL_chord 9 = .ok (.lastore, 1) := by decide +kernel
theorem dL_chord_10 : decode cL_chord 10 = .ok (.goto 7, 3) := by decide +kernel
theorem dL_chord_13 : decode cL_chord 13 = .ok (.astore 4, 2) := by decide +kernel
theorem dL_chord_15 : decode cL_chord 15 = .ok (.iconst 1, 1) := by decide +kernel
theorem dL_chord_16 : decode cL_chord 16 = .ok (.ireturn, 1) := by decide +kernel
theorem dL_chord_17 : decode cL_chord 17 = .ok (.iconst 0, 1) := by decide +kernel
theorem dL_chord_18 : decode cL_chord 18 = .ok (.ireturn, 1) := by decide +kernel
theorem dL_name_0 : decode cL_name 0 = .ok (.aload_n 2, 1) := by decide +kernel
theorem dL_name_1 : decode cL_name 1 = .ok (.iconst 0, 1) := by decide +kernel
theorem dL_name_2 : decode cL_name 2 = .ok (.aload_n 0, 1) := by decide +kernel
theorem dL_name_3 : decode cL_name 3 = .ok (.iload_n 1, 1) := by decide +kernel
theorem dL_name_4 : decode cL_name 4 = .ok (.invokevirtual 30, 3) := by decide +kernel
theorem dL_name_7 : decode cL_name 7 = .ok (.i2l, 1) := by decide +kernel
theorem dL_name_8 : decode cL_name 8 = .ok (.lastore, 1) := by decide +kernel
theorem dL_name_9 : decode cL_name 9 = .ok (.goto 6, 3) := by decide +kernel
theorem dL_name_12 : decode cL_name 12 = .ok (.astore_n 3, 1) := by decide +kernel
theorem dL_name_13 : decode cL_name 13 = .ok (.iconst 1, 1) := by decide +kernel
theorem dL_name_14 : decode cL_name 14 = .ok (.ireturn, 1) := by decide +kernel
theorem dL_name_15 : decode cL_name 15 = .ok (.iconst 0, 1) := by decide +kernel
theorem dL_name_16 : decode cL_name 16 = .ok (.ireturn, 1) := by decide +kernel
theorem dL_told_0 : decode cL_told 0 = .ok (.aload_n 2, 1) := by decide +kernel
theorem dL_told_1 : decode cL_told 1 = .ok (.iconst 0, 1) := by decide +kernel
theorem dL_told_2 : decode cL_told 2 = .ok (.aload_n 0, 1) := by decide +kernel
theorem dL_told_3 : decode cL_told 3 = .ok (.iload_n 1, 1) := by decide +kernel
theorem dL_told_4 : decode cL_told 4 = .ok (.invokevirtual 33, 3) := by decide +kernel
theorem dL_told_7 : decode cL_told 7 = .ok (.i2l, 1) := by decide +kernel
theorem dL_told_8 : decode cL_told 8 = .ok (.lastore, 1) := by decide +kernel
theorem dL_told_9 : decode cL_told 9 = .ok (.goto 6, 3) := by decide +kernel
theorem dL_told_12 : decode cL_told 12 = .ok (.astore_n 3, 1) := by decide +kernel
theorem dL_told_13 : decode cL_told 13 = .ok (.iconst 1, 1) := by decide +kernel
theorem dL_told_14 : decode cL_told 14 = .ok (.ireturn, 1) := by decide +kernel
theorem dL_told_15 : decode cL_told 15 = .ok (.iconst 0, 1) := by decide +kernel
theorem dL_told_16 : decode cL_told 16 = .ok (.ireturn, 1) := by decide +kernel
theorem dL_string_0 : decode cL_string 0 = .ok (.aload_n 2, 1) := by decide +kernel
theorem dL_string_1 : decode cL_string 1 = .ok (.iconst 0, 1) := by decide +kernel
theorem dL_string_2 : decode cL_string 2 = .ok (.aload_n 0, 1) := by decide +kernel
theorem dL_string_3 : decode cL_string 3 = .ok (.iload_n 1, 1) := by decide +kernel
theorem dL_string_4 : decode cL_string 4 = .ok (.invokevirtual 36, 3) := by decide +kernel
theorem dL_string_7 : decode cL_string 7 = .ok (.i2l, 1) := by decide +kernel
theorem dL_string_8 : decode cL_string 8 = .ok (.lastore, 1) := by decide +kernel
theorem dL_string_9 : decode cL_string 9 = .ok (.goto 6, 3) := by decide +kernel
theorem dL_string_12 : decode cL_string 12 = .ok (.astore_n 3, 1) := by decide +kernel
theorem dL_string_13 : decode cL_string 13 = .ok (.iconst 1, 1) := by decide +kernel
theorem dL_string_14 : decode cL_string 14 = .ok (.ireturn, 1) := by decide +kernel
theorem dL_string_15 : decode cL_string 15 = .ok (.iconst 0, 1) := by decide +kernel
theorem dL_string_16 : decode cL_string 16 = .ok (.ireturn, 1) := by decide +kernel
theorem dL_hands_0 : decode cL_hands 0 = .ok (.aload_n 3, 1) := by decide +kernel
theorem dL_hands_1 : decode cL_hands 1 = .ok (.iconst 0, 1) := by decide +kernel
theorem dL_hands_2 : decode cL_hands 2 = .ok (.aload_n 0, 1) := by decide +kernel
theorem dL_hands_3 : decode cL_hands 3 = .ok (.iload_n 1, 1) := by decide +kernel
theorem dL_hands_4 : decode cL_hands 4 = .ok (.iload_n 2, 1) := by decide +kernel
theorem dL_hands_5 : decode cL_hands 5 = .ok (.invokevirtual 39, 3) := by decide +kernel
theorem dL_hands_8 : decode cL_hands 8 = .ok (.i2l, 1) := by decide +kernel
theorem dL_hands_9 : decode cL_hands 9 = .ok (.lastore, 1) := by decide +kernel
theorem dL_hands_10 : decode cL_hands 10 = .ok (.goto 11, 3) := by decide +kernel
theorem dL_hands_13 : decode cL_hands 13 = .ok (.astore 4, 2) := by decide +kernel
theorem dL_hands_15 : decode cL_hands 15 = .ok (.iconst 1, 1) := by decide +kernel
theorem dL_hands_16 : decode cL_hands 16 = .ok (.ireturn, 1) := by decide +kernel
theorem dL_hands_17 : decode cL_hands 17 = .ok (.astore 4, 2) := by decide +kernel
theorem dL_hands_19 : decode cL_hands 19 = .ok (.iconst 2, 1) := by decide +kernel
theorem dL_hands_20 : decode cL_hands 20 = .ok (.ireturn, 1) := by decide +kernel
theorem dL_hands_21 : decode cL_hands 21 = .ok (.iconst 0, 1) := by decide +kernel
theorem dL_hands_22 : decode cL_hands 22 = .ok (.ireturn, 1) := by decide +kernel
theorem dL_fret_0 : decode cL_fret 0 = .ok (.aload 5, 2) := by decide +kernel
theorem dL_fret_2 : decode cL_fret 2 = .ok (.iconst 0, 1) := by decide +kernel
theorem dL_fret_3 : decode cL_fret 3 = .ok (.aload_n 0, 1) := by decide +kernel
theorem dL_fret_4 : decode cL_fret 4 = .ok (.iload_n 1, 1) := by decide +kernel
theorem dL_fret_5 : decode cL_fret 5 = .ok (.iload_n 2, 1) := by decide +kernel
theorem dL_fret_6 : decode cL_fret 6 = .ok (.iload_n 3, 1) := by decide +kernel
theorem dL_fret_7 : decode cL_fret 7 = .ok (.iload 4, 2) := by decide +kernel
theorem dL_fret_9 : decode cL_fret 9 = .ok (.invokevirtual 42, 3) := by decide +kernel
theorem dL_fret_12 : decode cL_fret 12 = .ok (.i2l, 1) := by decide +kernel
theorem dL_fret_13 : decode cL_fret 13 = .ok (.lastore, 1) := by decide +kernel
theorem dL_fret_14 : decode cL_fret 14 = .ok (.goto 11, 3) := by decide +kernel
theorem dL_fret_17 : decode cL_fret 17 = .ok (.astore 6, 2) := by decide +kernel
theorem dL_fret_19 : decode cL_fret 19 = .ok (.iconst 1, 1) := by decide +kernel
theorem dL_fret_20 : decode cL_fret 20 = .ok (.ireturn, 1) := by decide +kernel
theorem dL_fret_21 : decode cL_fret 21 = .ok (.astore 6, 2) := by decide +kernel
theorem dL_fret_23 : decode cL_fret 23 = .ok (.iconst 2, 1) := by decide +kernel
theorem dL_fret_24 : decode cL_fret 24 = .ok (.ireturn, 1) := by decide +kernel
theorem dL_fret_25 : decode cL_fret 25 = .ok (.iconst 0, 1) := by decide +kernel
theorem dL_fret_26 : decode cL_fret 26 = .ok (.ireturn, 1) := by decide +kernel
theorem dL_play_0 : decode cL_play 0 = .ok (.aload_n 2, 1) := by decide +kernel
theorem dL_play_1 : decode cL_play 1 = .ok (.iconst 0, 1) := by decide +kernel
theorem dL_play_2 : decode cL_play 2 = .ok (.aload_n 0, 1) := by decide +kernel
theorem dL_play_3 : decode cL_play 3 = .ok (.iload_n 1, 1) := by decide +kernel
theorem dL_play_4 : decode cL_play 4 = .ok (.invokevirtual 46, 3) := by decide +kernel
theorem dL_play_7 : decode cL_play 7 = .ok (.i2l, 1) := by decide +kernel
theorem dL_play_8 : decode cL_play 8 = .ok (.lastore, 1) := by decide +kernel
theorem dL_play_9 : decode cL_play 9 = .ok (.goto 6, 3) := by decide +kernel
theorem dL_play_12 : decode cL_play 12 = .ok (.astore_n 3, 1) := by decide +kernel
theorem dL_play_13 : decode cL_play 13 = .ok (.iconst 1, 1) := by decide +kernel
theorem dL_play_14 : decode cL_play 14 = .ok (.ireturn, 1) := by decide +kernel
theorem dL_play_15 : decode cL_play 15 = .ok (.iconst 0, 1) := by decide +kernel
theorem dL_play_16 : decode cL_play 16 = .ok (.ireturn, 1) := by decide +kernel
theorem dL_count_0 : decode cL_count 0 = .ok (.aload_n 2, 1) := by decide +kernel
theorem dL_count_1 : decode cL_count 1 = .ok (.iconst 0, 1) := by decide +kernel
theorem dL_count_2 : decode cL_count 2 = .ok (.aload_n 0, 1) := by decide +kernel
theorem dL_count_3 : decode cL_count 3 = .ok (.iload_n 1, 1) := by decide +kernel
theorem dL_count_4 : decode cL_count 4 = .ok (.invokevirtual 49, 3) := by decide +kernel
theorem dL_count_7 : decode cL_count 7 = .ok (.i2l, 1) := by decide +kernel
theorem dL_count_8 : decode cL_count 8 = .ok (.lastore, 1) := by decide +kernel
theorem dL_count_9 : decode cL_count 9 = .ok (.goto 6, 3) := by decide +kernel
theorem dL_count_12 : decode cL_count 12 = .ok (.astore_n 3, 1) := by decide +kernel
theorem dL_count_13 : decode cL_count 13 = .ok (.iconst 1, 1) := by decide +kernel
theorem dL_count_14 : decode cL_count 14 = .ok (.ireturn, 1) := by decide +kernel
theorem dL_count_15 : decode cL_count 15 = .ok (.iconst 0, 1) := by decide +kernel
theorem dL_count_16 : decode cL_count 16 = .ok (.ireturn, 1) := by decide +kernel
theorem dL_law_0 : decode cL_law 0 = .ok (.new 8, 3) := by decide +kernel
theorem dL_law_3 : decode cL_law 3 = .ok (.dup, 1) := by decide +kernel
theorem dL_law_4 : decode cL_law 4 = .ok (.invokespecial 52, 3) := by decide +kernel
theorem dL_law_7 : decode cL_law 7 = .ok (.astore_n 1, 1) := by decide +kernel
theorem dL_law_8 : decode cL_law 8 = .ok (.new 53, 3) := by decide +kernel
theorem dL_law_11 : decode cL_law 11 = .ok (.dup, 1) := by decide +kernel
theorem dL_law_12 : decode cL_law 12 = .ok (.invokespecial 55, 3) := by decide +kernel
theorem dL_law_15 : decode cL_law 15 = .ok (.astore_n 2, 1) := by decide +kernel
theorem dL_law_16 : decode cL_law 16 = .ok (.iconst 1, 1) := by decide +kernel
theorem dL_law_17 : decode cL_law 17 = .ok (.newarray .long, 2) := by decide +kernel
theorem dL_law_19 : decode cL_law 19 = .ok (.astore_n 3, 1) := by decide +kernel
theorem dL_law_20 : decode cL_law 20 = .ok (.iconst 0, 1) := by decide +kernel
theorem dL_law_21 : decode cL_law 21 = .ok (.istore 4, 2) := by decide +kernel
theorem dL_law_23 : decode cL_law 23 = .ok (.iload 4, 2) := by decide +kernel
theorem dL_law_25 : decode cL_law 25 = .ok (.aload_n 0, 1) := by decide +kernel
theorem dL_law_26 : decode cL_law 26 = .ok (.arraylength, 1) := by decide +kernel
theorem dL_law_27 : decode cL_law 27 = .ok (.bipush 6, 2) := by decide +kernel
theorem dL_law_29 : decode cL_law 29 = .ok (.isub, 1) := by decide +kernel
theorem dL_law_30 : decode cL_law 30 = .ok (.if_icmp .gt 986, 3) := by decide +kernel
theorem dL_law_33 : decode cL_law 33 = .ok (.aload_n 0, 1) := by decide +kernel
theorem dL_law_34 : decode cL_law 34 = .ok (.iload 4, 2) := by decide +kernel
theorem dL_law_36 : decode cL_law 36 = .ok (.iaload, 1) := by decide +kernel
theorem dL_law_37 : decode cL_law 37 = .ok (.bipush 31, 2) := by decide +kernel
theorem dL_law_39 : decode cL_law 39 = .ok (.iand, 1) := by decide +kernel
theorem dL_law_40 : decode cL_law 40 = .ok (.tableswitch 970 0 17 #[88, 161, 217, 273, 329, 385, 453, 509, 522, 578, 634, 647, 715, 807, 863, 876, 901, 914], 88) := by decide +kernel
theorem dL_law_128 : decode cL_law 128 = .ok (.aload_n 1, 1) := by decide +kernel
theorem dL_law_129 : decode cL_law 129 = .ok (.aload_n 0, 1) := by decide +kernel
theorem dL_law_130 : decode cL_law 130 = .ok (.iload 4, 2) := by decide +kernel
theorem dL_law_132 : decode cL_law 132 = .ok (.iconst 1, 1) := by decide +kernel
theorem dL_law_133 : decode cL_law 133 = .ok (.iadd, 1) := by decide +kernel
theorem dL_law_134 : decode cL_law 134 = .ok (.iaload, 1) := by decide +kernel
theorem dL_law_135 : decode cL_law 135 = .ok (.aload_n 0, 1) := by decide +kernel
theorem dL_law_136 : decode cL_law 136 = .ok (.iload 4, 2) := by decide +kernel
theorem dL_law_138 : decode cL_law 138 = .ok (.iconst 2, 1) := by decide +kernel
theorem dL_law_139 : decode cL_law 139 = .ok (.iadd, 1) := by decide +kernel
theorem dL_law_140 : decode cL_law 140 = .ok (.iaload, 1) := by decide +kernel
theorem dL_law_141 : decode cL_law 141 = .ok (.aload_n 0, 1) := by decide +kernel
theorem dL_law_142 : decode cL_law 142 = .ok (.iload 4, 2) := by decide +kernel
theorem dL_law_144 : decode cL_law 144 = .ok (.iconst 3, 1) := by decide +kernel
theorem dL_law_145 : decode cL_law 145 = .ok (.iadd, 1) := by decide +kernel
theorem dL_law_146 : decode cL_law 146 = .ok (.iaload, 1) := by decide +kernel
theorem dL_law_147 : decode cL_law 147 = .ok (.aload_n 0, 1) := by decide +kernel
theorem dL_law_148 : decode cL_law 148 = .ok (.iload 4, 2) := by decide +kernel
theorem dL_law_150 : decode cL_law 150 = .ok (.iconst 4, 1) := by decide +kernel
theorem dL_law_151 : decode cL_law 151 = .ok (.iadd, 1) := by decide +kernel
theorem dL_law_152 : decode cL_law 152 = .ok (.iaload, 1) := by decide +kernel
theorem dL_law_153 : decode cL_law 153 = .ok (.aload_n 0, 1) := by decide +kernel
theorem dL_law_154 : decode cL_law 154 = .ok (.iload 4, 2) := by decide +kernel
theorem dL_law_156 : decode cL_law 156 = .ok (.iconst 5, 1) := by decide +kernel
theorem dL_law_157 : decode cL_law 157 = .ok (.iadd, 1) := by decide +kernel
theorem dL_law_158 : decode cL_law 158 = .ok (.iaload, 1) := by decide +kernel
theorem dL_law_159 : decode cL_law 159 = .ok (.invokevirtual 56, 3) := by decide +kernel
theorem dL_law_162 : decode cL_law 162 = .ok (.aload_n 2, 1) := by decide +kernel
theorem dL_law_163 : decode cL_law 163 = .ok (.aload_n 0, 1) := by decide +kernel
theorem dL_law_164 : decode cL_law 164 = .ok (.iload 4, 2) := by decide +kernel
theorem dL_law_166 : decode cL_law 166 = .ok (.iconst 1, 1) := by decide +kernel
theorem dL_law_167 : decode cL_law 167 = .ok (.iadd, 1) := by decide +kernel
theorem dL_law_168 : decode cL_law 168 = .ok (.iaload, 1) := by decide +kernel
theorem dL_law_169 : decode cL_law 169 = .ok (.aload_n 0, 1) := by decide +kernel
theorem dL_law_170 : decode cL_law 170 = .ok (.iload 4, 2) := by decide +kernel
theorem dL_law_172 : decode cL_law 172 = .ok (.iconst 2, 1) := by decide +kernel
theorem dL_law_173 : decode cL_law 173 = .ok (.iadd, 1) := by decide +kernel
theorem dL_law_174 : decode cL_law 174 = .ok (.iaload, 1) := by decide +kernel
theorem dL_law_175 : decode cL_law 175 = .ok (.aload_n 0, 1) := by decide +kernel
theorem dL_law_176 : decode cL_law 176 = .ok (.iload 4, 2) := by decide +kernel
theorem dL_law_178 : decode cL_law 178 = .ok (.iconst 3, 1) := by decide +kernel
theorem dL_law_179 : decode cL_law 179 = .ok (.iadd, 1) := by decide +kernel
theorem dL_law_180 : decode cL_law 180 = .ok (.iaload, 1) := by decide +kernel
theorem dL_law_181 : decode cL_law 181 = .ok (.aload_n 0, 1) := by decide +kernel
theorem dL_law_182 : decode cL_law 182 = .ok (.iload 4, 2) := by decide +kernel
theorem dL_law_184 : decode cL_law 184 = .ok (.iconst 4, 1) := by decide +kernel
theorem dL_law_185 : decode cL_law 185 = .ok (.iadd, 1) := by decide +kernel
theorem dL_law_186 : decode cL_law 186 = .ok (.iaload, 1) := by decide +kernel
theorem dL_law_187 : decode cL_law 187 = .ok (.aload_n 0, 1) := by decide +kernel
theorem dL_law_188 : decode cL_law 188 = .ok (.iload 4, 2) := by decide +kernel
theorem dL_law_190 : decode cL_law 190 = .ok (.iconst 5, 1) := by decide +kernel
theorem dL_law_191 : decode cL_law 191 = .ok (.iadd, 1) := by decide +kernel
theorem dL_law_192 : decode cL_law 192 = .ok (.iaload, 1) := by decide +kernel
theorem dL_law_193 : decode cL_law 193 = .ok (.invokevirtual 60, 3) := by decide +kernel
theorem dL_law_196 : decode cL_law 196 = .ok (.if_icmp .eq 814, 3) := by decide +kernel
theorem dL_law_199 : decode cL_law 199 = .ok (.iconst 0, 1) := by decide +kernel
theorem dL_law_200 : decode cL_law 200 = .ok (.ireturn, 1) := by decide +kernel
theorem dL_law_201 : decode cL_law 201 = .ok (.aload_n 1, 1) := by decide +kernel
theorem dL_law_202 : decode cL_law 202 = .ok (.aload_n 0, 1) := by decide +kernel
theorem dL_law_203 : decode cL_law 203 = .ok (.iload 4, 2) := by decide +kernel
theorem dL_law_205 : decode cL_law 205 = .ok (.iconst 1, 1) := by decide +kernel
theorem dL_law_206 : decode cL_law 206 = .ok (.iadd, 1) := by decide +kernel
theorem dL_law_207 : decode cL_law 207 = .ok (.iaload, 1) := by decide +kernel
theorem dL_law_208 : decode cL_law 208 = .ok (.aload_n 3, 1) := by decide +kernel
theorem dL_law_209 : decode cL_law 209 = .ok (.invokestatic 61, 3) := by decide +kernel
theorem dL_law_212 : decode cL_law 212 = .ok (.istore 5, 2) := by decide +kernel
theorem dL_law_214 : decode cL_law 214 = .ok (.aload_n 2, 1) := by decide +kernel
theorem dL_law_215 : decode cL_law 215 = .ok (.aload_n 0, 1) := by decide +kernel
theorem dL_law_216 : decode cL_law 216 = .ok (.iload 4, 2) := by decide +kernel
theorem dL_law_218 : decode cL_law 218 = .ok (.iconst 1, 1) := by decide +kernel
theorem dL_law_219 : decode cL_law 219 = .ok (.iadd, 1) := by decide +kernel
theorem dL_law_220 : decode cL_law 220 = .ok (.iaload, 1) := by decide +kernel
theorem dL_law_221 : decode cL_law 221 = .ok (.invokevirtual 66, 3) := by decide +kernel
theorem dL_law_224 : decode cL_law 224 = .ok (.istore 6, 2) := by decide +kernel
theorem dL_law_226 : decode cL_law 226 = .ok (.aload_n 2, 1) := by decide +kernel
theorem dL_law_227 : decode cL_law 227 = .ok (.invokevirtual 67, 3) := by decide +kernel
theorem dL_law_230 : decode cL_law 230 = .ok (.iload 5, 2) := by decide +kernel
theorem dL_law_232 : decode cL_law 232 = .ok (.if_icmp .eq 5, 3) := by decide +kernel
theorem dL_law_235 : decode cL_law 235 = .ok (.iconst 0, 1) := by decide +kernel
theorem dL_law_236 : decode cL_law 236 = .ok (.ireturn, 1) := by decide +kernel
theorem dL_law_237 : decode cL_law 237 = .ok (.iload 5, 2) := by decide +kernel
theorem dL_law_239 : decode cL_law 239 = .ok (.ifCond .ne 15, 3) := by decide +kernel
theorem dL_law_242 : decode cL_law 242 = .ok (.aload_n 3, 1) := by decide +kernel
theorem dL_law_243 : decode cL_law 243 = .ok (.iconst 0, 1) := by decide +kernel
theorem dL_law_244 : decode cL_law 244 = .ok (.laload, 1) := by decide +kernel
theorem dL_law_245 : decode cL_law 245 = .ok (.iload 6, 2) := by decide +kernel
theorem dL_law_247 : decode cL_law 247 = .ok (.i2l, 1) := by decide +kernel
theorem dL_law_248 : decode cL_law 248 = .ok (.lcmp, 1) := by decide +kernel
theorem dL_law_249 : decode cL_law 249 = .ok (.ifCond .eq 5, 3) := by decide +kernel
theorem dL_law_252 : decode cL_law 252 = .ok (.iconst 0, 1) := by decide +kernel
theorem dL_law_253 : decode cL_law 253 = .ok (.ireturn, 1) := by decide +kernel
theorem dL_law_254 : decode cL_law 254 = .ok (.goto 756, 3) := by decide +kernel
theorem dL_law_257 : decode cL_law 257 = .ok (.aload_n 1, 1) := by decide +kernel
theorem dL_law_258 : decode cL_law 258 = .ok (.aload_n 0, 1) := by decide +kernel
theorem dL_law_259 : decode cL_law 259 = .ok (.iload 4, 2) := by decide +kernel
theorem dL_law_261 : decode cL_law 261 = .ok (.iconst 1, 1) := by decide +kernel
theorem dL_law_262 : decode cL_law 262 = .ok (.iadd, 1) := by decide +kernel
theorem dL_law_263 : decode cL_law 263 = .ok (.iaload, 1) := by decide +kernel
theorem dL_law_264 : decode cL_law 264 = .ok (.aload_n 3, 1) := by decide +kernel
theorem dL_law_265 : decode cL_law 265 = .ok (.invokestatic 71, 3) := by decide +kernel
theorem dL_law_268 : decode cL_law 268 = .ok (.istore 5, 2) := by decide +kernel
theorem dL_law_270 : decode cL_law 270 = .ok (.aload_n 2, 1) := by decide +kernel
theorem dL_law_271 : decode cL_law 271 = .ok (.aload_n 0, 1) := by decide +kernel
theorem dL_law_272 : decode cL_law 272 = .ok (.iload 4, 2) := by decide +kernel
theorem dL_law_274 : decode cL_law 274 = .ok (.iconst 1, 1) := by decide +kernel
theorem dL_law_275 : decode cL_law 275 = .ok (.iadd, 1) := by decide +kernel
theorem dL_law_276 : decode cL_law 276 = .ok (.iaload, 1) := by decide +kernel
theorem dL_law_277 : decode cL_law 277 = .ok (.invokevirtual 73, 3) := by decide +kernel
theorem dL_law_280 : decode cL_law 280 = .ok (.istore 6, 2) := by decide +kernel
theorem dL_law_282 : decode cL_law 282 = .ok (.aload_n 2, 1) := by decide +kernel
theorem dL_law_283 : decode cL_law 283 = .ok (.invokevirtual 67, 3) := by decide +kernel
theorem dL_law_286 : decode cL_law 286 = .ok (.iload 5, 2) := by decide +kernel
theorem dL_law_288 : decode cL_law 288 = .ok (.if_icmp .eq 5, 3) := by decide +kernel
theorem dL_law_291 : decode cL_law 291 = .ok (.iconst 0, 1) := by decide +kernel
theorem dL_law_292 : decode cL_law 292 = .ok (.ireturn, 1) := by decide +kernel
theorem dL_law_293 : decode cL_law 293 = .ok (.iload 5, 2) := by decide +kernel
theorem dL_law_295 : decode cL_law 295 = .ok (.ifCond .ne 15, 3) := by decide +kernel
theorem dL_law_298 : decode cL_law 298 = .ok (.aload_n 3, 1) := by decide +kernel
theorem dL_law_299 : decode cL_law 299 = .ok (.iconst 0, 1) := by decide +kernel
theorem dL_law_300 : decode cL_law 300 = .ok (.laload, 1) := by decide +kernel
theorem dL_law_301 : decode cL_law 301 = .ok (.iload 6, 2) := by decide +kernel
theorem dL_law_303 : decode cL_law 303 = .ok (.i2l, 1) := by decide +kernel
theorem dL_law_304 : decode cL_law 304 = .ok (.lcmp, 1) := by decide +kernel
theorem dL_law_305 : decode cL_law 305 = .ok (.ifCond .eq 5, 3) := by decide +kernel
theorem dL_law_308 : decode cL_law 308 = .ok (.iconst 0, 1) := by decide +kernel
theorem dL_law_309 : decode cL_law 309 = .ok (.ireturn, 1) := by decide +kernel
theorem dL_law_310 : decode cL_law 310 = .ok (.goto 700, 3) := by decide +kernel
theorem dL_law_313 : decode cL_law 313 = .ok (.aload_n 1, 1) := by decide +kernel
theorem dL_law_314 : decode cL_law 314 = .ok (.aload_n 0, 1) := by decide +kernel
theorem dL_law_315 : decode cL_law 315 = .ok (.iload 4, 2) := by decide +kernel
theorem dL_law_317 : decode cL_law 317 = .ok (.iconst 1, 1) := by decide +kernel
theorem dL_law_318 : decode cL_law 318 = .ok (.iadd, 1) := by decide +kernel
theorem dL_law_319 : decode cL_law 319 = .ok (.iaload, 1) := by decide +kernel
theorem dL_law_320 : decode cL_law 320 = .ok (.aload_n 3, 1) := by decide +kernel
theorem dL_law_321 : decode cL_law 321 = .ok (.invokestatic 74, 3) := by decide +kernel
theorem dL_law_324 : decode cL_law 324 = .ok (.istore 5, 2) := by decide +kernel
theorem dL_law_326 : decode cL_law 326 = .ok (.aload_n 2, 1) := by decide +kernel
theorem dL_law_327 : decode cL_law 327 = .ok (.aload_n 0, 1) := by decide +kernel
theorem dL_law_328 : decode cL_law 328 = .ok (.iload 4, 2) := by decide +kernel
theorem dL_law_330 : decode cL_law 330 = .ok (.iconst 1, 1) := by decide +kernel
theorem dL_law_331 : decode cL_law 331 = .ok (.iadd, 1) := by decide +kernel
theorem dL_law_332 : decode cL_law 332 = .ok (.iaload, 1) := by decide +kernel
theorem dL_law_333 : decode cL_law 333 = .ok (.invokevirtual 76, 3) := by decide +kernel
theorem dL_law_336 : decode cL_law 336 = .ok (.istore 6, 2) := by decide +kernel
theorem dL_law_338 : decode cL_law 338 = .ok (.aload_n 2, 1) := by decide +kernel
theorem dL_law_339 : decode cL_law 339 = .ok (.invokevirtual 67, 3) := by decide +kernel
theorem dL_law_342 : decode cL_law 342 = .ok (.iload 5, 2) := by decide +kernel
theorem dL_law_344 : decode cL_law 344 = .ok (.if_icmp .eq 5, 3) := by decide +kernel
theorem dL_law_347 : decode cL_law 347 = .ok (.iconst 0, 1) := by decide +kernel
theorem dL_law_348 : decode cL_law 348 = .ok (.ireturn, 1) := by decide +kernel
theorem dL_law_349 : decode cL_law 349 = .ok (.iload 5, 2) := by decide +kernel
theorem dL_law_351 : decode cL_law 351 = .ok (.ifCond .ne 15, 3) := by decide +kernel
theorem dL_law_354 : decode cL_law 354 = .ok (.aload_n 3, 1) := by decide +kernel
theorem dL_law_355 : decode cL_law 355 = .ok (.iconst 0, 1) := by decide +kernel
theorem dL_law_356 : decode cL_law 356 = .ok (.laload, 1) := by decide +kernel
theorem dL_law_357 : decode cL_law 357 = .ok (.iload 6, 2) := by decide +kernel
theorem dL_law_359 : decode cL_law 359 = .ok (.i2l, 1) := by decide +kernel
theorem dL_law_360 : decode cL_law 360 = .ok (.lcmp, 1) := by decide +kernel
theorem dL_law_361 : decode cL_law 361 = .ok (.ifCond .eq 5, 3) := by decide +kernel
theorem dL_law_364 : decode cL_law 364 = .ok (.iconst 0, 1) := by decide +kernel
theorem dL_law_365 : decode cL_law 365 = .ok (.ireturn, 1) := by decide +kernel
theorem dL_law_366 : decode cL_law 366 = .ok (.goto 644, 3) := by decide +kernel
theorem dL_law_369 : decode cL_law 369 = .ok (.aload_n 1, 1) := by decide +kernel
theorem dL_law_370 : decode cL_law 370 = .ok (.aload_n 0, 1) := by decide +kernel
theorem dL_law_371 : decode cL_law 371 = .ok (.iload 4, 2) := by decide +kernel
theorem dL_law_373 : decode cL_law 373 = .ok (.iconst 1, 1) := by decide +kernel
theorem dL_law_374 : decode cL_law 374 = .ok (.iadd, 1) := by decide +kernel
theorem dL_law_375 : decode cL_law 375 = .ok (.iaload, 1) := by decide +kernel
theorem dL_law_376 : decode cL_law 376 = .ok (.aload_n 3, 1) := by decide +kernel
theorem dL_law_377 : decode cL_law 377 = .ok (.invokestatic 77, 3) := by decide +kernel
theorem dL_law_380 : decode cL_law 380 = .ok (.istore 5, 2) := by decide +kernel
theorem dL_law_382 : decode cL_law 382 = .ok (.aload_n 2, 1) := by decide +kernel
theorem dL_law_383 : decode cL_law 383 = .ok (.aload_n 0, 1) := by decide +kernel
theorem dL_law_384 : decode cL_law 384 = .ok (.iload 4, 2) := by decide +kernel
theorem dL_law_386 : decode cL_law 386 = .ok (.iconst 1, 1) := by decide +kernel
theorem dL_law_387 : decode cL_law 387 = .ok (.iadd, 1) := by decide +kernel
theorem dL_law_388 : decode cL_law 388 = .ok (.iaload, 1) := by decide +kernel
theorem dL_law_389 : decode cL_law 389 = .ok (.invokevirtual 79, 3) := by decide +kernel
theorem dL_law_392 : decode cL_law 392 = .ok (.istore 6, 2) := by decide +kernel
theorem dL_law_394 : decode cL_law 394 = .ok (.aload_n 2, 1) := by decide +kernel
theorem dL_law_395 : decode cL_law 395 = .ok (.invokevirtual 67, 3) := by decide +kernel
theorem dL_law_398 : decode cL_law 398 = .ok (.iload 5, 2) := by decide +kernel
theorem dL_law_400 : decode cL_law 400 = .ok (.if_icmp .eq 5, 3) := by decide +kernel
theorem dL_law_403 : decode cL_law 403 = .ok (.iconst 0, 1) := by decide +kernel
theorem dL_law_404 : decode cL_law 404 = .ok (.ireturn, 1) := by decide +kernel
theorem dL_law_405 : decode cL_law 405 = .ok (.iload 5, 2) := by decide +kernel
theorem dL_law_407 : decode cL_law 407 = .ok (.ifCond .ne 15, 3) := by decide +kernel
theorem dL_law_410 : decode cL_law 410 = .ok (.aload_n 3, 1) := by decide +kernel
theorem dL_law_411 : decode cL_law 411 = .ok (.iconst 0, 1) := by decide +kernel
theorem dL_law_412 : decode cL_law 412 = .ok (.laload, 1) := by decide +kernel
theorem dL_law_413 : decode cL_law 413 = .ok (.iload 6, 2) := by decide +kernel
theorem dL_law_415 : decode cL_law 415 = .ok (.i2l, 1) := by decide +kernel
theorem dL_law_416 : decode cL_law 416 = .ok (.lcmp, 1) := by decide +kernel
theorem dL_law_417 : decode cL_law 417 = .ok (.ifCond .eq 5, 3) := by decide +kernel
theorem dL_law_420 : decode cL_law 420 = .ok (.iconst 0, 1) := by decide +kernel
theorem dL_law_421 : decode cL_law 421 = .ok (.ireturn, 1) := by decide +kernel
theorem dL_law_422 : decode cL_law 422 = .ok (.goto 588, 3) := by decide +kernel
theorem dL_law_425 : decode cL_law 425 = .ok (.aload_n 1, 1) := by decide +kernel
theorem dL_law_426 : decode cL_law 426 = .ok (.aload_n 0, 1) := by decide +kernel
theorem dL_law_427 : decode cL_law 427 = .ok (.iload 4, 2) := by decide +kernel
theorem dL_law_429 : decode cL_law 429 = .ok (.iconst 1, 1) := by decide +kernel
theorem dL_law_430 : decode cL_law 430 = .ok (.iadd, 1) := by decide +kernel
theorem dL_law_431 : decode cL_law 431 = .ok (.iaload, 1) := by decide +kernel
theorem dL_law_432 : decode cL_law 432 = .ok (.aload_n 0, 1) := by decide +kernel
theorem dL_law_433 : decode cL_law 433 = .ok (.iload 4, 2) := by decide +kernel
theorem dL_law_435 : decode cL_law 435 = .ok (.iconst 2, 1) := by decide +kernel
theorem dL_law_436 : decode cL_law 436 = .ok (.iadd, 1) := by decide +kernel
theorem dL_law_437 : decode cL_law 437 = .ok (.iaload, 1) := by decide +kernel
theorem dL_law_438 : decode cL_law 438 = .ok (.aload_n 3, 1) := by decide +kernel
theorem dL_law_439 : decode cL_law 439 = .ok (.invokestatic 80, 3) := by decide +kernel
theorem dL_law_442 : decode cL_law 442 = .ok (.istore 5, 2) := by decide +kernel
theorem dL_law_444 : decode cL_law 444 = .ok (.aload_n 2, 1) := by decide +kernel
theorem dL_law_445 : decode cL_law 445 = .ok (.aload_n 0, 1) := by decide +kernel
theorem dL_law_446 : decode cL_law 446 = .ok (.iload 4, 2) := by decide +kernel
theorem dL_law_448 : decode cL_law 448 = .ok (.iconst 1, 1) := by decide +kernel
theorem dL_law_449 : decode cL_law 449 = .ok (.iadd, 1) := by decide +kernel
theorem dL_law_450 : decode cL_law 450 = .ok (.iaload, 1) := by decide +kernel
theorem dL_law_451 : decode cL_law 451 = .ok (.aload_n 0, 1) := by decide +kernel
theorem dL_law_452 : decode cL_law 452 = .ok (.iload 4, 2) := by decide +kernel
theorem dL_law_454 : decode cL_law 454 = .ok (.iconst 2, 1) := by decide +kernel
theorem dL_law_455 : decode cL_law 455 = .ok (.iadd, 1) := by decide +kernel
theorem dL_law_456 : decode cL_law 456 = .ok (.iaload, 1) := by decide +kernel
theorem dL_law_457 : decode cL_law 457 = .ok (.invokevirtual 83, 3) := by decide +kernel
theorem dL_law_460 : decode cL_law 460 = .ok (.istore 6, 2) := by decide +kernel
theorem dL_law_462 : decode cL_law 462 = .ok (.aload_n 2, 1) := by decide +kernel
theorem dL_law_463 : decode cL_law 463 = .ok (.invokevirtual 67, 3) := by decide +kernel
theorem dL_law_466 : decode cL_law 466 = .ok (.iload 5, 2) := by decide +kernel
theorem dL_law_468 : decode cL_law 468 = .ok (.if_icmp .eq 5, 3) := by decide +kernel
theorem dL_law_471 : decode cL_law 471 = .ok (.iconst 0, 1) := by decide +kernel
theorem dL_law_472 : decode cL_law 472 = .ok (.ireturn, 1) := by decide +kernel
theorem dL_law_473 : decode cL_law 473 = .ok (.iload 5, 2) := by decide +kernel
theorem dL_law_475 : decode cL_law 475 = .ok (.ifCond .ne 15, 3) := by decide +kernel
theorem dL_law_478 : decode cL_law 478 = .ok (.aload_n 3, 1) := by decide +kernel
theorem dL_law_479 : decode cL_law 479 = .ok (.iconst 0, 1) := by decide +kernel
theorem dL_law_480 : decode cL_law 480 = .ok (.laload, 1) := by decide +kernel
theorem dL_law_481 : decode cL_law 481 = .ok (.iload 6, 2) := by decide +kernel
theorem dL_law_483 : decode cL_law 483 = .ok (.i2l, 1) := by decide +kernel
theorem dL_law_484 : decode cL_law 484 = .ok (.lcmp, 1) := by decide +kernel
theorem dL_law_485 : decode cL_law 485 = .ok (.ifCond .eq 5, 3) := by decide +kernel
theorem dL_law_488 : decode cL_law 488 = .ok (.iconst 0, 1) := by decide +kernel
theorem dL_law_489 : decode cL_law 489 = .ok (.ireturn, 1) := by decide +kernel
theorem dL_law_490 : decode cL_law 490 = .ok (.goto 520, 3) := by decide +kernel
theorem dL_law_493 : decode cL_law 493 = .ok (.aload_n 1, 1) := by decide +kernel
theorem dL_law_494 : decode cL_law 494 = .ok (.aload_n 0, 1) := by decide +kernel
theorem dL_law_495 : decode cL_law 495 = .ok (.iload 4, 2) := by decide +kernel
theorem dL_law_497 : decode cL_law 497 = .ok (.iconst 1, 1) := by decide +kernel
theorem dL_law_498 : decode cL_law 498 = .ok (.iadd, 1) := by decide +kernel
theorem dL_law_499 : decode cL_law 499 = .ok (.iaload, 1) := by decide +kernel
theorem dL_law_500 : decode cL_law 500 = .ok (.aload_n 3, 1) := by decide +kernel
theorem dL_law_501 : decode cL_law 501 = .ok (.invokestatic 84, 3) := by decide +kernel
theorem dL_law_504 : decode cL_law 504 = .ok (.istore 5, 2) := by decide +kernel
theorem dL_law_506 : decode cL_law 506 = .ok (.aload_n 2, 1) := by decide +kernel
theorem dL_law_507 : decode cL_law 507 = .ok (.aload_n 0, 1) := by decide +kernel
theorem dL_law_508 : decode cL_law 508 = .ok (.iload 4, 2) := by decide +kernel
theorem dL_law_510 : decode cL_law 510 = .ok (.iconst 1, 1) := by decide +kernel
theorem dL_law_511 : decode cL_law 511 = .ok (.iadd, 1) := by decide +kernel
theorem dL_law_512 : decode cL_law 512 = .ok (.iaload, 1) := by decide +kernel
theorem dL_law_513 : decode cL_law 513 = .ok (.invokevirtual 86, 3) := by decide +kernel
theorem dL_law_516 : decode cL_law 516 = .ok (.istore 6, 2) := by decide +kernel
theorem dL_law_518 : decode cL_law 518 = .ok (.aload_n 2, 1) := by decide +kernel
theorem dL_law_519 : decode cL_law 519 = .ok (.invokevirtual 67, 3) := by decide +kernel
theorem dL_law_522 : decode cL_law 522 = .ok (.iload 5, 2) := by decide +kernel
theorem dL_law_524 : decode cL_law 524 = .ok (.if_icmp .eq 5, 3) := by decide +kernel
theorem dL_law_527 : decode cL_law 527 = .ok (.iconst 0, 1) := by decide +kernel
theorem dL_law_528 : decode cL_law 528 = .ok (.ireturn, 1) := by decide +kernel
theorem dL_law_529 : decode cL_law 529 = .ok (.iload 5, 2) := by decide +kernel
theorem dL_law_531 : decode cL_law 531 = .ok (.ifCond .ne 15, 3) := by decide +kernel
theorem dL_law_534 : decode cL_law 534 = .ok (.aload_n 3, 1) := by decide +kernel
theorem dL_law_535 : decode cL_law 535 = .ok (.iconst 0, 1) := by decide +kernel
theorem dL_law_536 : decode cL_law 536 = .ok (.laload, 1) := by decide +kernel
theorem dL_law_537 : decode cL_law 537 = .ok (.iload 6, 2) := by decide +kernel
theorem dL_law_539 : decode cL_law 539 = .ok (.i2l, 1) := by decide +kernel
theorem dL_law_540 : decode cL_law 540 = .ok (.lcmp, 1) := by decide +kernel
theorem dL_law_541 : decode cL_law 541 = .ok (.ifCond .eq 5, 3) := by decide +kernel
theorem dL_law_544 : decode cL_law 544 = .ok (.iconst 0, 1) := by decide +kernel
theorem dL_law_545 : decode cL_law 545 = .ok (.ireturn, 1) := by decide +kernel
theorem dL_law_546 : decode cL_law 546 = .ok (.goto 464, 3) := by decide +kernel
theorem dL_law_549 : decode cL_law 549 = .ok (.aload_n 1, 1) := by decide +kernel
theorem dL_law_550 : decode cL_law 550 = .ok (.invokevirtual 87, 3) := by decide +kernel
theorem dL_law_553 : decode cL_law 553 = .ok (.aload_n 2, 1) := by decide +kernel
theorem dL_law_554 : decode cL_law 554 = .ok (.invokevirtual 90, 3) := by decide +kernel
theorem dL_law_557 : decode cL_law 557 = .ok (.if_icmp .eq 453, 3) := by decide +kernel
theorem dL_law_560 : decode cL_law 560 = .ok (.iconst 0, 1) := by decide +kernel
theorem dL_law_561 : decode cL_law 561 = .ok (.ireturn, 1) := by decide +kernel
theorem dL_law_562 : decode cL_law 562 = .ok (.aload_n 1, 1) := by decide +kernel
theorem dL_law_563 : decode cL_law 563 = .ok (.aload_n 0, 1) := by decide +kernel
theorem dL_law_564 : decode cL_law 564 = .ok (.iload 4, 2) := by decide +kernel
theorem dL_law_566 : decode cL_law 566 = .ok (.iconst 1, 1) := by decide +kernel
theorem dL_law_567 : decode cL_law 567 = .ok (.iadd, 1) := by decide +kernel
theorem dL_law_568 : decode cL_law 568 = .ok (.iaload, 1) := by decide +kernel
theorem dL_law_569 : decode cL_law 569 = .ok (.aload_n 3, 1) := by decide +kernel
theorem dL_law_570 : decode cL_law 570 = .ok (.invokestatic 91, 3) := by decide +kernel
theorem dL_law_573 : decode cL_law 573 = .ok (.istore 5, 2) := by decide +kernel
theorem dL_law_575 : decode cL_law 575 = .ok (.aload_n 2, 1) := by decide +kernel
theorem dL_law_576 : decode cL_law 576 = .ok (.aload_n 0, 1) := by decide +kernel
theorem dL_law_577 : decode cL_law 577 = .ok (.iload 4, 2) := by decide +kernel
theorem dL_law_579 : decode cL_law 579 = .ok (.iconst 1, 1) := by decide +kernel
theorem dL_law_580 : decode cL_law 580 = .ok (.iadd, 1) := by decide +kernel
theorem dL_law_581 : decode cL_law 581 = .ok (.iaload, 1) := by decide +kernel
theorem dL_law_582 : decode cL_law 582 = .ok (.invokevirtual 93, 3) := by decide +kernel
theorem dL_law_585 : decode cL_law 585 = .ok (.istore 6, 2) := by decide +kernel
theorem dL_law_587 : decode cL_law 587 = .ok (.aload_n 2, 1) := by decide +kernel
theorem dL_law_588 : decode cL_law 588 = .ok (.invokevirtual 67, 3) := by decide +kernel
theorem dL_law_591 : decode cL_law 591 = .ok (.iload 5, 2) := by decide +kernel
theorem dL_law_593 : decode cL_law 593 = .ok (.if_icmp .eq 5, 3) := by decide +kernel
theorem dL_law_596 : decode cL_law 596 = .ok (.iconst 0, 1) := by decide +kernel
theorem dL_law_597 : decode cL_law 597 = .ok (.ireturn, 1) := by decide +kernel
theorem dL_law_598 : decode cL_law 598 = .ok (.iload 5, 2) := by decide +kernel
theorem dL_law_600 : decode cL_law 600 = .ok (.ifCond .ne 15, 3) := by decide +kernel
theorem dL_law_603 : decode cL_law 603 = .ok (.aload_n 3, 1) := by decide +kernel
theorem dL_law_604 : decode cL_law 604 = .ok (.iconst 0, 1) := by decide +kernel
theorem dL_law_605 : decode cL_law 605 = .ok (.laload, 1) := by decide +kernel
theorem dL_law_606 : decode cL_law 606 = .ok (.iload 6, 2) := by decide +kernel
theorem dL_law_608 : decode cL_law 608 = .ok (.i2l, 1) := by decide +kernel
theorem dL_law_609 : decode cL_law 609 = .ok (.lcmp, 1) := by decide +kernel
theorem dL_law_610 : decode cL_law 610 = .ok (.ifCond .eq 5, 3) := by decide +kernel
theorem dL_law_613 : decode cL_law 613 = .ok (.iconst 0, 1) := by decide +kernel
theorem dL_law_614 : decode cL_law 614 = .ok (.ireturn, 1) := by decide +kernel
theorem dL_law_615 : decode cL_law 615 = .ok (.goto 395, 3) := by decide +kernel
theorem dL_law_618 : decode cL_law 618 = .ok (.aload_n 1, 1) := by decide +kernel
theorem dL_law_619 : decode cL_law 619 = .ok (.aload_n 0, 1) := by decide +kernel
theorem dL_law_620 : decode cL_law 620 = .ok (.iload 4, 2) := by decide +kernel
theorem dL_law_622 : decode cL_law 622 = .ok (.iconst 1, 1) := by decide +kernel
theorem dL_law_623 : decode cL_law 623 = .ok (.iadd, 1) := by decide +kernel
theorem dL_law_624 : decode cL_law 624 = .ok (.iaload, 1) := by decide +kernel
theorem dL_law_625 : decode cL_law 625 = .ok (.aload_n 3, 1) := by decide +kernel
theorem dL_law_626 : decode cL_law 626 = .ok (.invokestatic 94, 3) := by decide +kernel
theorem dL_law_629 : decode cL_law 629 = .ok (.istore 5, 2) := by decide +kernel
theorem dL_law_631 : decode cL_law 631 = .ok (.aload_n 2, 1) := by decide +kernel
theorem dL_law_632 : decode cL_law 632 = .ok (.aload_n 0, 1) := by decide +kernel
theorem dL_law_633 : decode cL_law 633 = .ok (.iload 4, 2) := by decide +kernel
theorem dL_law_635 : decode cL_law 635 = .ok (.iconst 1, 1) := by decide +kernel
theorem dL_law_636 : decode cL_law 636 = .ok (.iadd, 1) := by decide +kernel
theorem dL_law_637 : decode cL_law 637 = .ok (.iaload, 1) := by decide +kernel
theorem dL_law_638 : decode cL_law 638 = .ok (.invokevirtual 96, 3) := by decide +kernel
theorem dL_law_641 : decode cL_law 641 = .ok (.istore 6, 2) := by decide +kernel
theorem dL_law_643 : decode cL_law 643 = .ok (.aload_n 2, 1) := by decide +kernel
theorem dL_law_644 : decode cL_law 644 = .ok (.invokevirtual 67, 3) := by decide +kernel
theorem dL_law_647 : decode cL_law 647 = .ok (.iload 5, 2) := by decide +kernel
theorem dL_law_649 : decode cL_law 649 = .ok (.if_icmp .eq 5, 3) := by decide +kernel
theorem dL_law_652 : decode cL_law 652 = .ok (.iconst 0, 1) := by decide +kernel
theorem dL_law_653 : decode cL_law 653 = .ok (.ireturn, 1) := by decide +kernel
theorem dL_law_654 : decode cL_law 654 = .ok (.iload 5, 2) := by decide +kernel
theorem dL_law_656 : decode cL_law 656 = .ok (.ifCond .ne 15, 3) := by decide +kernel
theorem dL_law_659 : decode cL_law 659 = .ok (.aload_n 3, 1) := by decide +kernel
theorem dL_law_660 : decode cL_law 660 = .ok (.iconst 0, 1) := by decide +kernel
theorem dL_law_661 : decode cL_law 661 = .ok (.laload, 1) := by decide +kernel
theorem dL_law_662 : decode cL_law 662 = .ok (.iload 6, 2) := by decide +kernel
theorem dL_law_664 : decode cL_law 664 = .ok (.i2l, 1) := by decide +kernel
theorem dL_law_665 : decode cL_law 665 = .ok (.lcmp, 1) := by decide +kernel
theorem dL_law_666 : decode cL_law 666 = .ok (.ifCond .eq 5, 3) := by decide +kernel
theorem dL_law_669 : decode cL_law 669 = .ok (.iconst 0, 1) := by decide +kernel
theorem dL_law_670 : decode cL_law 670 = .ok (.ireturn, 1) := by decide +kernel
theorem dL_law_671 : decode cL_law 671 = .ok (.goto 339, 3) := by decide +kernel
theorem dL_law_674 : decode cL_law 674 = .ok (.aload_n 1, 1) := by decide +kernel
theorem dL_law_675 : decode cL_law 675 = .ok (.invokevirtual 97, 3) := by decide +kernel
theorem dL_law_678 : decode cL_law 678 = .ok (.aload_n 2, 1) := by decide +kernel
theorem dL_law_679 : decode cL_law 679 = .ok (.invokevirtual 100, 3) := by decide +kernel
theorem dL_law_682 : decode cL_law 682 = .ok (.if_icmp .eq 328, 3) := by decide +kernel
theorem dL_law_685 : decode cL_law 685 = .ok (.iconst 0, 1) := by decide +kernel
theorem dL_law_686 : decode cL_law 686 = .ok (.ireturn, 1) := by decide +kernel
theorem dL_law_687 : decode cL_law 687 = .ok (.aload_n 1, 1) := by decide +kernel
theorem dL_law_688 : decode cL_law 688 = .ok (.aload_n 0, 1) := by decide +kernel
theorem dL_law_689 : decode cL_law 689 = .ok (.iload 4, 2) := by decide +kernel
theorem dL_law_691 : decode cL_law 691 = .ok (.iconst 1, 1) := by decide +kernel
theorem dL_law_692 : decode cL_law 692 = .ok (.iadd, 1) := by decide +kernel
theorem dL_law_693 : decode cL_law 693 = .ok (.iaload, 1) := by decide +kernel
theorem dL_law_694 : decode cL_law 694 = .ok (.aload_n 0, 1) := by decide +kernel
theorem dL_law_695 : decode cL_law 695 = .ok (.iload 4, 2) := by decide +kernel
theorem dL_law_697 : decode cL_law 697 = .ok (.iconst 2, 1) := by decide +kernel
theorem dL_law_698 : decode cL_law 698 = .ok (.iadd, 1) := by decide +kernel
theorem dL_law_699 : decode cL_law 699 = .ok (.iaload, 1) := by decide +kernel
theorem dL_law_700 : decode cL_law 700 = .ok (.aload_n 3, 1) := by decide +kernel
theorem dL_law_701 : decode cL_law 701 = .ok (.invokestatic 101, 3) := by decide +kernel
theorem dL_law_704 : decode cL_law 704 = .ok (.istore 5, 2) := by decide +kernel
theorem dL_law_706 : decode cL_law 706 = .ok (.aload_n 2, 1) := by decide +kernel
theorem dL_law_707 : decode cL_law 707 = .ok (.aload_n 0, 1) := by decide +kernel
theorem dL_law_708 : decode cL_law 708 = .ok (.iload 4, 2) := by decide +kernel
theorem dL_law_710 : decode cL_law 710 = .ok (.iconst 1, 1) := by decide +kernel
theorem dL_law_711 : decode cL_law 711 = .ok (.iadd, 1) := by decide +kernel
theorem dL_law_712 : decode cL_law 712 = .ok (.iaload, 1) := by decide +kernel
theorem dL_law_713 : decode cL_law 713 = .ok (.aload_n 0, 1) := by decide +kernel
theorem dL_law_714 : decode cL_law 714 = .ok (.iload 4, 2) := by decide +kernel
theorem dL_law_716 : decode cL_law 716 = .ok (.iconst 2, 1) := by decide +kernel
theorem dL_law_717 : decode cL_law 717 = .ok (.iadd, 1) := by decide +kernel
theorem dL_law_718 : decode cL_law 718 = .ok (.iaload, 1) := by decide +kernel
theorem dL_law_719 : decode cL_law 719 = .ok (.invokevirtual 103, 3) := by decide +kernel
theorem dL_law_722 : decode cL_law 722 = .ok (.istore 6, 2) := by decide +kernel
theorem dL_law_724 : decode cL_law 724 = .ok (.aload_n 2, 1) := by decide +kernel
theorem dL_law_725 : decode cL_law 725 = .ok (.invokevirtual 67, 3) := by decide +kernel
theorem dL_law_728 : decode cL_law 728 = .ok (.iload 5, 2) := by decide +kernel
theorem dL_law_730 : decode cL_law 730 = .ok (.if_icmp .eq 5, 3) := by decide +kernel
theorem dL_law_733 : decode cL_law 733 = .ok (.iconst 0, 1) := by decide +kernel
theorem dL_law_734 : decode cL_law 734 = .ok (.ireturn, 1) := by decide +kernel
theorem dL_law_735 : decode cL_law 735 = .ok (.iload 5, 2) := by decide +kernel
theorem dL_law_737 : decode cL_law 737 = .ok (.ifCond .ne 15, 3) := by decide +kernel
theorem dL_law_740 : decode cL_law 740 = .ok (.aload_n 3, 1) := by decide +kernel
theorem dL_law_741 : decode cL_law 741 = .ok (.iconst 0, 1) := by decide +kernel
theorem dL_law_742 : decode cL_law 742 = .ok (.laload, 1) := by decide +kernel
theorem dL_law_743 : decode cL_law 743 = .ok (.iload 6, 2) := by decide +kernel
theorem dL_law_745 : decode cL_law 745 = .ok (.i2l, 1) := by decide +kernel
theorem dL_law_746 : decode cL_law 746 = .ok (.lcmp, 1) := by decide +kernel
theorem dL_law_747 : decode cL_law 747 = .ok (.ifCond .eq 5, 3) := by decide +kernel
theorem dL_law_750 : decode cL_law 750 = .ok (.iconst 0, 1) := by decide +kernel
theorem dL_law_751 : decode cL_law 751 = .ok (.ireturn, 1) := by decide +kernel
theorem dL_law_752 : decode cL_law 752 = .ok (.goto 258, 3) := by decide +kernel
theorem dL_law_755 : decode cL_law 755 = .ok (.aload_n 1, 1) := by decide +kernel
theorem dL_law_756 : decode cL_law 756 = .ok (.aload_n 0, 1) := by decide +kernel
theorem dL_law_757 : decode cL_law 757 = .ok (.iload 4, 2) := by decide +kernel
theorem dL_law_759 : decode cL_law 759 = .ok (.iconst 1, 1) := by decide +kernel
theorem dL_law_760 : decode cL_law 760 = .ok (.iadd, 1) := by decide +kernel
theorem dL_law_761 : decode cL_law 761 = .ok (.iaload, 1) := by decide +kernel
theorem dL_law_762 : decode cL_law 762 = .ok (.aload_n 0, 1) := by decide +kernel
theorem dL_law_763 : decode cL_law 763 = .ok (.iload 4, 2) := by decide +kernel
theorem dL_law_765 : decode cL_law 765 = .ok (.iconst 2, 1) := by decide +kernel
theorem dL_law_766 : decode cL_law 766 = .ok (.iadd, 1) := by decide +kernel
theorem dL_law_767 : decode cL_law 767 = .ok (.iaload, 1) := by decide +kernel
theorem dL_law_768 : decode cL_law 768 = .ok (.aload_n 0, 1) := by decide +kernel
theorem dL_law_769 : decode cL_law 769 = .ok (.iload 4, 2) := by decide +kernel
theorem dL_law_771 : decode cL_law 771 = .ok (.iconst 3, 1) := by decide +kernel
theorem dL_law_772 : decode cL_law 772 = .ok (.iadd, 1) := by decide +kernel
theorem dL_law_773 : decode cL_law 773 = .ok (.iaload, 1) := by decide +kernel
theorem dL_law_774 : decode cL_law 774 = .ok (.aload_n 0, 1) := by decide +kernel
theorem dL_law_775 : decode cL_law 775 = .ok (.iload 4, 2) := by decide +kernel
theorem dL_law_777 : decode cL_law 777 = .ok (.iconst 4, 1) := by decide +kernel
theorem dL_law_778 : decode cL_law 778 = .ok (.iadd, 1) := by decide +kernel
theorem dL_law_779 : decode cL_law 779 = .ok (.iaload, 1) := by decide +kernel
theorem dL_law_780 : decode cL_law 780 = .ok (.aload_n 3, 1) := by decide +kernel
theorem dL_law_781 : decode cL_law 781 = .ok (.invokestatic 104, 3) := by decide +kernel
theorem dL_law_784 : decode cL_law 784 = .ok (.istore 5, 2) := by decide +kernel
theorem dL_law_786 : decode cL_law 786 = .ok (.aload_n 2, 1) := by decide +kernel
theorem dL_law_787 : decode cL_law 787 = .ok (.aload_n 0, 1) := by decide +kernel
theorem dL_law_788 : decode cL_law 788 = .ok (.iload 4, 2) := by decide +kernel
theorem dL_law_790 : decode cL_law 790 = .ok (.iconst 1, 1) := by decide +kernel
theorem dL_law_791 : decode cL_law 791 = .ok (.iadd, 1) := by decide +kernel
theorem dL_law_792 : decode cL_law 792 = .ok (.iaload, 1) := by decide +kernel
theorem dL_law_793 : decode cL_law 793 = .ok (.aload_n 0, 1) := by decide +kernel
theorem dL_law_794 : decode cL_law 794 = .ok (.iload 4, 2) := by decide +kernel
theorem dL_law_796 : decode cL_law 796 = .ok (.iconst 2, 1) := by decide +kernel
theorem dL_law_797 : decode cL_law 797 = .ok (.iadd, 1) := by decide +kernel
theorem dL_law_798 : decode cL_law 798 = .ok (.iaload, 1) := by decide +kernel
theorem dL_law_799 : decode cL_law 799 = .ok (.aload_n 0, 1) := by decide +kernel
theorem dL_law_800 : decode cL_law 800 = .ok (.iload 4, 2) := by decide +kernel
theorem dL_law_802 : decode cL_law 802 = .ok (.iconst 3, 1) := by decide +kernel
theorem dL_law_803 : decode cL_law 803 = .ok (.iadd, 1) := by decide +kernel
theorem dL_law_804 : decode cL_law 804 = .ok (.iaload, 1) := by decide +kernel
theorem dL_law_805 : decode cL_law 805 = .ok (.aload_n 0, 1) := by decide +kernel
theorem dL_law_806 : decode cL_law 806 = .ok (.iload 4, 2) := by decide +kernel
theorem dL_law_808 : decode cL_law 808 = .ok (.iconst 4, 1) := by decide +kernel
theorem dL_law_809 : decode cL_law 809 = .ok (.iadd, 1) := by decide +kernel
theorem dL_law_810 : decode cL_law 810 = .ok (.iaload, 1) := by decide +kernel
theorem dL_law_811 : decode cL_law 811 = .ok (.invokevirtual 107, 3) := by decide +kernel
theorem dL_law_814 : decode cL_law 814 = .ok (.istore 6, 2) := by decide +kernel
theorem dL_law_816 : decode cL_law 816 = .ok (.aload_n 2, 1) := by decide +kernel
theorem dL_law_817 : decode cL_law 817 = .ok (.invokevirtual 67, 3) := by decide +kernel
theorem dL_law_820 : decode cL_law 820 = .ok (.iload 5, 2) := by decide +kernel
theorem dL_law_822 : decode cL_law 822 = .ok (.if_icmp .eq 5, 3) := by decide +kernel
theorem dL_law_825 : decode cL_law 825 = .ok (.iconst 0, 1) := by decide +kernel
theorem dL_law_826 : decode cL_law 826 = .ok (.ireturn, 1) := by decide +kernel
theorem dL_law_827 : decode cL_law 827 = .ok (.iload 5, 2) := by decide +kernel
theorem dL_law_829 : decode cL_law 829 = .ok (.ifCond .ne 15, 3) := by decide +kernel
theorem dL_law_832 : decode cL_law 832 = .ok (.aload_n 3, 1) := by decide +kernel
theorem dL_law_833 : decode cL_law 833 = .ok (.iconst 0, 1) := by decide +kernel
theorem dL_law_834 : decode cL_law 834 = .ok (.laload, 1) := by decide +kernel
theorem dL_law_835 : decode cL_law 835 = .ok (.iload 6, 2) := by decide +kernel
theorem dL_law_837 : decode cL_law 837 = .ok (.i2l, 1) := by decide +kernel
theorem dL_law_838 : decode cL_law 838 = .ok (.lcmp, 1) := by decide +kernel
theorem dL_law_839 : decode cL_law 839 = .ok (.ifCond .eq 5, 3) := by decide +kernel
theorem dL_law_842 : decode cL_law 842 = .ok (.iconst 0, 1) := by decide +kernel
theorem dL_law_843 : decode cL_law 843 = .ok (.ireturn, 1) := by decide +kernel
theorem dL_law_844 : decode cL_law 844 = .ok (.goto 166, 3) := by decide +kernel
theorem dL_law_847 : decode cL_law 847 = .ok (.aload_n 1, 1) := by decide +kernel
theorem dL_law_848 : decode cL_law 848 = .ok (.aload_n 0, 1) := by decide +kernel
theorem dL_law_849 : decode cL_law 849 = .ok (.iload 4, 2) := by decide +kernel
theorem dL_law_851 : decode cL_law 851 = .ok (.iconst 1, 1) := by decide +kernel
theorem dL_law_852 : decode cL_law 852 = .ok (.iadd, 1) := by decide +kernel
theorem dL_law_853 : decode cL_law 853 = .ok (.iaload, 1) := by decide +kernel
theorem dL_law_854 : decode cL_law 854 = .ok (.aload_n 3, 1) := by decide +kernel
theorem dL_law_855 : decode cL_law 855 = .ok (.invokestatic 108, 3) := by decide +kernel
theorem dL_law_858 : decode cL_law 858 = .ok (.istore 5, 2) := by decide +kernel
theorem dL_law_860 : decode cL_law 860 = .ok (.aload_n 2, 1) := by decide +kernel
theorem dL_law_861 : decode cL_law 861 = .ok (.aload_n 0, 1) := by decide +kernel
theorem dL_law_862 : decode cL_law 862 = .ok (.iload 4, 2) := by decide +kernel
theorem dL_law_864 : decode cL_law 864 = .ok (.iconst 1, 1) := by decide +kernel
theorem dL_law_865 : decode cL_law 865 = .ok (.iadd, 1) := by decide +kernel
theorem dL_law_866 : decode cL_law 866 = .ok (.iaload, 1) := by decide +kernel
theorem dL_law_867 : decode cL_law 867 = .ok (.invokevirtual 110, 3) := by decide +kernel
theorem dL_law_870 : decode cL_law 870 = .ok (.istore 6, 2) := by decide +kernel
theorem dL_law_872 : decode cL_law 872 = .ok (.aload_n 2, 1) := by decide +kernel
theorem dL_law_873 : decode cL_law 873 = .ok (.invokevirtual 67, 3) := by decide +kernel
theorem dL_law_876 : decode cL_law 876 = .ok (.iload 5, 2) := by decide +kernel
theorem dL_law_878 : decode cL_law 878 = .ok (.if_icmp .eq 5, 3) := by decide +kernel
theorem dL_law_881 : decode cL_law 881 = .ok (.iconst 0, 1) := by decide +kernel
theorem dL_law_882 : decode cL_law 882 = .ok (.ireturn, 1) := by decide +kernel
theorem dL_law_883 : decode cL_law 883 = .ok (.iload 5, 2) := by decide +kernel
theorem dL_law_885 : decode cL_law 885 = .ok (.ifCond .ne 15, 3) := by decide +kernel
theorem dL_law_888 : decode cL_law 888 = .ok (.aload_n 3, 1) := by decide +kernel
theorem dL_law_889 : decode cL_law 889 = .ok (.iconst 0, 1) := by decide +kernel
theorem dL_law_890 : decode cL_law 890 = .ok (.laload, 1) := by decide +kernel
theorem dL_law_891 : decode cL_law 891 = .ok (.iload 6, 2) := by decide +kernel
theorem dL_law_893 : decode cL_law 893 = .ok (.i2l, 1) := by decide +kernel
theorem dL_law_894 : decode cL_law 894 = .ok (.lcmp, 1) := by decide +kernel
theorem dL_law_895 : decode cL_law 895 = .ok (.ifCond .eq 5, 3) := by decide +kernel
theorem dL_law_898 : decode cL_law 898 = .ok (.iconst 0, 1) := by decide +kernel
theorem dL_law_899 : decode cL_law 899 = .ok (.ireturn, 1) := by decide +kernel
theorem dL_law_900 : decode cL_law 900 = .ok (.goto 110, 3) := by decide +kernel
theorem dL_law_903 : decode cL_law 903 = .ok (.aload_n 1, 1) := by decide +kernel
theorem dL_law_904 : decode cL_law 904 = .ok (.invokevirtual 111, 3) := by decide +kernel
theorem dL_law_907 : decode cL_law 907 = .ok (.aload_n 2, 1) := by decide +kernel
theorem dL_law_908 : decode cL_law 908 = .ok (.invokevirtual 114, 3) := by decide +kernel
theorem dL_law_911 : decode cL_law 911 = .ok (.if_icmp .eq 99, 3) := by decide +kernel
theorem dL_law_914 : decode cL_law 914 = .ok (.iconst 0, 1) := by decide +kernel
theorem dL_law_915 : decode cL_law 915 = .ok (.ireturn, 1) := by decide +kernel
theorem dL_law_916 : decode cL_law 916 = .ok (.aload_n 1, 1) := by decide +kernel
theorem dL_law_917 : decode cL_law 917 = .ok (.aload_n 0, 1) := by decide +kernel
theorem dL_law_918 : decode cL_law 918 = .ok (.iload 4, 2) := by decide +kernel
theorem dL_law_920 : decode cL_law 920 = .ok (.iconst 1, 1) := by decide +kernel
theorem dL_law_921 : decode cL_law 921 = .ok (.iadd, 1) := by decide +kernel
theorem dL_law_922 : decode cL_law 922 = .ok (.iaload, 1) := by decide +kernel
theorem dL_law_923 : decode cL_law 923 = .ok (.invokevirtual 115, 3) := by decide +kernel
theorem dL_law_926 : decode cL_law 926 = .ok (.aload_n 2, 1) := by decide +kernel
theorem dL_law_927 : decode cL_law 927 = .ok (.aload_n 0, 1) := by decide +kernel
theorem dL_law_928 : decode cL_law 928 = .ok (.iload 4, 2) := by decide +kernel
theorem dL_law_930 : decode cL_law 930 = .ok (.iconst 1, 1) := by decide +kernel
theorem dL_law_931 : decode cL_law 931 = .ok (.iadd, 1) := by decide +kernel
theorem dL_law_932 : decode cL_law 932 = .ok (.iaload, 1) := by decide +kernel
theorem dL_law_933 : decode cL_law 933 = .ok (.invokevirtual 118, 3) := by decide +kernel
theorem dL_law_936 : decode cL_law 936 = .ok (.if_icmp .eq 74, 3) := by decide +kernel
theorem dL_law_939 : decode cL_law 939 = .ok (.iconst 0, 1) := by decide +kernel
theorem dL_law_940 : decode cL_law 940 = .ok (.ireturn, 1) := by decide +kernel
theorem dL_law_941 : decode cL_law 941 = .ok (.aload_n 1, 1) := by decide +kernel
theorem dL_law_942 : decode cL_law 942 = .ok (.invokevirtual 119, 3) := by decide +kernel
theorem dL_law_945 : decode cL_law 945 = .ok (.aload_n 2, 1) := by decide +kernel
theorem dL_law_946 : decode cL_law 946 = .ok (.invokevirtual 122, 3) := by decide +kernel
theorem dL_law_949 : decode cL_law 949 = .ok (.if_icmp .eq 61, 3) := by decide +kernel
theorem dL_law_952 : decode cL_law 952 = .ok (.iconst 0, 1) := by decide +kernel
theorem dL_law_953 : decode cL_law 953 = .ok (.ireturn, 1) := by decide +kernel
theorem dL_law_954 : decode cL_law 954 = .ok (.aload_n 1, 1) := by decide +kernel
theorem dL_law_955 : decode cL_law 955 = .ok (.aload_n 0, 1) := by decide +kernel
theorem dL_law_956 : decode cL_law 956 = .ok (.iload 4, 2) := by decide +kernel
theorem dL_law_958 : decode cL_law 958 = .ok (.iconst 1, 1) := by decide +kernel
theorem dL_law_959 : decode cL_law 959 = .ok (.iadd, 1) := by decide +kernel
theorem dL_law_960 : decode cL_law 960 = .ok (.iaload, 1) := by decide +kernel
theorem dL_law_961 : decode cL_law 961 = .ok (.aload_n 3, 1) := by decide +kernel
theorem dL_law_962 : decode cL_law 962 = .ok (.invokestatic 123, 3) := by decide +kernel
theorem dL_law_965 : decode cL_law 965 = .ok (.istore 5, 2) := by decide +kernel
theorem dL_law_967 : decode cL_law 967 = .ok (.aload_n 2, 1) := by decide +kernel
theorem dL_law_968 : decode cL_law 968 = .ok (.aload_n 0, 1) := by decide +kernel
theorem dL_law_969 : decode cL_law 969 = .ok (.iload 4, 2) := by decide +kernel
theorem dL_law_971 : decode cL_law 971 = .ok (.iconst 1, 1) := by decide +kernel
theorem dL_law_972 : decode cL_law 972 = .ok (.iadd, 1) := by decide +kernel
theorem dL_law_973 : decode cL_law 973 = .ok (.iaload, 1) := by decide +kernel
theorem dL_law_974 : decode cL_law 974 = .ok (.invokevirtual 125, 3) := by decide +kernel
theorem dL_law_977 : decode cL_law 977 = .ok (.istore 6, 2) := by decide +kernel
theorem dL_law_979 : decode cL_law 979 = .ok (.aload_n 2, 1) := by decide +kernel
theorem dL_law_980 : decode cL_law 980 = .ok (.invokevirtual 67, 3) := by decide +kernel
theorem dL_law_983 : decode cL_law 983 = .ok (.iload 5, 2) := by decide +kernel
theorem dL_law_985 : decode cL_law 985 = .ok (.if_icmp .eq 5, 3) := by decide +kernel
theorem dL_law_988 : decode cL_law 988 = .ok (.iconst 0, 1) := by decide +kernel
theorem dL_law_989 : decode cL_law 989 = .ok (.ireturn, 1) := by decide +kernel
theorem dL_law_990 : decode cL_law 990 = .ok (.iload 5, 2) := by decide +kernel
theorem dL_law_992 : decode cL_law 992 = .ok (.ifCond .ne 15, 3) := by decide +kernel
theorem dL_law_995 : decode cL_law 995 = .ok (.aload_n 3, 1) := by decide +kernel
theorem dL_law_996 : decode cL_law 996 = .ok (.iconst 0, 1) := by decide +kernel
theorem dL_law_997 : decode cL_law 997 = .ok (.laload, 1) := by decide +kernel
theorem dL_law_998 : decode cL_law 998 = .ok (.iload 6, 2) := by decide +kernel
theorem dL_law_1000 : decode cL_law 1000 = .ok (.i2l, 1) := by decide +kernel
theorem dL_law_1001 : decode cL_law 1001 = .ok (.lcmp, 1) := by decide +kernel
theorem dL_law_1002 : decode cL_law 1002 = .ok (.ifCond .eq 5, 3) := by decide +kernel
theorem dL_law_1005 : decode cL_law 1005 = .ok (.iconst 0, 1) := by decide +kernel
theorem dL_law_1006 : decode cL_law 1006 = .ok (.ireturn, 1) := by decide +kernel
theorem dL_law_1007 : decode cL_law 1007 = .ok (.goto 3, 3) := by decide +kernel
theorem dL_law_1010 : decode cL_law 1010 = .ok (.iinc 4 6, 3) := by decide +kernel
theorem dL_law_1013 : decode cL_law 1013 = .ok (.goto (-990), 3) := by decide +kernel
theorem dL_law_1016 : decode cL_law 1016 = .ok (.iconst 1, 1) := by decide +kernel
theorem dL_law_1017 : decode cL_law 1017 = .ok (.ireturn, 1) := by decide +kernel
