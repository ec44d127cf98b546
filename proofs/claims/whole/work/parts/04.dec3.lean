theorem dX10_walkIt_74 : decode cX10_walkIt 74 = .ok (.getfield 9, 3) := by decide +kernel
theorem dX10_walkIt_77 : decode cX10_walkIt 77 = .ok (.iload_n 3, 1) := by decide +kernel
theorem dX10_walkIt_78 : decode cX10_walkIt 78 = .ok (.iconst 1, 1) := by decide +kernel
theorem dX10_walkIt_79 : decode cX10_walkIt 79 = .ok (.iadd, 1) := by decide +kernel
theorem dX10_walkIt_80 : decode cX10_walkIt 80 = .ok (.iaload, 1) := by decide +kernel
theorem dX10_walkIt_81 : decode cX10_walkIt 81 = .ok (.istore 4, 2) := by decide +kernel
theorem dX10_walkIt_83 : decode cX10_walkIt 83 = .ok (.iload 4, 2) := by decide +kernel
theorem dX10_walkIt_85 : decode cX10_walkIt 85 = .ok (.iload_n 2, 1) := by decide +kernel
theorem dX10_walkIt_86 : decode cX10_walkIt 86 = .ok (.invokestatic 74, 3) := by decide +kernel
theorem dX10_walkIt_89 : decode cX10_walkIt 89 = .ok (.istore 5, 2) := by decide +kernel
theorem dX10_walkIt_91 : decode cX10_walkIt 91 = .ok (.iload 5, 2) := by decide +kernel
theorem dX10_walkIt_93 : decode cX10_walkIt 93 = .ok (.iconst (-1), 1) := by decide +kernel
theorem dX10_walkIt_94 : decode cX10_walkIt 94 = .ok (.if_icmp .ne 12, 3) := by decide +kernel
theorem dX10_walkIt_97 : decode cX10_walkIt 97 = .ok (.aload_n 0, 1) := by decide +kernel
theorem dX10_walkIt_98 : decode cX10_walkIt 98 = .ok (.bipush 11, 2) := by decide +kernel
theorem dX10_walkIt_100 : decode cX10_walkIt 100 = .ok (.iload 4, 2) := by decide +kernel
theorem dX10_walkIt_102 : decode cX10_walkIt 102 = .ok (.invokevirtual 91, 3) := by decide +kernel
theorem dX10_walkIt_105 : decode cX10_walkIt 105 = .ok (.ireturn, 1) := by decide +kernel
theorem dX10_walkIt_106 : decode cX10_walkIt 106 = .ok (.aload_n 0, 1) := by decide +kernel
theorem dX10_walkIt_107 : decode cX10_walkIt 107 = .ok (.iload 4, 2) := by decide +kernel
theorem dX10_walkIt_109 : decode cX10_walkIt 109 = .ok (.iload 5, 2) := by decide +kernel
theorem dX10_walkIt_111 : decode cX10_walkIt 111 = .ok (.invokestatic 77, 3) := by decide +kernel
theorem dX10_walkIt_114 : decode cX10_walkIt 114 = .ok (.invokevirtual 80, 3) := by decide +kernel
theorem dX10_walkIt_117 : decode cX10_walkIt 117 = .ok (.ifCond .ne 22, 3) := by decide +kernel
theorem dX10_walkIt_120 : decode cX10_walkIt 120 = .ok (.aload_n 0, 1) := by decide +kernel
theorem dX10_walkIt_121 : decode cX10_walkIt 121 = .ok (.bipush 12, 2) := by decide +kernel
theorem dX10_walkIt_123 : decode cX10_walkIt 123 = .ok (.aload_n 0, 1) := by decide +kernel
theorem dX10_walkIt_124 : decode cX10_walkIt 124 = .ok (.getfield 9, 3) := by decide +kernel
theorem dX10_walkIt_127 : decode cX10_walkIt 127 = .ok (.iload 4, 2) := by decide +kernel
theorem dX10_walkIt_129 : decode cX10_walkIt 129 = .ok (.iload 5, 2) := by decide +kernel
theorem dX10_walkIt_131 : decode cX10_walkIt 131 = .ok (.invokestatic 77, 3) := by decide +kernel
theorem dX10_walkIt_134 : decode cX10_walkIt 134 = .ok (.iaload, 1) := by decide +kernel
theorem dX10_walkIt_135 : decode cX10_walkIt 135 = .ok (.invokevirtual 91, 3) := by decide +kernel
theorem dX10_walkIt_138 : decode cX10_walkIt 138 = .ok (.ireturn, 1) := by decide +kernel
theorem dX10_walkIt_139 : decode cX10_walkIt 139 = .ok (.aload_n 0, 1) := by decide +kernel
theorem dX10_walkIt_140 : decode cX10_walkIt 140 = .ok (.getfield 9, 3) := by decide +kernel
theorem dX10_walkIt_143 : decode cX10_walkIt 143 = .ok (.iload_n 3, 1) := by decide +kernel
theorem dX10_walkIt_144 : decode cX10_walkIt 144 = .ok (.iconst 1, 1) := by decide +kernel
theorem dX10_walkIt_145 : decode cX10_walkIt 145 = .ok (.iadd, 1) := by decide +kernel
theorem dX10_walkIt_146 : decode cX10_walkIt 146 = .ok (.iload 5, 2) := by decide +kernel
theorem dX10_walkIt_148 : decode cX10_walkIt 148 = .ok (.iastore, 1) := by decide +kernel
theorem dX10_walkIt_149 : decode cX10_walkIt 149 = .ok (.aload_n 0, 1) := by decide +kernel
theorem dX10_walkIt_150 : decode cX10_walkIt 150 = .ok (.getfield 9, 3) := by decide +kernel
theorem dX10_walkIt_153 : decode cX10_walkIt 153 = .ok (.iload_n 3, 1) := by decide +kernel
theorem dX10_walkIt_154 : decode cX10_walkIt 154 = .ok (.iconst 2, 1) := by decide +kernel
theorem dX10_walkIt_155 : decode cX10_walkIt 155 = .ok (.iadd, 1) := by decide +kernel
theorem dX10_walkIt_156 : decode cX10_walkIt 156 = .ok (.dup2, 1) := by decide +kernel
theorem dX10_walkIt_157 : decode cX10_walkIt 157 = .ok (.iaload, 1) := by decide +kernel
theorem dX10_walkIt_158 : decode cX10_walkIt 158 = .ok (.iconst 1, 1) := by decide +kernel
theorem dX10_walkIt_159 : decode cX10_walkIt 159 = .ok (.iadd, 1) := by decide +kernel
theorem dX10_walkIt_160 : decode cX10_walkIt 160 = .ok (.iastore, 1) := by decide +kernel
theorem dX10_walkIt_161 : decode cX10_walkIt 161 = .ok (.aload_n 0, 1) := by decide +kernel
theorem dX10_walkIt_162 : decode cX10_walkIt 162 = .ok (.getfield 9, 3) := by decide +kernel
theorem dX10_walkIt_165 : decode cX10_walkIt 165 = .ok (.iload_n 3, 1) := by decide +kernel
theorem dX10_walkIt_166 : decode cX10_walkIt 166 = .ok (.bipush 6, 2) := by decide +kernel
theorem dX10_walkIt_168 : decode cX10_walkIt 168 = .ok (.iadd, 1) := by decide +kernel
theorem dX10_walkIt_169 : decode cX10_walkIt 169 = .ok (.aload_n 0, 1) := by decide +kernel
theorem dX10_walkIt_170 : decode cX10_walkIt 170 = .ok (.iload_n 1, 1) := by decide +kernel
theorem dX10_walkIt_171 : decode cX10_walkIt 171 = .ok (.invokevirtual 131, 3) := by decide +kernel
theorem dX10_walkIt_174 : decode cX10_walkIt 174 = .ok (.ifCond .eq 18, 3) := by decide +kernel
theorem dX10_walkIt_177 : decode cX10_walkIt 177 = .ok (.aload_n 0, 1) := by decide +kernel
theorem dX10_walkIt_178 : decode cX10_walkIt 178 = .ok (.getfield 9, 3) := by decide +kernel
theorem dX10_walkIt_181 : decode cX10_walkIt 181 = .ok (.iload_n 3, 1) := by decide +kernel
theorem dX10_walkIt_182 : decode cX10_walkIt 182 = .ok (.iconst 5, 1) := by decide +kernel
theorem dX10_walkIt_183 : decode cX10_walkIt 183 = .ok (.iadd, 1) := by decide +kernel
theorem dX10_walkIt_184 : decode cX10_walkIt 184 = .ok (.iaload, 1) := by decide +kernel
theorem dX10_walkIt_185 : decode cX10_walkIt 185 = .ok (.ifCond .le 7, 3) := by decide +kernel
theorem dX10_walkIt_188 : decode cX10_walkIt 188 = .ok (.iconst 1, 1) := by decide +kernel
theorem dX10_walkIt_189 : decode cX10_walkIt 189 = .ok (.goto 12, 3) := by decide +kernel
theorem dX10_walkIt_192 : decode cX10_walkIt 192 = .ok (.aload_n 0, 1) := by decide +kernel
theorem dX10_walkIt_193 : decode cX10_walkIt 193 = .ok (.getfield 9, 3) := by decide +kernel
theorem dX10_walkIt_196 : decode cX10_walkIt 196 = .ok (.iload_n 3, 1) := by decide +kernel
theorem dX10_walkIt_197 : decode cX10_walkIt 197 = .ok (.bipush 6, 2) := by decide +kernel
theorem dX10_walkIt_199 : decode cX10_walkIt 199 = .ok (.iadd, 1) := by decide +kernel
theorem dX10_walkIt_200 : decode cX10_walkIt 200 = .ok (.iaload, 1) := by decide +kernel
theorem dX10_walkIt_201 : decode cX10_walkIt 201 = .ok (.iastore, 1) := by decide +kernel
theorem dX10_walkIt_202 : decode cX10_walkIt 202 = .ok (.iload 5, 2) := by decide +kernel
theorem dX10_walkIt_204 : decode cX10_walkIt 204 = .ok (.bipush 15, 2) := by decide +kernel
theorem dX10_walkIt_206 : decode cX10_walkIt 206 = .ok (.if_icmp .ne 120, 3) := by decide +kernel
theorem dX10_walkIt_209 : decode cX10_walkIt 209 = .ok (.aload_n 0, 1) := by decide +kernel
theorem dX10_walkIt_210 : decode cX10_walkIt 210 = .ok (.iload_n 1, 1) := by decide +kernel
theorem dX10_walkIt_211 : decode cX10_walkIt 211 = .ok (.aload_n 0, 1) := by decide +kernel
theorem dX10_walkIt_212 : decode cX10_walkIt 212 = .ok (.iload_n 1, 1) := by decide +kernel
theorem dX10_walkIt_213 : decode cX10_walkIt 213 = .ok (.invokevirtual 162, 3) := by decide +kernel
theorem dX10_walkIt_216 : decode cX10_walkIt 216 = .ok (.invokevirtual 165, 3) := by decide +kernel
theorem dX10_walkIt_219 : decode cX10_walkIt 219 = .ok (.istore 6, 2) := by decide +kernel
theorem dX10_walkIt_221 : decode cX10_walkIt 221 = .ok (.aload_n 0, 1) := by decide +kernel
theorem dX10_walkIt_222 : decode cX10_walkIt 222 = .ok (.getfield 9, 3) := by decide +kernel
theorem dX10_walkIt_225 : decode cX10_walkIt 225 = .ok (.iload_n 3, 1) := by decide +kernel
theorem dX10_walkIt_226 : decode cX10_walkIt 226 = .ok (.dup2, 1) := by decide +kernel
theorem dX10_walkIt_227 : decode cX10_walkIt 227 = .ok (.iaload, 1) := by decide +kernel
theorem dX10_walkIt_228 : decode cX10_walkIt 228 = .ok (.iload 6, 2) := by decide +kernel
theorem dX10_walkIt_230 : decode cX10_walkIt 230 = .ok (.iadd, 1) := by decide +kernel
theorem dX10_walkIt_231 : decode cX10_walkIt 231 = .ok (.iastore, 1) := by decide +kernel
theorem dX10_walkIt_232 : decode cX10_walkIt 232 = .ok (.aload_n 0, 1) := by decide +kernel
theorem dX10_walkIt_233 : decode cX10_walkIt 233 = .ok (.getfield 9, 3) := by decide +kernel
theorem dX10_walkIt_236 : decode cX10_walkIt 236 = .ok (.iload_n 3, 1) := by decide +kernel
theorem dX10_walkIt_237 : decode cX10_walkIt 237 = .ok (.iconst 4, 1) := by decide +kernel
theorem dX10_walkIt_238 : decode cX10_walkIt 238 = .ok (.iadd, 1) := by decide +kernel
theorem dX10_walkIt_239 : decode cX10_walkIt 239 = .ok (.iaload, 1) := by decide +kernel
theorem dX10_walkIt_240 : decode cX10_walkIt 240 = .ok (.iconst (-1), 1) := by decide +kernel
theorem dX10_walkIt_241 : decode cX10_walkIt 241 = .ok (.if_icmp .eq 47, 3) := by decide +kernel
theorem dX10_walkIt_244 : decode cX10_walkIt 244 = .ok (.aload_n 0, 1) := by decide +kernel
theorem dX10_walkIt_245 : decode cX10_walkIt 245 = .ok (.getfield 9, 3) := by decide +kernel
theorem dX10_walkIt_248 : decode cX10_walkIt 248 = .ok (.aload_n 0, 1) := by decide +kernel
theorem dX10_walkIt_249 : decode cX10_walkIt 249 = .ok (.getfield 9, 3) := by decide +kernel
theorem dX10_walkIt_252 : decode cX10_walkIt 252 = .ok (.iload_n 3, 1) := by decide +kernel
theorem dX10_walkIt_253 : decode cX10_walkIt 253 = .ok (.iconst 4, 1) := by decide +kernel
theorem dX10_walkIt_254 : decode cX10_walkIt 254 = .ok (.iadd, 1) := by decide +kernel
theorem dX10_walkIt_255 : decode cX10_walkIt 255 = .ok (.iaload, 1) := by decide +kernel
theorem dX10_walkIt_256 : decode cX10_walkIt 256 = .ok (.invokestatic 120, 3) := by decide +kernel
theorem dX10_walkIt_259 : decode cX10_walkIt 259 = .ok (.dup2, 1) := by decide +kernel
theorem dX10_walkIt_260 : decode cX10_walkIt 260 = .ok (.iaload, 1) := by decide +kernel
theorem dX10_walkIt_261 : decode cX10_walkIt 261 = .ok (.iload 6, 2) := by decide +kernel
theorem dX10_walkIt_263 : decode cX10_walkIt 263 = .ok (.isub, 1) := by decide +kernel
theorem dX10_walkIt_264 : decode cX10_walkIt 264 = .ok (.iastore, 1) := by decide +kernel
theorem dX10_walkIt_265 : decode cX10_walkIt 265 = .ok (.aload_n 0, 1) := by decide +kernel
theorem dX10_walkIt_266 : decode cX10_walkIt 266 = .ok (.getfield 9, 3) := by decide +kernel
theorem dX10_walkIt_269 : decode cX10_walkIt 269 = .ok (.aload_n 0, 1) := by decide +kernel
theorem dX10_walkIt_270 : decode cX10_walkIt 270 = .ok (.getfield 9, 3) := by decide +kernel
theorem dX10_walkIt_273 : decode cX10_walkIt 273 = .ok (.iload_n 3, 1) := by decide +kernel
theorem dX10_walkIt_274 : decode cX10_walkIt 274 = .ok (.iconst 4, 1) := by decide +kernel
theorem dX10_walkIt_275 : decode cX10_walkIt 275 = .ok (.iadd, 1) := by decide +kernel
theorem dX10_walkIt_276 : decode cX10_walkIt 276 = .ok (.iaload, 1) := by decide +kernel
theorem dX10_walkIt_277 : decode cX10_walkIt 277 = .ok (.invokestatic 120, 3) := by decide +kernel
theorem dX10_walkIt_280 : decode cX10_walkIt 280 = .ok (.iconst 2, 1) := by decide +kernel
theorem dX10_walkIt_281 : decode cX10_walkIt 281 = .ok (.iadd, 1) := by decide +kernel
theorem dX10_walkIt_282 : decode cX10_walkIt 282 = .ok (.dup2, 1) := by decide +kernel
theorem dX10_walkIt_283 : decode cX10_walkIt 283 = .ok (.iaload, 1) := by decide +kernel
theorem dX10_walkIt_284 : decode cX10_walkIt 284 = .ok (.iload 6, 2) := by decide +kernel
theorem dX10_walkIt_286 : decode cX10_walkIt 286 = .ok (.iadd, 1) := by decide +kernel
theorem dX10_walkIt_287 : decode cX10_walkIt 287 = .ok (.iastore, 1) := by decide +kernel
theorem dX10_walkIt_288 : decode cX10_walkIt 288 = .ok (.aload_n 0, 1) := by decide +kernel
theorem dX10_walkIt_289 : decode cX10_walkIt 289 = .ok (.getfield 9, 3) := by decide +kernel
theorem dX10_walkIt_292 : decode cX10_walkIt 292 = .ok (.iload_n 3, 1) := by decide +kernel
theorem dX10_walkIt_293 : decode cX10_walkIt 293 = .ok (.bipush 7, 2) := by decide +kernel
theorem dX10_walkIt_295 : decode cX10_walkIt 295 = .ok (.iadd, 1) := by decide +kernel
theorem dX10_walkIt_296 : decode cX10_walkIt 296 = .ok (.iconst 1, 1) := by decide +kernel
theorem dX10_walkIt_297 : decode cX10_walkIt 297 = .ok (.iastore, 1) := by decide +kernel
theorem dX10_walkIt_298 : decode cX10_walkIt 298 = .ok (.aload_n 0, 1) := by decide +kernel
theorem dX10_walkIt_299 : decode cX10_walkIt 299 = .ok (.getfield 9, 3) := by decide +kernel
theorem dX10_walkIt_302 : decode cX10_walkIt 302 = .ok (.iload_n 3, 1) := by decide +kernel
theorem dX10_walkIt_303 : decode cX10_walkIt 303 = .ok (.iconst 4, 1) := by decide +kernel
theorem dX10_walkIt_304 : decode cX10_walkIt 304 = .ok (.iadd, 1) := by decide +kernel
theorem dX10_walkIt_305 : decode cX10_walkIt 305 = .ok (.iconst (-1), 1) := by decide +kernel
theorem dX10_walkIt_306 : decode cX10_walkIt 306 = .ok (.iastore, 1) := by decide +kernel
theorem dX10_walkIt_307 : decode cX10_walkIt 307 = .ok (.aload_n 0, 1) := by decide +kernel
theorem dX10_walkIt_308 : decode cX10_walkIt 308 = .ok (.getfield 9, 3) := by decide +kernel
theorem dX10_walkIt_311 : decode cX10_walkIt 311 = .ok (.iload_n 3, 1) := by decide +kernel
theorem dX10_walkIt_312 : decode cX10_walkIt 312 = .ok (.iconst 5, 1) := by decide +kernel
theorem dX10_walkIt_313 : decode cX10_walkIt 313 = .ok (.iadd, 1) := by decide +kernel
theorem dX10_walkIt_314 : decode cX10_walkIt 314 = .ok (.iconst 0, 1) := by decide +kernel
theorem dX10_walkIt_315 : decode cX10_walkIt 315 = .ok (.iastore, 1) := by decide +kernel
theorem dX10_walkIt_316 : decode cX10_walkIt 316 = .ok (.aload_n 0, 1) := by decide +kernel
theorem dX10_walkIt_317 : decode cX10_walkIt 317 = .ok (.getfield 9, 3) := by decide +kernel
theorem dX10_walkIt_320 : decode cX10_walkIt 320 = .ok (.iload_n 3, 1) := by decide +kernel
theorem dX10_walkIt_321 : decode cX10_walkIt 321 = .ok (.bipush 6, 2) := by decide +kernel
theorem dX10_walkIt_323 : decode cX10_walkIt 323 = .ok (.iadd, 1) := by decide +kernel
theorem dX10_walkIt_324 : decode cX10_walkIt 324 = .ok (.iconst 0, 1) := by decide +kernel
theorem dX10_walkIt_325 : decode cX10_walkIt 325 = .ok (.iastore, 1) := by decide +kernel
theorem dX10_walkIt_326 : decode cX10_walkIt 326 = .ok (.iload 5, 2) := by decide +kernel
theorem dX10_walkIt_328 : decode cX10_walkIt 328 = .ok (.ireturn, 1) := by decide +kernel
theorem dX10_walk_0 : decode cX10_walk 0 = .ok (.aload_n 0, 1) := by decide +kernel
theorem dX10_walk_1 : decode cX10_walk 1 = .ok (.invokevirtual 100, 3) := by decide +kernel
theorem dX10_walk_4 : decode cX10_walk 4 = .ok (.aload_n 0, 1) := by decide +kernel
theorem dX10_walk_5 : decode cX10_walk 5 = .ok (.aload_n 0, 1) := by decide +kernel
theorem dX10_walk_6 : decode cX10_walk 6 = .ok (.iload_n 1, 1) := by decide +kernel
theorem dX10_walk_7 : decode cX10_walk 7 = .ok (.iload_n 2, 1) := by decide +kernel
theorem dX10_walk_8 : decode cX10_walk 8 = .ok (.invokevirtual 168, 3) := by decide +kernel
theorem dX10_walk_11 : decode cX10_walk 11 = .ok (.invokevirtual 107, 3) := by decide +kernel
theorem dX10_walk_14 : decode cX10_walk 14 = .ok (.ireturn, 1) := by decide +kernel
theorem dX10_restIt_0 : decode cX10_restIt 0 = .ok (.aload_n 0, 1) := by decide +kernel
theorem dX10_restIt_1 : decode cX10_restIt 1 = .ok (.iload_n 1, 1) := by decide +kernel
theorem dX10_restIt_2 : decode cX10_restIt 2 = .ok (.invokevirtual 154, 3) := by decide +kernel
theorem dX10_restIt_5 : decode cX10_restIt 5 = .ok (.ifCond .ne 16, 3) := by decide +kernel
theorem dX10_restIt_8 : decode cX10_restIt 8 = .ok (.aload_n 0, 1) := by decide +kernel
theorem dX10_restIt_9 : decode cX10_restIt 9 = .ok (.bipush 7, 2) := by decide +kernel
theorem dX10_restIt_11 : decode cX10_restIt 11 = .ok (.aload_n 0, 1) := by decide +kernel
theorem dX10_restIt_12 : decode cX10_restIt 12 = .ok (.getfield 9, 3) := by decide +kernel
theorem dX10_restIt_15 : decode cX10_restIt 15 = .ok (.iconst 1, 1) := by decide +kernel
theorem dX10_restIt_16 : decode cX10_restIt 16 = .ok (.iaload, 1) := by decide +kernel
theorem dX10_restIt_17 : decode cX10_restIt 17 = .ok (.invokevirtual 91, 3) := by decide +kernel
theorem dX10_restIt_20 : decode cX10_restIt 20 = .ok (.ireturn, 1) := by decide +kernel
theorem dX10_restIt_21 : decode cX10_restIt 21 = .ok (.iload_n 2, 1) := by decide +kernel
theorem dX10_restIt_22 : decode cX10_restIt 22 = .ok (.i2l, 1) := by decide +kernel
theorem dX10_restIt_23 : decode cX10_restIt 23 = .ok (.lconst 1, 1) := by decide +kernel
theorem dX10_restIt_24 : decode cX10_restIt 24 = .ok (.ldc2_w 94, 3) := by decide +kernel
theorem dX10_restIt_27 : decode cX10_restIt 27 = .ok (.invokestatic 59, 3) := by decide +kernel
theorem dX10_restIt_30 : decode cX10_restIt 30 = .ok (.ifCond .ne 10, 3) := by decide +kernel
theorem dX10_restIt_33 : decode cX10_restIt 33 = .ok (.aload_n 0, 1) := by decide +kernel
theorem dX10_restIt_34 : decode cX10_restIt 34 = .ok (.iconst 1, 1) := by decide +kernel
theorem dX10_restIt_35 : decode cX10_restIt 35 = .ok (.iconst 0, 1) := by decide +kernel
theorem dX10_restIt_36 : decode cX10_restIt 36 = .ok (.invokevirtual 91, 3) := by decide +kernel
theorem dX10_restIt_39 : decode cX10_restIt 39 = .ok (.ireturn, 1) := by decide +kernel
theorem dX10_restIt_40 : decode cX10_restIt 40 = .ok (.iload_n 1, 1) := by decide +kernel
theorem dX10_restIt_41 : decode cX10_restIt 41 = .ok (.invokestatic 126, 3) := by decide +kernel
theorem dX10_restIt_44 : decode cX10_restIt 44 = .ok (.istore_n 3, 1) := by decide +kernel
theorem dX10_restIt_45 : decode cX10_restIt 45 = .ok (.aload_n 0, 1) := by decide +kernel
theorem dX10_restIt_46 : decode cX10_restIt 46 = .ok (.getfield 9, 3) := by decide +kernel
theorem dX10_restIt_49 : decode cX10_restIt 49 = .ok (.iload_n 3, 1) := by decide +kernel
theorem dX10_restIt_50 : decode cX10_restIt 50 = .ok (.bipush 7, 2) := by decide +kernel
theorem dX10_restIt_52 : decode cX10_restIt 52 = .ok (.iadd, 1) := by decide +kernel
theorem dX10_restIt_53 : decode cX10_restIt 53 = .ok (.iaload, 1) := by decide +kernel
theorem dX10_restIt_54 : decode cX10_restIt 54 = .ok (.iconst 1, 1) := by decide +kernel
theorem dX10_restIt_55 : decode cX10_restIt 55 = .ok (.if_icmp .ne 18, 3) := by decide +kernel
theorem dX10_restIt_58 : decode cX10_restIt 58 = .ok (.aload_n 0, 1) := by decide +kernel
theorem dX10_restIt_59 : decode cX10_restIt 59 = .ok (.bipush 9, 2) := by decide +kernel
theorem dX10_restIt_61 : decode cX10_restIt 61 = .ok (.aload_n 0, 1) := by decide +kernel
theorem dX10_restIt_62 : decode cX10_restIt 62 = .ok (.getfield 9, 3) := by decide +kernel
theorem dX10_restIt_65 : decode cX10_restIt 65 = .ok (.iload_n 3, 1) := by decide +kernel
theorem dX10_restIt_66 : decode cX10_restIt 66 = .ok (.iconst 2, 1) := by decide +kernel
theorem dX10_restIt_67 : decode cX10_restIt 67 = .ok (.iadd, 1) := by decide +kernel
theorem dX10_restIt_68 : decode cX10_restIt 68 = .ok (.iaload, 1) := by decide +kernel
theorem dX10_restIt_69 : decode cX10_restIt 69 = .ok (.invokevirtual 91, 3) := by decide +kernel
theorem dX10_restIt_72 : decode cX10_restIt 72 = .ok (.ireturn, 1) := by decide +kernel
theorem dX10_restIt_73 : decode cX10_restIt 73 = .ok (.aload_n 0, 1) := by decide +kernel
theorem dX10_restIt_74 : decode cX10_restIt 74 = .ok (.getfield 9, 3) := by decide +kernel
theorem dX10_restIt_77 : decode cX10_restIt 77 = .ok (.iload_n 3, 1) := by decide +kernel
theorem dX10_restIt_78 : decode cX10_restIt 78 = .ok (.iconst 2, 1) := by decide +kernel
theorem dX10_restIt_79 : decode cX10_restIt 79 = .ok (.iadd, 1) := by decide +kernel
theorem dX10_restIt_80 : decode cX10_restIt 80 = .ok (.dup2, 1) := by decide +kernel
theorem dX10_restIt_81 : decode cX10_restIt 81 = .ok (.iaload, 1) := by decide +kernel
theorem dX10_restIt_82 : decode cX10_restIt 82 = .ok (.iload_n 2, 1) := by decide +kernel
theorem dX10_restIt_83 : decode cX10_restIt 83 = .ok (.iadd, 1) := by decide +kernel
theorem dX10_restIt_84 : decode cX10_restIt 84 = .ok (.iastore, 1) := by decide +kernel
theorem dX10_restIt_85 : decode cX10_restIt 85 = .ok (.aload_n 0, 1) := by decide +kernel
theorem dX10_restIt_86 : decode cX10_restIt 86 = .ok (.getfield 9, 3) := by decide +kernel
theorem dX10_restIt_89 : decode cX10_restIt 89 = .ok (.iload_n 3, 1) := by decide +kernel
theorem dX10_restIt_90 : decode cX10_restIt 90 = .ok (.iconst 2, 1) := by decide +kernel
theorem dX10_restIt_91 : decode cX10_restIt 91 = .ok (.iadd, 1) := by decide +kernel
theorem dX10_restIt_92 : decode cX10_restIt 92 = .ok (.iaload, 1) := by decide +kernel
theorem dX10_restIt_93 : decode cX10_restIt 93 = .ok (.ireturn, 1) := by decide +kernel
theorem dX10_rest_0 : decode cX10_rest 0 = .ok (.aload_n 0, 1) := by decide +kernel
theorem dX10_rest_1 : decode cX10_rest 1 = .ok (.invokevirtual 100, 3) := by decide +kernel
theorem dX10_rest_4 : decode cX10_rest 4 = .ok (.aload_n 0, 1) := by decide +kernel
theorem dX10_rest_5 : decode cX10_rest 5 = .ok (.aload_n 0, 1) := by decide +kernel
theorem dX10_rest_6 : decode cX10_rest 6 = .ok (.iload_n 1, 1) := by decide +kernel
theorem dX10_rest_7 : decode cX10_rest 7 = .ok (.iload_n 2, 1) := by decide +kernel
theorem dX10_rest_8 : decode cX10_rest 8 = .ok (.invokevirtual 171, 3) := by decide +kernel
theorem dX10_rest_11 : decode cX10_rest 11 = .ok (.invokevirtual 107, 3) := by decide +kernel
theorem dX10_rest_14 : decode cX10_rest 14 = .ok (.ireturn, 1) := by decide +kernel
theorem dX10_areCells_0 : decode cX10_areCells 0 = .ok (.aload_n 0, 1) := by decide +kernel
theorem dX10_areCells_1 : decode cX10_areCells 1 = .ok (.iload_n 1, 1) := by decide +kernel
theorem dX10_areCells_2 : decode cX10_areCells 2 = .ok (.invokestatic 88, 3) := by decide +kernel
theorem dX10_areCells_5 : decode cX10_areCells 5 = .ok (.ifCond .eq 14, 3) := by decide +kernel
theorem dX10_areCells_8 : decode cX10_areCells 8 = .ok (.iload_n 2, 1) := by decide +kernel
theorem dX10_areCells_9 : decode cX10_areCells 9 = .ok (.invokestatic 88, 3) := by decide +kernel
theorem dX10_areCells_12 : decode cX10_areCells 12 = .ok (.ifCond .eq 7, 3) := by decide +kernel
theorem dX10_areCells_15 : decode cX10_areCells 15 = .ok (.iconst 0, 1) := by decide +kernel
theorem dX10_areCells_16 : decode cX10_areCells 16 = .ok (.goto 4, 3) := by decide +kernel
theorem dX10_areCells_19 : decode cX10_areCells 19 = .ok (.iconst 1, 1) := by decide +kernel
theorem dX10_areCells_20 : decode cX10_areCells 20 = .ok (.putfield 38, 3) := by decide +kernel
theorem dX10_areCells_23 : decode cX10_areCells 23 = .ok (.aload_n 0, 1) := by decide +kernel
theorem dX10_areCells_24 : decode cX10_areCells 24 = .ok (.getfield 38, 3) := by decide +kernel
theorem dX10_areCells_27 : decode cX10_areCells 27 = .ok (.ifCond .ne 7, 3) := by decide +kernel
theorem dX10_areCells_30 : decode cX10_areCells 30 = .ok (.iconst 1, 1) := by decide +kernel
theorem dX10_areCells_31 : decode cX10_areCells 31 = .ok (.goto 4, 3) := by decide +kernel
theorem dX10_areCells_34 : decode cX10_areCells 34 = .ok (.iconst 0, 1) := by decide +kernel
theorem dX10_areCells_35 : decode cX10_areCells 35 = .ok (.ireturn, 1) := by decide +kernel
theorem dX10_leaves_0 : decode cX10_leaves 0 = .ok (.aload_n 0, 1) := by decide +kernel
theorem dX10_leaves_1 : decode cX10_leaves 1 = .ok (.iload_n 1, 1) := by decide +kernel
theorem dX10_leaves_2 : decode cX10_leaves 2 = .ok (.iload_n 2, 1) := by decide +kernel
theorem dX10_leaves_3 : decode cX10_leaves 3 = .ok (.invokevirtual 174, 3) := by decide +kernel
theorem dX10_leaves_6 : decode cX10_leaves 6 = .ok (.ifCond .ne 5, 3) := by decide +kernel
theorem dX10_leaves_9 : decode cX10_leaves 9 = .ok (.iconst (-1), 1) := by decide +kernel
theorem dX10_leaves_10 : decode cX10_leaves 10 = .ok (.ireturn, 1) := by decide +kernel
theorem dX10_leaves_11 : decode cX10_leaves 11 = .ok (.iload_n 1, 1) := by decide +kernel
theorem dX10_leaves_12 : decode cX10_leaves 12 = .ok (.iload_n 2, 1) := by decide +kernel
theorem dX10_leaves_13 : decode cX10_leaves 13 = .ok (.invokestatic 77, 3) := by decide +kernel
theorem dX10_leaves_16 : decode cX10_leaves 16 = .ok (.istore_n 3, 1) := by decide +kernel
theorem dX10_leaves_17 : decode cX10_leaves 17 = .ok (.iload_n 3, 1) := by decide +kernel
theorem dX10_leaves_18 : decode cX10_leaves 18 = .ok (.iconst (-1), 1) := by decide +kernel
theorem dX10_leaves_19 : decode cX10_leaves 19 = .ok (.if_icmp .ne 11, 3) := by decide +kernel
theorem dX10_leaves_22 : decode cX10_leaves 22 = .ok (.aload_n 0, 1) := by decide +kernel
theorem dX10_leaves_23 : decode cX10_leaves 23 = .ok (.iconst 2, 1) := by decide +kernel
theorem dX10_leaves_24 : decode cX10_leaves 24 = .ok (.invokevirtual 50, 3) := by decide +kernel
theorem dX10_leaves_27 : decode cX10_leaves 27 = .ok (.goto 9, 3) := by decide +kernel
theorem dX10_leaves_30 : decode cX10_leaves 30 = .ok (.aload_n 0, 1) := by decide +kernel
theorem dX10_leaves_31 : decode cX10_leaves 31 = .ok (.getfield 9, 3) := by decide +kernel
theorem dX10_leaves_34 : decode cX10_leaves 34 = .ok (.iload_n 3, 1) := by decide +kernel
theorem dX10_leaves_35 : decode cX10_leaves 35 = .ok (.iaload, 1) := by decide +kernel
theorem dX10_leaves_36 : decode cX10_leaves 36 = .ok (.ireturn, 1) := by decide +kernel
theorem dX10_isGap_0 : decode cX10_isGap 0 = .ok (.aload_n 0, 1) := by decide +kernel
theorem dX10_isGap_1 : decode cX10_isGap 1 = .ok (.iload_n 1, 1) := by decide +kernel
theorem dX10_isGap_2 : decode cX10_isGap 2 = .ok (.iload_n 2, 1) := by decide +kernel
theorem dX10_isGap_3 : decode cX10_isGap 3 = .ok (.invokevirtual 174, 3) := by decide +kernel
theorem dX10_isGap_6 : decode cX10_isGap 6 = .ok (.ifCond .eq 19, 3) := by decide +kernel
theorem dX10_isGap_9 : decode cX10_isGap 9 = .ok (.aload_n 0, 1) := by decide +kernel
theorem dX10_isGap_10 : decode cX10_isGap 10 = .ok (.iload_n 1, 1) := by decide +kernel
theorem dX10_isGap_11 : decode cX10_isGap 11 = .ok (.iload_n 2, 1) := by decide +kernel
theorem dX10_isGap_12 : decode cX10_isGap 12 = .ok (.invokestatic 77, 3) := by decide +kernel
theorem dX10_isGap_15 : decode cX10_isGap 15 = .ok (.invokevirtual 80, 3) := by decide +kernel
theorem dX10_isGap_18 : decode cX10_isGap 18 = .ok (.ifCond .eq 7, 3) := by decide +kernel
theorem dX10_isGap_21 : decode cX10_isGap 21 = .ok (.iconst 1, 1) := by decide +kernel
theorem dX10_isGap_22 : decode cX10_isGap 22 = .ok (.goto 4, 3) := by decide +kernel
theorem dX10_isGap_25 : decode cX10_isGap 25 = .ok (.iconst 0, 1) := by decide +kernel
theorem dX10_isGap_26 : decode cX10_isGap 26 = .ok (.ireturn, 1) := by decide +kernel
theorem dX10_hours_0 : decode cX10_hours 0 = .ok (.aload_n 0, 1) := by decide +kernel
theorem dX10_hours_1 : decode cX10_hours 1 = .ok (.iload_n 1, 1) := by decide +kernel
theorem dX10_hours_2 : decode cX10_hours 2 = .ok (.iload_n 2, 1) := by decide +kernel
theorem dX10_hours_3 : decode cX10_hours 3 = .ok (.invokevirtual 174, 3) := by decide +kernel
theorem dX10_hours_6 : decode cX10_hours 6 = .ok (.ifCond .ne 5, 3) := by decide +kernel
theorem dX10_hours_9 : decode cX10_hours 9 = .ok (.iconst (-1), 1) := by decide +kernel
theorem dX10_hours_10 : decode cX10_hours 10 = .ok (.ireturn, 1) := by decide +kernel
theorem dX10_hours_11 : decode cX10_hours 11 = .ok (.aload_n 0, 1) := by decide +kernel
theorem dX10_hours_12 : decode cX10_hours 12 = .ok (.iload_n 1, 1) := by decide +kernel
theorem dX10_hours_13 : decode cX10_hours 13 = .ok (.iload_n 2, 1) := by decide +kernel
theorem dX10_hours_14 : decode cX10_hours 14 = .ok (.invokevirtual 142, 3) := by decide +kernel
theorem dX10_hours_17 : decode cX10_hours 17 = .ok (.istore_n 3, 1) := by decide +kernel
theorem dX10_hours_18 : decode cX10_hours 18 = .ok (.iload_n 3, 1) := by decide +kernel
theorem dX10_hours_19 : decode cX10_hours 19 = .ok (.iconst (-1), 1) := by decide +kernel
theorem dX10_hours_20 : decode cX10_hours 20 = .ok (.if_icmp .ne 11, 3) := by decide +kernel
theorem dX10_hours_23 : decode cX10_hours 23 = .ok (.aload_n 0, 1) := by decide +kernel
theorem dX10_hours_24 : decode cX10_hours 24 = .ok (.iconst 2, 1) := by decide +kernel
theorem dX10_hours_25 : decode cX10_hours 25 = .ok (.invokevirtual 50, 3) := by decide +kernel
theorem dX10_hours_28 : decode cX10_hours 28 = .ok (.goto 4, 3) := by decide +kernel
theorem dX10_hours_31 : decode cX10_hours 31 = .ok (.iload_n 3, 1) := by decide +kernel
theorem dX10_hours_32 : decode cX10_hours 32 = .ok (.ireturn, 1) := by decide +kernel
theorem dX10_hoursAgain_0 : decode cX10_hoursAgain 0 = .ok (.aload_n 0, 1) := by decide +kernel
theorem dX10_hoursAgain_1 : decode cX10_hoursAgain 1 = .ok (.iload_n 1, 1) := by decide +kernel
theorem dX10_hoursAgain_2 : decode cX10_hoursAgain 2 = .ok (.iload_n 2, 1) := by decide +kernel
theorem dX10_hoursAgain_3 : decode cX10_hoursAgain 3 = .ok (.invokevirtual 177, 3) := by decide +kernel
theorem dX10_hoursAgain_6 : decode cX10_hoursAgain 6 = .ok (.ireturn, 1) := by decide +kernel
theorem dX10_next_0 : decode cX10_next 0 = .ok (.aload_n 0, 1) := by decide +kernel
theorem dX10_next_1 : decode cX10_next 1 = .ok (.iload_n 1, 1) := by decide +kernel
theorem dX10_next_2 : decode cX10_next 2 = .ok (.iload_n 1, 1) := by decide +kernel
theorem dX10_next_3 : decode cX10_next 3 = .ok (.invokevirtual 174, 3) := by decide +kernel
theorem dX10_next_6 : decode cX10_next 6 = .ok (.ifCond .ne 5, 3) := by decide +kernel
theorem dX10_next_9 : decode cX10_next 9 = .ok (.iconst (-1), 1) := by decide +kernel
theorem dX10_next_10 : decode cX10_next 10 = .ok (.ireturn, 1) := by decide +kernel
theorem dX10_next_11 : decode cX10_next 11 = .ok (.aload_n 0, 1) := by decide +kernel
theorem dX10_next_12 : decode cX10_next 12 = .ok (.bipush 15, 2) := by decide +kernel
theorem dX10_next_14 : decode cX10_next 14 = .ok (.iconst 0, 1) := by decide +kernel
theorem dX10_next_15 : decode cX10_next 15 = .ok (.invokevirtual 84, 3) := by decide +kernel
theorem dX10_next_18 : decode cX10_next 18 = .ok (.iload_n 1, 1) := by decide +kernel
theorem dX10_next_19 : decode cX10_next 19 = .ok (.bipush 15, 2) := by decide +kernel
theorem dX10_next_21 : decode cX10_next 21 = .ok (.if_icmp .eq 14, 3) := by decide +kernel
theorem dX10_next_24 : decode cX10_next 24 = .ok (.aload_n 0, 1) := by decide +kernel
theorem dX10_next_25 : decode cX10_next 25 = .ok (.getfield 29, 3) := by decide +kernel
theorem dX10_next_28 : decode cX10_next 28 = .ok (.iload_n 1, 1) := by decide +kernel
theorem dX10_next_29 : decode cX10_next 29 = .ok (.iaload, 1) := by decide +kernel
theorem dX10_next_30 : decode cX10_next 30 = .ok (.bipush 99, 2) := by decide +kernel
theorem dX10_next_32 : decode cX10_next 32 = .ok (.if_icmp .lt 9, 3) := by decide +kernel
theorem dX10_next_35 : decode cX10_next 35 = .ok (.aload_n 0, 1) := by decide +kernel
theorem dX10_next_36 : decode cX10_next 36 = .ok (.iconst 2, 1) := by decide +kernel
theorem dX10_next_37 : decode cX10_next 37 = .ok (.invokevirtual 50, 3) := by decide +kernel
theorem dX10_next_40 : decode cX10_next 40 = .ok (.ireturn, 1) := by decide +kernel
theorem dX10_next_41 : decode cX10_next 41 = .ok (.iconst 0, 1) := by decide +kernel
theorem dX10_next_42 : decode cX10_next 42 = .ok (.istore_n 2, 1) := by decide +kernel
theorem dX10_next_43 : decode cX10_next 43 = .ok (.iload_n 1, 1) := by decide +kernel
theorem dX10_next_44 : decode cX10_next 44 = .ok (.iload_n 2, 1) := by decide +kernel
theorem dX10_next_45 : decode cX10_next 45 = .ok (.invokestatic 77, 3) := by decide +kernel
theorem dX10_next_48 : decode cX10_next 48 = .ok (.iconst (-1), 1) := by decide +kernel
theorem dX10_next_49 : decode cX10_next 49 = .ok (.if_icmp .eq 32, 3) := by decide +kernel
theorem dX10_next_52 : decode cX10_next 52 = .ok (.aload_n 0, 1) := by decide +kernel
theorem dX10_next_53 : decode cX10_next 53 = .ok (.iload_n 1, 1) := by decide +kernel
theorem dX10_next_54 : decode cX10_next 54 = .ok (.iload_n 2, 1) := by decide +kernel
theorem dX10_next_55 : decode cX10_next 55 = .ok (.invokestatic 77, 3) := by decide +kernel
theorem dX10_next_58 : decode cX10_next 58 = .ok (.invokevirtual 80, 3) := by decide +kernel
theorem dX10_next_61 : decode cX10_next 61 = .ok (.ifCond .eq 20, 3) := by decide +kernel
theorem dX10_next_64 : decode cX10_next 64 = .ok (.aload_n 0, 1) := by decide +kernel
theorem dX10_next_65 : decode cX10_next 65 = .ok (.getfield 29, 3) := by decide +kernel
theorem dX10_next_68 : decode cX10_next 68 = .ok (.iload_n 2, 1) := by decide +kernel
theorem dX10_next_69 : decode cX10_next 69 = .ok (.iaload, 1) := by decide +kernel
theorem dX10_next_70 : decode cX10_next 70 = .ok (.aload_n 0, 1) := by decide +kernel
theorem dX10_next_71 : decode cX10_next 71 = .ok (.getfield 29, 3) := by decide +kernel
theorem dX10_next_74 : decode cX10_next 74 = .ok (.iload_n 1, 1) := by decide +kernel
theorem dX10_next_75 : decode cX10_next 75 = .ok (.iaload, 1) := by decide +kernel
theorem dX10_next_76 : decode cX10_next 76 = .ok (.iconst 1, 1) := by decide +kernel
theorem dX10_next_77 : decode cX10_next 77 = .ok (.isub, 1) := by decide +kernel
theorem dX10_next_78 : decode cX10_next 78 = .ok (.if_icmp .eq 9, 3) := by decide +kernel
theorem dX10_next_81 : decode cX10_next 81 = .ok (.iinc 2 1, 3) := by decide +kernel
theorem dX10_next_84 : decode cX10_next 84 = .ok (.goto (-41), 3) := by decide +kernel
theorem dX10_next_87 : decode cX10_next 87 = .ok (.iload_n 2, 1) := by decide +kernel
theorem dX10_next_88 : decode cX10_next 88 = .ok (.ireturn, 1) := by decide +kernel
theorem dX10_reached_0 : decode cX10_reached 0 = .ok (.aload_n 0, 1) := by decide +kernel
theorem dX10_reached_1 : decode cX10_reached 1 = .ok (.iload_n 1, 1) := by decide +kernel
theorem dX10_reached_2 : decode cX10_reached 2 = .ok (.iload_n 1, 1) := by decide +kernel
theorem dX10_reached_3 : decode cX10_reached 3 = .ok (.invokevirtual 174, 3) := by decide +kernel
theorem dX10_reached_6 : decode cX10_reached 6 = .ok (.ifCond .eq 11, 3) := by decide +kernel
theorem dX10_reached_9 : decode cX10_reached 9 = .ok (.aload_n 0, 1) := by decide +kernel
theorem dX10_reached_10 : decode cX10_reached 10 = .ok (.iload_n 1, 1) := by decide +kernel
theorem dX10_reached_11 : decode cX10_reached 11 = .ok (.invokevirtual 145, 3) := by decide +kernel
theorem dX10_reached_14 : decode cX10_reached 14 = .ok (.goto 4, 3) := by decide +kernel
theorem dX10_reached_17 : decode cX10_reached 17 = .ok (.iconst (-1), 1) := by decide +kernel
theorem dX10_reached_18 : decode cX10_reached 18 = .ok (.ireturn, 1) := by decide +kernel
theorem dX10_trims_0 : decode cX10_trims 0 = .ok (.aload_n 0, 1) := by decide +kernel
theorem dX10_trims_1 : decode cX10_trims 1 = .ok (.iload_n 1, 1) := by decide +kernel
theorem dX10_trims_2 : decode cX10_trims 2 = .ok (.iload_n 1, 1) := by decide +kernel
theorem dX10_trims_3 : decode cX10_trims 3 = .ok (.invokevirtual 174, 3) := by decide +kernel
theorem dX10_trims_6 : decode cX10_trims 6 = .ok (.ifCond .ne 5, 3) := by decide +kernel
theorem dX10_trims_9 : decode cX10_trims 9 = .ok (.iconst (-1), 1) := by decide +kernel
theorem dX10_trims_10 : decode cX10_trims 10 = .ok (.ireturn, 1) := by decide +kernel
theorem dX10_trims_11 : decode cX10_trims 11 = .ok (.aload_n 0, 1) := by decide +kernel
theorem dX10_trims_12 : decode cX10_trims 12 = .ok (.iload_n 1, 1) := by decide +kernel
theorem dX10_trims_13 : decode cX10_trims 13 = .ok (.iconst 1, 1) := by decide +kernel
theorem dX10_trims_14 : decode cX10_trims 14 = .ok (.invokevirtual 84, 3) := by decide +kernel
theorem dX10_trims_17 : decode cX10_trims 17 = .ok (.aload_n 0, 1) := by decide +kernel
theorem dX10_trims_18 : decode cX10_trims 18 = .ok (.getfield 29, 3) := by decide +kernel
theorem dX10_trims_21 : decode cX10_trims 21 = .ok (.bipush 15, 2) := by decide +kernel
theorem dX10_trims_23 : decode cX10_trims 23 = .ok (.iaload, 1) := by decide +kernel
theorem dX10_trims_24 : decode cX10_trims 24 = .ok (.ireturn, 1) := by decide +kernel
theorem dX10_trimsAgain_0 : decode cX10_trimsAgain 0 = .ok (.aload_n 0, 1) := by decide +kernel
theorem dX10_trimsAgain_1 : decode cX10_trimsAgain 1 = .ok (.iload_n 1, 1) := by decide +kernel
theorem dX10_trimsAgain_2 : decode cX10_trimsAgain 2 = .ok (.invokevirtual 180, 3) := by decide +kernel
theorem dX10_trimsAgain_5 : decode cX10_trimsAgain 5 = .ok (.ireturn, 1) := by decide +kernel
theorem dX10_isNeeded_0 : decode cX10_isNeeded 0 = .ok (.aload_n 0, 1) := by decide +kernel
theorem dX10_isNeeded_1 : decode cX10_isNeeded 1 = .ok (.iload_n 1, 1) := by decide +kernel
theorem dX10_isNeeded_2 : decode cX10_isNeeded 2 = .ok (.iload_n 2, 1) := by decide +kernel
theorem dX10_isNeeded_3 : decode cX10_isNeeded 3 = .ok (.invokevirtual 174, 3) := by decide +kernel
theorem dX10_isNeeded_6 : decode cX10_isNeeded 6 = .ok (.ifCond .ne 5, 3) := by decide +kernel
theorem dX10_isNeeded_9 : decode cX10_isNeeded 9 = .ok (.iconst 0, 1) := by decide +kernel
theorem dX10_isNeeded_10 : decode cX10_isNeeded 10 = .ok (.ireturn, 1) := by decide +kernel
theorem dX10_isNeeded_11 : decode cX10_isNeeded 11 = .ok (.iload_n 1, 1) := by decide +kernel
theorem dX10_isNeeded_12 : decode cX10_isNeeded 12 = .ok (.iload_n 2, 1) := by decide +kernel
theorem dX10_isNeeded_13 : decode cX10_isNeeded 13 = .ok (.invokestatic 77, 3) := by decide +kernel
theorem dX10_isNeeded_16 : decode cX10_isNeeded 16 = .ok (.istore_n 3, 1) := by decide +kernel
theorem dX10_isNeeded_17 : decode cX10_isNeeded 17 = .ok (.iload_n 3, 1) := by decide +kernel
theorem dX10_isNeeded_18 : decode cX10_isNeeded 18 = .ok (.iconst (-1), 1) := by decide +kernel
theorem dX10_isNeeded_19 : decode cX10_isNeeded 19 = .ok (.if_icmp .ne 11, 3) := by decide +kernel
theorem dX10_isNeeded_22 : decode cX10_isNeeded 22 = .ok (.aload_n 0, 1) := by decide +kernel
theorem dX10_isNeeded_23 : decode cX10_isNeeded 23 = .ok (.iconst 2, 1) := by decide +kernel
theorem dX10_isNeeded_24 : decode cX10_isNeeded 24 = .ok (.invokevirtual 50, 3) := by decide +kernel
theorem dX10_isNeeded_27 : decode cX10_isNeeded 27 = .ok (.pop, 1) := by decide +kernel
theorem dX10_isNeeded_28 : decode cX10_isNeeded 28 = .ok (.iconst 0, 1) := by decide +kernel
theorem dX10_isNeeded_29 : decode cX10_isNeeded 29 = .ok (.ireturn, 1) := by decide +kernel
theorem dX10_isNeeded_30 : decode cX10_isNeeded 30 = .ok (.aload_n 0, 1) := by decide +kernel
theorem dX10_isNeeded_31 : decode cX10_isNeeded 31 = .ok (.iload_n 3, 1) := by decide +kernel
theorem dX10_isNeeded_32 : decode cX10_isNeeded 32 = .ok (.invokevirtual 80, 3) := by decide +kernel
theorem dX10_isNeeded_35 : decode cX10_isNeeded 35 = .ok (.ifCond .eq 14, 3) := by decide +kernel
theorem dX10_isNeeded_38 : decode cX10_isNeeded 38 = .ok (.aload_n 0, 1) := by decide +kernel
theorem dX10_isNeeded_39 : decode cX10_isNeeded 39 = .ok (.iconst 0, 1) := by decide +kernel
theorem dX10_isNeeded_40 : decode cX10_isNeeded 40 = .ok (.bipush 15, 2) := by decide +kernel
theorem dX10_isNeeded_42 : decode cX10_isNeeded 42 = .ok (.invokevirtual 142, 3) := by decide +kernel
theorem dX10_isNeeded_45 : decode cX10_isNeeded 45 = .ok (.iconst (-1), 1) := by decide +kernel
theorem dX10_isNeeded_46 : decode cX10_isNeeded 46 = .ok (.if_icmp .ne 5, 3) := by decide +kernel
theorem dX10_isNeeded_49 : decode cX10_isNeeded 49 = .ok (.iconst 0, 1) := by decide +kernel
theorem dX10_isNeeded_50 : decode cX10_isNeeded 50 = .ok (.ireturn, 1) := by decide +kernel
theorem dX10_isNeeded_51 : decode cX10_isNeeded 51 = .ok (.aload_n 0, 1) := by decide +kernel
theorem dX10_isNeeded_52 : decode cX10_isNeeded 52 = .ok (.getfield 9, 3) := by decide +kernel
theorem dX10_isNeeded_55 : decode cX10_isNeeded 55 = .ok (.iload_n 3, 1) := by decide +kernel
theorem dX10_isNeeded_56 : decode cX10_isNeeded 56 = .ok (.iaload, 1) := by decide +kernel
theorem dX10_isNeeded_57 : decode cX10_isNeeded 57 = .ok (.istore 4, 2) := by decide +kernel
theorem dX10_isNeeded_59 : decode cX10_isNeeded 59 = .ok (.aload_n 0, 1) := by decide +kernel
theorem dX10_isNeeded_60 : decode cX10_isNeeded 60 = .ok (.getfield 9, 3) := by decide +kernel
theorem dX10_isNeeded_63 : decode cX10_isNeeded 63 = .ok (.iload_n 3, 1) := by decide +kernel
theorem dX10_isNeeded_64 : decode cX10_isNeeded 64 = .ok (.iconst 5, 1) := by decide +kernel
theorem dX10_isNeeded_65 : decode cX10_isNeeded 65 = .ok (.iastore, 1) := by decide +kernel
theorem dX10_isNeeded_66 : decode cX10_isNeeded 66 = .ok (.aload_n 0, 1) := by decide +kernel
theorem dX10_isNeeded_67 : decode cX10_isNeeded 67 = .ok (.iconst 0, 1) := by decide +kernel
theorem dX10_isNeeded_68 : decode cX10_isNeeded 68 = .ok (.bipush 15, 2) := by decide +kernel
theorem dX10_isNeeded_70 : decode cX10_isNeeded 70 = .ok (.invokevirtual 142, 3) := by decide +kernel
theorem dX10_isNeeded_73 : decode cX10_isNeeded 73 = .ok (.iconst (-1), 1) := by decide +kernel
theorem dX10_isNeeded_74 : decode cX10_isNeeded 74 = .ok (.if_icmp .ne 7, 3) := by decide +kernel
theorem dX10_isNeeded_77 : decode cX10_isNeeded 77 = .ok (.iconst 1, 1) := by decide +kernel
theorem dX10_isNeeded_78 : decode cX10_isNeeded 78 = .ok (.goto 4, 3) := by decide +kernel
theorem dX10_isNeeded_81 : decode cX10_isNeeded 81 = .ok (.iconst 0, 1) := by decide +kernel
theorem dX10_isNeeded_82 : decode cX10_isNeeded 82 = .ok (.istore 5, 2) := by decide +kernel
theorem dX10_isNeeded_84 : decode cX10_isNeeded 84 = .ok (.aload_n 0, 1) := by decide +kernel
theorem dX10_isNeeded_85 : decode cX10_isNeeded 85 = .ok (.getfield 9, 3) := by decide +kernel
theorem dX10_isNeeded_88 : decode cX10_isNeeded 88 = .ok (.iload_n 3, 1) := by decide +kernel
theorem dX10_isNeeded_89 : decode cX10_isNeeded 89 = .ok (.iload 4, 2) := by decide +kernel
theorem dX10_isNeeded_91 : decode cX10_isNeeded 91 = .ok (.iastore, 1) := by decide +kernel
theorem dX10_isNeeded_92 : decode cX10_isNeeded 92 = .ok (.iload 5, 2) := by decide +kernel
theorem dX10_isNeeded_94 : decode cX10_isNeeded 94 = .ok (.ireturn, 1) := by decide +kernel
theorem dX10_closesIn_0 : decode cX10_closesIn 0 = .ok (.aload_n 0, 1) := by decide +kernel
theorem dX10_closesIn_1 : decode cX10_closesIn 1 = .ok (.iload_n 1, 1) := by decide +kernel
theorem dX10_closesIn_2 : decode cX10_closesIn 2 = .ok (.iload_n 2, 1) := by decide +kernel
theorem dX10_closesIn_3 : decode cX10_closesIn 3 = .ok (.invokevirtual 174, 3) := by decide +kernel
theorem dX10_closesIn_6 : decode cX10_closesIn 6 = .ok (.ifCond .ne 5, 3) := by decide +kernel
theorem dX10_closesIn_9 : decode cX10_closesIn 9 = .ok (.iconst (-1), 1) := by decide +kernel
theorem dX10_closesIn_10 : decode cX10_closesIn 10 = .ok (.ireturn, 1) := by decide +kernel
theorem dX10_closesIn_11 : decode cX10_closesIn 11 = .ok (.iload_n 1, 1) := by decide +kernel
theorem dX10_closesIn_12 : decode cX10_closesIn 12 = .ok (.iload_n 2, 1) := by decide +kernel
theorem dX10_closesIn_13 : decode cX10_closesIn 13 = .ok (.invokestatic 77, 3) := by decide +kernel
theorem dX10_closesIn_16 : decode cX10_closesIn 16 = .ok (.istore_n 3, 1) := by decide +kernel
theorem dX10_closesIn_17 : decode cX10_closesIn 17 = .ok (.iload_n 3, 1) := by decide +kernel
theorem dX10_closesIn_18 : decode cX10_closesIn 18 = .ok (.iconst (-1), 1) := by decide +kernel
theorem dX10_closesIn_19 : decode cX10_closesIn 19 = .ok (.if_icmp .ne 11, 3) := by decide +kernel
theorem dX10_closesIn_22 : decode cX10_closesIn 22 = .ok (.aload_n 0, 1) := by decide +kernel
theorem dX10_closesIn_23 : decode cX10_closesIn 23 = .ok (.iconst 2, 1) := by decide +kernel
theorem dX10_closesIn_24 : decode cX10_closesIn 24 = .ok (.invokevirtual 50, 3) := by decide +kernel
theorem dX10_closesIn_27 : decode cX10_closesIn 27 = .ok (.goto 15, 3) := by decide +kernel
theorem dX10_closesIn_30 : decode cX10_closesIn 30 = .ok (.iconst 0, 1) := by decide +kernel
theorem dX10_closesIn_31 : decode cX10_closesIn 31 = .ok (.iconst 5, 1) := by decide +kernel
theorem dX10_closesIn_32 : decode cX10_closesIn 32 = .ok (.aload_n 0, 1) := by decide +kernel
theorem dX10_closesIn_33 : decode cX10_closesIn 33 = .ok (.getfield 9, 3) := by decide +kernel
theorem dX10_closesIn_36 : decode cX10_closesIn 36 = .ok (.iload_n 3, 1) := by decide +kernel
theorem dX10_closesIn_37 : decode cX10_closesIn 37 = .ok (.iaload, 1) := by decide +kernel
theorem dX10_closesIn_38 : decode cX10_closesIn 38 = .ok (.isub, 1) := by decide +kernel
theorem dX10_closesIn_39 : decode cX10_closesIn 39 = .ok (.invokestatic 71, 3) := by decide +kernel
theorem dX10_closesIn_42 : decode cX10_closesIn 42 = .ok (.ireturn, 1) := by decide +kernel
theorem dX10_summersLeft_0 : decode cX10_summersLeft 0 = .ok (.aload_n 0, 1) := by decide +kernel
theorem dX10_summersLeft_1 : decode cX10_summersLeft 1 = .ok (.iconst 0, 1) := by decide +kernel
theorem dX10_summersLeft_2 : decode cX10_summersLeft 2 = .ok (.putfield 38, 3) := by decide +kernel
theorem dX10_summersLeft_5 : decode cX10_summersLeft 5 = .ok (.iconst 0, 1) := by decide +kernel
theorem dX10_summersLeft_6 : decode cX10_summersLeft 6 = .ok (.istore_n 1, 1) := by decide +kernel
theorem dX10_summersLeft_7 : decode cX10_summersLeft 7 = .ok (.aload_n 0, 1) := by decide +kernel
theorem dX10_summersLeft_8 : decode cX10_summersLeft 8 = .ok (.iconst 0, 1) := by decide +kernel
theorem dX10_summersLeft_9 : decode cX10_summersLeft 9 = .ok (.bipush 15, 2) := by decide +kernel
theorem dX10_summersLeft_11 : decode cX10_summersLeft 11 = .ok (.invokevirtual 142, 3) := by decide +kernel
theorem dX10_summersLeft_14 : decode cX10_summersLeft 14 = .ok (.iconst (-1), 1) := by decide +kernel
theorem dX10_summersLeft_15 : decode cX10_summersLeft 15 = .ok (.if_icmp .eq 36, 3) := by decide +kernel
theorem dX10_summersLeft_18 : decode cX10_summersLeft 18 = .ok (.iconst 0, 1) := by decide +kernel
theorem dX10_summersLeft_19 : decode cX10_summersLeft 19 = .ok (.istore_n 2, 1) := by decide +kernel
theorem dX10_summersLeft_20 : decode cX10_summersLeft 20 = .ok (.iload_n 2, 1) := by decide +kernel
theorem dX10_summersLeft_21 : decode cX10_summersLeft 21 = .ok (.bipush 24, 2) := by decide +kernel
theorem dX10_summersLeft_23 : decode cX10_summersLeft 23 = .ok (.if_icmp .ge 22, 3) := by decide +kernel
theorem dX10_summersLeft_26 : decode cX10_summersLeft 26 = .ok (.aload_n 0, 1) := by decide +kernel
theorem dX10_summersLeft_27 : decode cX10_summersLeft 27 = .ok (.getfield 9, 3) := by decide +kernel
theorem dX10_summersLeft_30 : decode cX10_summersLeft 30 = .ok (.bipush 6, 2) := by decide +kernel
theorem dX10_summersLeft_32 : decode cX10_summersLeft 32 = .ok (.iload_n 2, 1) := by decide +kernel
theorem dX10_summersLeft_33 : decode cX10_summersLeft 33 = .ok (.iadd, 1) := by decide +kernel
theorem dX10_summersLeft_34 : decode cX10_summersLeft 34 = .ok (.dup2, 1) := by decide +kernel
theorem dX10_summersLeft_35 : decode cX10_summersLeft 35 = .ok (.iaload, 1) := by decide +kernel
theorem dX10_summersLeft_36 : decode cX10_summersLeft 36 = .ok (.iconst 1, 1) := by decide +kernel
theorem dX10_summersLeft_37 : decode cX10_summersLeft 37 = .ok (.iadd, 1) := by decide +kernel
theorem dX10_summersLeft_38 : decode cX10_summersLeft 38 = .ok (.iastore, 1) := by decide +kernel
theorem dX10_summersLeft_39 : decode cX10_summersLeft 39 = .ok (.iinc 2 1, 3) := by decide +kernel
theorem dX10_summersLeft_42 : decode cX10_summersLeft 42 = .ok (.goto (-22), 3) := by decide +kernel
theorem dX10_summersLeft_45 : decode cX10_summersLeft 45 = .ok (.iinc 1 1, 3) := by decide +kernel
theorem dX10_summersLeft_48 : decode cX10_summersLeft 48 = .ok (.goto (-41), 3) := by decide +kernel
theorem dX10_summersLeft_51 : decode cX10_summersLeft 51 = .ok (.iconst 0, 1) := by decide +kernel
theorem dX10_summersLeft_52 : decode cX10_summersLeft 52 = .ok (.istore_n 2, 1) := by decide +kernel
theorem dX10_summersLeft_53 : decode cX10_summersLeft 53 = .ok (.iload_n 2, 1) := by decide +kernel
theorem dX10_summersLeft_54 : decode cX10_summersLeft 54 = .ok (.bipush 24, 2) := by decide +kernel
theorem dX10_summersLeft_56 : decode cX10_summersLeft 56 = .ok (.if_icmp .ge 22, 3) := by decide +kernel
theorem dX10_summersLeft_59 : decode cX10_summersLeft 59 = .ok (.aload_n 0, 1) := by decide +kernel
theorem dX10_summersLeft_60 : decode cX10_summersLeft 60 = .ok (.getfield 9, 3) := by decide +kernel
theorem dX10_summersLeft_63 : decode cX10_summersLeft 63 = .ok (.bipush 6, 2) := by decide +kernel
theorem dX10_summersLeft_65 : decode cX10_summersLeft 65 = .ok (.iload_n 2, 1) := by decide +kernel
theorem dX10_summersLeft_66 : decode cX10_summersLeft 66 = .ok (.iadd, 1) := by decide +kernel
theorem dX10_summersLeft_67 : decode cX10_summersLeft 67 = .ok (.dup2, 1) := by decide +kernel
theorem dX10_summersLeft_68 : decode cX10_summersLeft 68 = .ok (.iaload, 1) := by decide +kernel
theorem dX10_summersLeft_69 : decode cX10_summersLeft 69 = .ok (.iload_n 1, 1) := by decide +kernel
theorem dX10_summersLeft_70 : decode cX10_summersLeft 70 = .ok (.isub, 1) := by decide +kernel
theorem dX10_summersLeft_71 : decode cX10_summersLeft 71 = .ok (.iastore, 1) := by decide +kernel
theorem dX10_summersLeft_72 : decode cX10_summersLeft 72 = .ok (.iinc 2 1, 3) := by decide +kernel
theorem dX10_summersLeft_75 : decode cX10_summersLeft 75 = .ok (.goto (-22), 3) := by decide +kernel
theorem dX10_summersLeft_78 : decode cX10_summersLeft 78 = .ok (.iload_n 1, 1) := by decide +kernel
theorem dX10_summersLeft_79 : decode cX10_summersLeft 79 = .ok (.ireturn, 1) := by decide +kernel
theorem dX10_lasts_0 : decode cX10_lasts 0 = .ok (.aload_n 0, 1) := by decide +kernel
theorem dX10_lasts_1 : decode cX10_lasts 1 = .ok (.getfield 9, 3) := by decide +kernel
theorem dX10_lasts_4 : decode cX10_lasts 4 = .ok (.iload_n 1, 1) := by decide +kernel
theorem dX10_lasts_5 : decode cX10_lasts 5 = .ok (.invokestatic 126, 3) := by decide +kernel
theorem dX10_lasts_8 : decode cX10_lasts 8 = .ok (.iconst 4, 1) := by decide +kernel
theorem dX10_lasts_9 : decode cX10_lasts 9 = .ok (.iadd, 1) := by decide +kernel
theorem dX10_lasts_10 : decode cX10_lasts 10 = .ok (.iaload, 1) := by decide +kernel
theorem dX10_lasts_11 : decode cX10_lasts 11 = .ok (.iconst (-1), 1) := by decide +kernel
theorem dX10_lasts_12 : decode cX10_lasts 12 = .ok (.if_icmp .eq 22, 3) := by decide +kernel
theorem dX10_lasts_15 : decode cX10_lasts 15 = .ok (.aload_n 0, 1) := by decide +kernel
theorem dX10_lasts_16 : decode cX10_lasts 16 = .ok (.getfield 9, 3) := by decide +kernel
theorem dX10_lasts_19 : decode cX10_lasts 19 = .ok (.iload_n 1, 1) := by decide +kernel
theorem dX10_lasts_20 : decode cX10_lasts 20 = .ok (.invokestatic 126, 3) := by decide +kernel
theorem dX10_lasts_23 : decode cX10_lasts 23 = .ok (.bipush 7, 2) := by decide +kernel
theorem dX10_lasts_25 : decode cX10_lasts 25 = .ok (.iadd, 1) := by decide +kernel
theorem dX10_lasts_26 : decode cX10_lasts 26 = .ok (.iaload, 1) := by decide +kernel
theorem dX10_lasts_27 : decode cX10_lasts 27 = .ok (.ifCond .ne 7, 3) := by decide +kernel
theorem dX10_lasts_30 : decode cX10_lasts 30 = .ok (.iconst 1, 1) := by decide +kernel
theorem dX10_lasts_31 : decode cX10_lasts 31 = .ok (.goto 4, 3) := by decide +kernel
theorem dX10_lasts_34 : decode cX10_lasts 34 = .ok (.iconst 0, 1) := by decide +kernel
theorem dX10_lasts_35 : decode cX10_lasts 35 = .ok (.ireturn, 1) := by decide +kernel
theorem dX10_lasting_0 : decode cX10_lasting 0 = .ok (.iconst 0, 1) := by decide +kernel
theorem dX10_lasting_1 : decode cX10_lasting 1 = .ok (.istore_n 2, 1) := by decide +kernel
theorem dX10_lasting_2 : decode cX10_lasting 2 = .ok (.iconst 0, 1) := by decide +kernel
theorem dX10_lasting_3 : decode cX10_lasting 3 = .ok (.istore_n 3, 1) := by decide +kernel
theorem dX10_lasting_4 : decode cX10_lasting 4 = .ok (.iload_n 3, 1) := by decide +kernel
theorem dX10_lasting_5 : decode cX10_lasting 5 = .ok (.aload_n 0, 1) := by decide +kernel
theorem dX10_lasting_6 : decode cX10_lasting 6 = .ok (.getfield 9, 3) := by decide +kernel
theorem dX10_lasting_9 : decode cX10_lasting 9 = .ok (.iconst 1, 1) := by decide +kernel
theorem dX10_lasting_10 : decode cX10_lasting 10 = .ok (.iaload, 1) := by decide +kernel
theorem dX10_lasting_11 : decode cX10_lasting 11 = .ok (.if_icmp .ge 45, 3) := by decide +kernel
theorem dX10_lasting_14 : decode cX10_lasting 14 = .ok (.iload_n 2, 1) := by decide +kernel
theorem dX10_lasting_15 : decode cX10_lasting 15 = .ok (.aload_n 0, 1) := by decide +kernel
theorem dX10_lasting_16 : decode cX10_lasting 16 = .ok (.iload_n 3, 1) := by decide +kernel
theorem dX10_lasting_17 : decode cX10_lasting 17 = .ok (.invokevirtual 183, 3) := by decide +kernel
theorem dX10_lasting_20 : decode cX10_lasting 20 = .ok (.ifCond .eq 27, 3) := by decide +kernel
theorem dX10_lasting_23 : decode cX10_lasting 23 = .ok (.iload_n 1, 1) := by decide +kernel
theorem dX10_lasting_24 : decode cX10_lasting 24 = .ok (.iconst (-1), 1) := by decide +kernel
theorem dX10_lasting_25 : decode cX10_lasting 25 = .ok (.if_icmp .eq 18, 3) := by decide +kernel
theorem dX10_lasting_28 : decode cX10_lasting 28 = .ok (.aload_n 0, 1) := by decide +kernel
theorem dX10_lasting_29 : decode cX10_lasting 29 = .ok (.getfield 9, 3) := by decide +kernel
theorem dX10_lasting_32 : decode cX10_lasting 32 = .ok (.iload_n 3, 1) := by decide +kernel
theorem dX10_lasting_33 : decode cX10_lasting 33 = .ok (.invokestatic 126, 3) := by decide +kernel
theorem dX10_lasting_36 : decode cX10_lasting 36 = .ok (.iconst 4, 1) := by decide +kernel
theorem dX10_lasting_37 : decode cX10_lasting 37 = .ok (.iadd, 1) := by decide +kernel
theorem dX10_lasting_38 : decode cX10_lasting 38 = .ok (.iaload, 1) := by decide +kernel
theorem dX10_lasting_39 : decode cX10_lasting 39 = .ok (.iload_n 1, 1) := by decide +kernel
theorem dX10_lasting_40 : decode cX10_lasting 40 = .ok (.if_icmp .ne 7, 3) := by decide +kernel
theorem dX10_lasting_43 : decode cX10_lasting 43 = .ok (.iconst 1, 1) := by decide +kernel
theorem dX10_lasting_44 : decode cX10_lasting 44 = .ok (.goto 4, 3) := by decide +kernel
theorem dX10_lasting_47 : decode cX10_lasting 47 = .ok (.iconst 0, 1) := by decide +kernel
theorem dX10_lasting_48 : decode cX10_lasting 48 = .ok (.iadd, 1) := by decide +kernel
theorem dX10_lasting_49 : decode cX10_lasting 49 = .ok (.istore_n 2, 1) := by decide +kernel
theorem dX10_lasting_50 : decode cX10_lasting 50 = .ok (.iinc 3 1, 3) := by decide +kernel
theorem dX10_lasting_53 : decode cX10_lasting 53 = .ok (.goto (-49), 3) := by decide +kernel
theorem dX10_lasting_56 : decode cX10_lasting 56 = .ok (.iload_n 2, 1) := by decide +kernel
theorem dX10_lasting_57 : decode cX10_lasting 57 = .ok (.ireturn, 1) := by decide +kernel
theorem dX10_gardenerOf_0 : decode cX10_gardenerOf 0 = .ok (.aload_n 0, 1) := by decide +kernel
theorem dX10_gardenerOf_1 : decode cX10_gardenerOf 1 = .ok (.iconst 0, 1) := by decide +kernel
theorem dX10_gardenerOf_2 : decode cX10_gardenerOf 2 = .ok (.putfield 38, 3) := by decide +kernel
theorem dX10_gardenerOf_5 : decode cX10_gardenerOf 5 = .ok (.aload_n 0, 1) := by decide +kernel
theorem dX10_gardenerOf_6 : decode cX10_gardenerOf 6 = .ok (.iload_n 1, 1) := by decide +kernel
theorem dX10_gardenerOf_7 : decode cX10_gardenerOf 7 = .ok (.invokevirtual 117, 3) := by decide +kernel
theorem dX10_gardenerOf_10 : decode cX10_gardenerOf 10 = .ok (.ifCond .ne 9, 3) := by decide +kernel
theorem dX10_gardenerOf_13 : decode cX10_gardenerOf 13 = .ok (.aload_n 0, 1) := by decide +kernel
theorem dX10_gardenerOf_14 : decode cX10_gardenerOf 14 = .ok (.iconst 1, 1) := by decide +kernel
theorem dX10_gardenerOf_15 : decode cX10_gardenerOf 15 = .ok (.invokevirtual 50, 3) := by decide +kernel
theorem dX10_gardenerOf_18 : decode cX10_gardenerOf 18 = .ok (.ireturn, 1) := by decide +kernel
theorem dX10_gardenerOf_19 : decode cX10_gardenerOf 19 = .ok (.iload_n 2, 1) := by decide +kernel
theorem dX10_gardenerOf_20 : decode cX10_gardenerOf 20 = .ok (.tableswitch 66 0 4 #[36, 46, 52, 52, 52], 36) := by decide +kernel
theorem dX10_gardenerOf_56 : decode cX10_gardenerOf 56 = .ok (.aload_n 0, 1) := by decide +kernel
theorem dX10_gardenerOf_57 : decode cX10_gardenerOf 57 = .ok (.getfield 9, 3) := by decide +kernel
theorem dX10_gardenerOf_60 : decode cX10_gardenerOf 60 = .ok (.iload_n 1, 1) := by decide +kernel
theorem dX10_gardenerOf_61 : decode cX10_gardenerOf 61 = .ok (.invokestatic 120, 3) := by decide +kernel
theorem dX10_gardenerOf_64 : decode cX10_gardenerOf 64 = .ok (.iaload, 1) := by decide +kernel
theorem dX10_gardenerOf_65 : decode cX10_gardenerOf 65 = .ok (.ireturn, 1) := by decide +kernel
theorem dX10_gardenerOf_66 : decode cX10_gardenerOf 66 = .ok (.aload_n 0, 1) := by decide +kernel
theorem dX10_gardenerOf_67 : decode cX10_gardenerOf 67 = .ok (.iload_n 1, 1) := by decide +kernel
theorem dX10_gardenerOf_68 : decode cX10_gardenerOf 68 = .ok (.invokevirtual 186, 3) := by decide +kernel
theorem dX10_gardenerOf_71 : decode cX10_gardenerOf 71 = .ok (.ireturn, 1) := by decide +kernel
theorem dX10_gardenerOf_72 : decode cX10_gardenerOf 72 = .ok (.aload_n 0, 1) := by decide +kernel
theorem dX10_gardenerOf_73 : decode cX10_gardenerOf 73 = .ok (.getfield 9, 3) := by decide +kernel
theorem dX10_gardenerOf_76 : decode cX10_gardenerOf 76 = .ok (.iload_n 1, 1) := by decide +kernel
theorem dX10_gardenerOf_77 : decode cX10_gardenerOf 77 = .ok (.invokestatic 120, 3) := by decide +kernel
theorem dX10_gardenerOf_80 : decode cX10_gardenerOf 80 = .ok (.iload_n 2, 1) := by decide +kernel
theorem dX10_gardenerOf_81 : decode cX10_gardenerOf 81 = .ok (.iadd, 1) := by decide +kernel
theorem dX10_gardenerOf_82 : decode cX10_gardenerOf 82 = .ok (.iconst 1, 1) := by decide +kernel
theorem dX10_gardenerOf_83 : decode cX10_gardenerOf 83 = .ok (.isub, 1) := by decide +kernel
theorem dX10_gardenerOf_84 : decode cX10_gardenerOf 84 = .ok (.iaload, 1) := by decide +kernel
theorem dX10_gardenerOf_85 : decode cX10_gardenerOf 85 = .ok (.ireturn, 1) := by decide +kernel
theorem dX10_gardenerOf_86 : decode cX10_gardenerOf 86 = .ok (.aload_n 0, 1) := by decide +kernel
theorem dX10_gardenerOf_87 : decode cX10_gardenerOf 87 = .ok (.iconst 2, 1) := by decide +kernel
theorem dX10_gardenerOf_88 : decode cX10_gardenerOf 88 = .ok (.invokevirtual 50, 3) := by decide +kernel
theorem dX10_gardenerOf_91 : decode cX10_gardenerOf 91 = .ok (.ireturn, 1) := by decide +kernel
theorem dX10_visitorOf_0 : decode cX10_visitorOf 0 = .ok (.aload_n 0, 1) := by decide +kernel
theorem dX10_visitorOf_1 : decode cX10_visitorOf 1 = .ok (.iconst 0, 1) := by decide +kernel
theorem dX10_visitorOf_2 : decode cX10_visitorOf 2 = .ok (.putfield 38, 3) := by decide +kernel
theorem dX10_visitorOf_5 : decode cX10_visitorOf 5 = .ok (.aload_n 0, 1) := by decide +kernel
theorem dX10_visitorOf_6 : decode cX10_visitorOf 6 = .ok (.iload_n 1, 1) := by decide +kernel
theorem dX10_visitorOf_7 : decode cX10_visitorOf 7 = .ok (.invokevirtual 154, 3) := by decide +kernel
theorem dX10_visitorOf_10 : decode cX10_visitorOf 10 = .ok (.ifCond .ne 9, 3) := by decide +kernel
theorem dX10_visitorOf_13 : decode cX10_visitorOf 13 = .ok (.aload_n 0, 1) := by decide +kernel
theorem dX10_visitorOf_14 : decode cX10_visitorOf 14 = .ok (.iconst 1, 1) := by decide +kernel
theorem dX10_visitorOf_15 : decode cX10_visitorOf 15 = .ok (.invokevirtual 50, 3) := by decide +kernel
theorem dX10_visitorOf_18 : decode cX10_visitorOf 18 = .ok (.ireturn, 1) := by decide +kernel
theorem dX10_visitorOf_19 : decode cX10_visitorOf 19 = .ok (.iload_n 1, 1) := by decide +kernel
theorem dX10_visitorOf_20 : decode cX10_visitorOf 20 = .ok (.invokestatic 126, 3) := by decide +kernel
theorem dX10_visitorOf_23 : decode cX10_visitorOf 23 = .ok (.istore_n 3, 1) := by decide +kernel
theorem dX10_visitorOf_24 : decode cX10_visitorOf 24 = .ok (.iload_n 2, 1) := by decide +kernel
theorem dX10_visitorOf_25 : decode cX10_visitorOf 25 = .ok (.tableswitch 77 0 8 #[51, 51, 51, 51, 60, 66, 66, 66, 66], 51) := by decide +kernel
theorem dX10_visitorOf_76 : decode cX10_visitorOf 76 = .ok (.aload_n 0, 1) := by decide +kernel
theorem dX10_visitorOf_77 : decode cX10_visitorOf 77 = .ok (.getfield 9, 3) := by decide +kernel
theorem dX10_visitorOf_80 : decode cX10_visitorOf 80 = .ok (.iload_n 3, 1) := by decide +kernel
theorem dX10_visitorOf_81 : decode cX10_visitorOf 81 = .ok (.iload_n 2, 1) := by decide +kernel
theorem dX10_visitorOf_82 : decode cX10_visitorOf 82 = .ok (.iadd, 1) := by decide +kernel
theorem dX10_visitorOf_83 : decode cX10_visitorOf 83 = .ok (.iaload, 1) := by decide +kernel
theorem dX10_visitorOf_84 : decode cX10_visitorOf 84 = .ok (.ireturn, 1) := by decide +kernel
theorem dX10_visitorOf_85 : decode cX10_visitorOf 85 = .ok (.aload_n 0, 1) := by decide +kernel
theorem dX10_visitorOf_86 : decode cX10_visitorOf 86 = .ok (.iload_n 1, 1) := by decide +kernel
theorem dX10_visitorOf_87 : decode cX10_visitorOf 87 = .ok (.invokevirtual 162, 3) := by decide +kernel
theorem dX10_visitorOf_90 : decode cX10_visitorOf 90 = .ok (.ireturn, 1) := by decide +kernel
theorem dX10_visitorOf_91 : decode cX10_visitorOf 91 = .ok (.aload_n 0, 1) := by decide +kernel
theorem dX10_visitorOf_92 : decode cX10_visitorOf 92 = .ok (.getfield 9, 3) := by decide +kernel
theorem dX10_visitorOf_95 : decode cX10_visitorOf 95 = .ok (.iload_n 3, 1) := by decide +kernel
theorem dX10_visitorOf_96 : decode cX10_visitorOf 96 = .ok (.iload_n 2, 1) := by decide +kernel
theorem dX10_visitorOf_97 : decode cX10_visitorOf 97 = .ok (.iadd, 1) := by decide +kernel
theorem dX10_visitorOf_98 : decode cX10_visitorOf 98 = .ok (.iconst 1, 1) := by decide +kernel
theorem dX10_visitorOf_99 : decode cX10_visitorOf 99 = .ok (.isub, 1) := by decide +kernel
theorem dX10_visitorOf_100 : decode cX10_visitorOf 100 = .ok (.iaload, 1) := by decide +kernel
theorem dX10_visitorOf_101 : decode cX10_visitorOf 101 = .ok (.ireturn, 1) := by decide +kernel
theorem dX10_visitorOf_102 : decode cX10_visitorOf 102 = .ok (.aload_n 0, 1) := by decide +kernel
theorem dX10_visitorOf_103 : decode cX10_visitorOf 103 = .ok (.iconst 2, 1) := by decide +kernel
theorem dX10_visitorOf_104 : decode cX10_visitorOf 104 = .ok (.invokevirtual 50, 3) := by decide +kernel
theorem dX10_visitorOf_107 : decode cX10_visitorOf 107 = .ok (.ireturn, 1) := by decide +kernel
theorem dX10_wouldPay_0 : decode cX10_wouldPay 0 = .ok (.aload_n 0, 1) := by decide +kernel
theorem dX10_wouldPay_1 : decode cX10_wouldPay 1 = .ok (.iconst 0, 1) := by decide +kernel
theorem dX10_wouldPay_2 : decode cX10_wouldPay 2 = .ok (.putfield 38, 3) := by decide +kernel
theorem dX10_wouldPay_5 : decode cX10_wouldPay 5 = .ok (.aload_n 0, 1) := by decide +kernel
theorem dX10_wouldPay_6 : decode cX10_wouldPay 6 = .ok (.iload_n 1, 1) := by decide +kernel
theorem dX10_wouldPay_7 : decode cX10_wouldPay 7 = .ok (.invokevirtual 154, 3) := by decide +kernel
theorem dX10_wouldPay_10 : decode cX10_wouldPay 10 = .ok (.ifCond .ne 9, 3) := by decide +kernel
theorem dX10_wouldPay_13 : decode cX10_wouldPay 13 = .ok (.aload_n 0, 1) := by decide +kernel
theorem dX10_wouldPay_14 : decode cX10_wouldPay 14 = .ok (.iconst 1, 1) := by decide +kernel
theorem dX10_wouldPay_15 : decode cX10_wouldPay 15 = .ok (.invokevirtual 50, 3) := by decide +kernel
theorem dX10_wouldPay_18 : decode cX10_wouldPay 18 = .ok (.ireturn, 1) := by decide +kernel
theorem dX10_wouldPay_19 : decode cX10_wouldPay 19 = .ok (.iload_n 1, 1) := by decide +kernel
theorem dX10_wouldPay_20 : decode cX10_wouldPay 20 = .ok (.invokestatic 126, 3) := by decide +kernel
theorem dX10_wouldPay_23 : decode cX10_wouldPay 23 = .ok (.istore_n 2, 1) := by decide +kernel
theorem dX10_wouldPay_24 : decode cX10_wouldPay 24 = .ok (.aload_n 0, 1) := by decide +kernel
theorem dX10_wouldPay_25 : decode cX10_wouldPay 25 = .ok (.aload_n 0, 1) := by decide +kernel
theorem dX10_wouldPay_26 : decode cX10_wouldPay 26 = .ok (.getfield 9, 3) := by decide +kernel
theorem dX10_wouldPay_29 : decode cX10_wouldPay 29 = .ok (.iload_n 2, 1) := by decide +kernel
theorem dX10_wouldPay_30 : decode cX10_wouldPay 30 = .ok (.iconst 1, 1) := by decide +kernel
theorem dX10_wouldPay_31 : decode cX10_wouldPay 31 = .ok (.iadd, 1) := by decide +kernel
theorem dX10_wouldPay_32 : decode cX10_wouldPay 32 = .ok (.iaload, 1) := by decide +kernel
theorem dX10_wouldPay_33 : decode cX10_wouldPay 33 = .ok (.bipush 15, 2) := by decide +kernel
theorem dX10_wouldPay_35 : decode cX10_wouldPay 35 = .ok (.invokevirtual 142, 3) := by decide +kernel
theorem dX10_wouldPay_38 : decode cX10_wouldPay 38 = .ok (.istore_n 3, 1) := by decide +kernel
theorem dX10_wouldPay_39 : decode cX10_wouldPay 39 = .ok (.aload_n 0, 1) := by decide +kernel
theorem dX10_wouldPay_40 : decode cX10_wouldPay 40 = .ok (.iload_n 1, 1) := by decide +kernel
theorem dX10_wouldPay_41 : decode cX10_wouldPay 41 = .ok (.invokevirtual 183, 3) := by decide +kernel
theorem dX10_wouldPay_44 : decode cX10_wouldPay 44 = .ok (.ifCond .eq 8, 3) := by decide +kernel
theorem dX10_wouldPay_47 : decode cX10_wouldPay 47 = .ok (.iload_n 3, 1) := by decide +kernel
theorem dX10_wouldPay_48 : decode cX10_wouldPay 48 = .ok (.iconst (-1), 1) := by decide +kernel
theorem dX10_wouldPay_49 : decode cX10_wouldPay 49 = .ok (.if_icmp .ne 9, 3) := by decide +kernel
theorem dX10_wouldPay_52 : decode cX10_wouldPay 52 = .ok (.aload_n 0, 1) := by decide +kernel
theorem dX10_wouldPay_53 : decode cX10_wouldPay 53 = .ok (.iconst 2, 1) := by decide +kernel
theorem dX10_wouldPay_54 : decode cX10_wouldPay 54 = .ok (.invokevirtual 50, 3) := by decide +kernel
theorem dX10_wouldPay_57 : decode cX10_wouldPay 57 = .ok (.ireturn, 1) := by decide +kernel
theorem dX10_wouldPay_58 : decode cX10_wouldPay 58 = .ok (.aload_n 0, 1) := by decide +kernel
theorem dX10_wouldPay_59 : decode cX10_wouldPay 59 = .ok (.iload_n 1, 1) := by decide +kernel
theorem dX10_wouldPay_60 : decode cX10_wouldPay 60 = .ok (.iconst 0, 1) := by decide +kernel
theorem dX10_wouldPay_61 : decode cX10_wouldPay 61 = .ok (.aload_n 0, 1) := by decide +kernel
theorem dX10_wouldPay_62 : decode cX10_wouldPay 62 = .ok (.getfield 9, 3) := by decide +kernel
theorem dX10_wouldPay_65 : decode cX10_wouldPay 65 = .ok (.iload_n 2, 1) := by decide +kernel
theorem dX10_wouldPay_66 : decode cX10_wouldPay 66 = .ok (.iconst 2, 1) := by decide +kernel
theorem dX10_wouldPay_67 : decode cX10_wouldPay 67 = .ok (.iadd, 1) := by decide +kernel
theorem dX10_wouldPay_68 : decode cX10_wouldPay 68 = .ok (.iaload, 1) := by decide +kernel
theorem dX10_wouldPay_69 : decode cX10_wouldPay 69 = .ok (.iload_n 3, 1) := by decide +kernel
theorem dX10_wouldPay_70 : decode cX10_wouldPay 70 = .ok (.iadd, 1) := by decide +kernel
theorem dX10_wouldPay_71 : decode cX10_wouldPay 71 = .ok (.aload_n 0, 1) := by decide +kernel
theorem dX10_wouldPay_72 : decode cX10_wouldPay 72 = .ok (.getfield 9, 3) := by decide +kernel
theorem dX10_wouldPay_75 : decode cX10_wouldPay 75 = .ok (.iload_n 2, 1) := by decide +kernel
theorem dX10_wouldPay_76 : decode cX10_wouldPay 76 = .ok (.iconst 3, 1) := by decide +kernel
theorem dX10_wouldPay_77 : decode cX10_wouldPay 77 = .ok (.iadd, 1) := by decide +kernel
theorem dX10_wouldPay_78 : decode cX10_wouldPay 78 = .ok (.iaload, 1) := by decide +kernel
theorem dX10_wouldPay_79 : decode cX10_wouldPay 79 = .ok (.isub, 1) := by decide +kernel
theorem dX10_wouldPay_80 : decode cX10_wouldPay 80 = .ok (.invokestatic 71, 3) := by decide +kernel
theorem dX10_wouldPay_83 : decode cX10_wouldPay 83 = .ok (.invokevirtual 165, 3) := by decide +kernel
theorem dX10_wouldPay_86 : decode cX10_wouldPay 86 = .ok (.ireturn, 1) := by decide +kernel
theorem dX10_owedBy_0 : decode cX10_owedBy 0 = .ok (.iconst 0, 1) := by decide +kernel
theorem dX10_owedBy_1 : decode cX10_owedBy 1 = .ok (.istore_n 2, 1) := by decide +kernel
theorem dX10_owedBy_2 : decode cX10_owedBy 2 = .ok (.iconst 0, 1) := by decide +kernel
theorem dX10_owedBy_3 : decode cX10_owedBy 3 = .ok (.istore_n 3, 1) := by decide +kernel
theorem dX10_owedBy_4 : decode cX10_owedBy 4 = .ok (.iload_n 3, 1) := by decide +kernel
theorem dX10_owedBy_5 : decode cX10_owedBy 5 = .ok (.aload_n 0, 1) := by decide +kernel
theorem dX10_owedBy_6 : decode cX10_owedBy 6 = .ok (.getfield 9, 3) := by decide +kernel
theorem dX10_owedBy_9 : decode cX10_owedBy 9 = .ok (.iconst 1, 1) := by decide +kernel
theorem dX10_owedBy_10 : decode cX10_owedBy 10 = .ok (.iaload, 1) := by decide +kernel
theorem dX10_owedBy_11 : decode cX10_owedBy 11 = .ok (.if_icmp .ge 83, 3) := by decide +kernel
theorem dX10_owedBy_14 : decode cX10_owedBy 14 = .ok (.iload_n 3, 1) := by decide +kernel
theorem dX10_owedBy_15 : decode cX10_owedBy 15 = .ok (.invokestatic 126, 3) := by decide +kernel
theorem dX10_owedBy_18 : decode cX10_owedBy 18 = .ok (.istore 4, 2) := by decide +kernel
theorem dX10_owedBy_20 : decode cX10_owedBy 20 = .ok (.aload_n 0, 1) := by decide +kernel
theorem dX10_owedBy_21 : decode cX10_owedBy 21 = .ok (.iload_n 3, 1) := by decide +kernel
theorem dX10_owedBy_22 : decode cX10_owedBy 22 = .ok (.invokevirtual 183, 3) := by decide +kernel
theorem dX10_owedBy_25 : decode cX10_owedBy 25 = .ok (.ifCond .eq 33, 3) := by decide +kernel
theorem dX10_owedBy_28 : decode cX10_owedBy 28 = .ok (.aload_n 0, 1) := by decide +kernel
theorem dX10_owedBy_29 : decode cX10_owedBy 29 = .ok (.getfield 9, 3) := by decide +kernel
theorem dX10_owedBy_32 : decode cX10_owedBy 32 = .ok (.iload 4, 2) := by decide +kernel
theorem dX10_owedBy_34 : decode cX10_owedBy 34 = .ok (.iconst 4, 1) := by decide +kernel
theorem dX10_owedBy_35 : decode cX10_owedBy 35 = .ok (.iadd, 1) := by decide +kernel
theorem dX10_owedBy_36 : decode cX10_owedBy 36 = .ok (.iaload, 1) := by decide +kernel
theorem dX10_owedBy_37 : decode cX10_owedBy 37 = .ok (.iload_n 1, 1) := by decide +kernel
theorem dX10_owedBy_38 : decode cX10_owedBy 38 = .ok (.if_icmp .ne 20, 3) := by decide +kernel
theorem dX10_owedBy_41 : decode cX10_owedBy 41 = .ok (.aload_n 0, 1) := by decide +kernel
theorem dX10_owedBy_42 : decode cX10_owedBy 42 = .ok (.getfield 9, 3) := by decide +kernel
theorem dX10_owedBy_45 : decode cX10_owedBy 45 = .ok (.iload 4, 2) := by decide +kernel
theorem dX10_owedBy_47 : decode cX10_owedBy 47 = .ok (.bipush 6, 2) := by decide +kernel
theorem dX10_owedBy_49 : decode cX10_owedBy 49 = .ok (.iadd, 1) := by decide +kernel
theorem dX10_owedBy_50 : decode cX10_owedBy 50 = .ok (.iaload, 1) := by decide +kernel
theorem dX10_owedBy_51 : decode cX10_owedBy 51 = .ok (.ifCond .ne 7, 3) := by decide +kernel
theorem dX10_owedBy_54 : decode cX10_owedBy 54 = .ok (.iconst 1, 1) := by decide +kernel
theorem dX10_owedBy_55 : decode cX10_owedBy 55 = .ok (.goto 4, 3) := by decide +kernel
theorem dX10_owedBy_58 : decode cX10_owedBy 58 = .ok (.iconst 0, 1) := by decide +kernel
theorem dX10_owedBy_59 : decode cX10_owedBy 59 = .ok (.istore 5, 2) := by decide +kernel
theorem dX10_owedBy_61 : decode cX10_owedBy 61 = .ok (.iload_n 2, 1) := by decide +kernel
theorem dX10_owedBy_62 : decode cX10_owedBy 62 = .ok (.iload 5, 2) := by decide +kernel
theorem dX10_owedBy_64 : decode cX10_owedBy 64 = .ok (.ifCond .eq 21, 3) := by decide +kernel
theorem dX10_owedBy_67 : decode cX10_owedBy 67 = .ok (.aload_n 0, 1) := by decide +kernel
theorem dX10_owedBy_68 : decode cX10_owedBy 68 = .ok (.getfield 9, 3) := by decide +kernel
theorem dX10_owedBy_71 : decode cX10_owedBy 71 = .ok (.iload 4, 2) := by decide +kernel
theorem dX10_owedBy_73 : decode cX10_owedBy 73 = .ok (.iconst 5, 1) := by decide +kernel
theorem dX10_owedBy_74 : decode cX10_owedBy 74 = .ok (.iadd, 1) := by decide +kernel
theorem dX10_owedBy_75 : decode cX10_owedBy 75 = .ok (.iaload, 1) := by decide +kernel
theorem dX10_owedBy_76 : decode cX10_owedBy 76 = .ok (.aload_n 0, 1) := by decide +kernel
theorem dX10_owedBy_77 : decode cX10_owedBy 77 = .ok (.iload_n 3, 1) := by decide +kernel
theorem dX10_owedBy_78 : decode cX10_owedBy 78 = .ok (.invokevirtual 162, 3) := by decide +kernel
theorem dX10_owedBy_81 : decode cX10_owedBy 81 = .ok (.imul, 1) := by decide +kernel
theorem dX10_owedBy_82 : decode cX10_owedBy 82 = .ok (.goto 4, 3) := by decide +kernel
theorem dX10_owedBy_85 : decode cX10_owedBy 85 = .ok (.iconst 0, 1) := by decide +kernel
theorem dX10_owedBy_86 : decode cX10_owedBy 86 = .ok (.iadd, 1) := by decide +kernel
theorem dX10_owedBy_87 : decode cX10_owedBy 87 = .ok (.istore_n 2, 1) := by decide +kernel
theorem dX10_owedBy_88 : decode cX10_owedBy 88 = .ok (.iinc 3 1, 3) := by decide +kernel
theorem dX10_owedBy_91 : decode cX10_owedBy 91 = .ok (.goto (-87), 3) := by decide +kernel
theorem dX10_owedBy_94 : decode cX10_owedBy 94 = .ok (.iload_n 2, 1) := by decide +kernel
theorem dX10_owedBy_95 : decode cX10_owedBy 95 = .ok (.ireturn, 1) := by decide +kernel
theorem dX10_owed_0 : decode cX10_owed 0 = .ok (.aload_n 0, 1) := by decide +kernel
theorem dX10_owed_1 : decode cX10_owed 1 = .ok (.iconst 0, 1) := by decide +kernel
theorem dX10_owed_2 : decode cX10_owed 2 = .ok (.putfield 38, 3) := by decide +kernel
theorem dX10_owed_5 : decode cX10_owed 5 = .ok (.aload_n 0, 1) := by decide +kernel
theorem dX10_owed_6 : decode cX10_owed 6 = .ok (.iload_n 1, 1) := by decide +kernel
theorem dX10_owed_7 : decode cX10_owed 7 = .ok (.invokevirtual 117, 3) := by decide +kernel
theorem dX10_owed_10 : decode cX10_owed 10 = .ok (.ifCond .eq 11, 3) := by decide +kernel
theorem dX10_owed_13 : decode cX10_owed 13 = .ok (.aload_n 0, 1) := by decide +kernel
theorem dX10_owed_14 : decode cX10_owed 14 = .ok (.iload_n 1, 1) := by decide +kernel
theorem dX10_owed_15 : decode cX10_owed 15 = .ok (.invokevirtual 189, 3) := by decide +kernel
theorem dX10_owed_18 : decode cX10_owed 18 = .ok (.goto 8, 3) := by decide +kernel
theorem dX10_owed_21 : decode cX10_owed 21 = .ok (.aload_n 0, 1) := by decide +kernel
theorem dX10_owed_22 : decode cX10_owed 22 = .ok (.iconst 1, 1) := by decide +kernel
theorem dX10_owed_23 : decode cX10_owed 23 = .ok (.invokevirtual 50, 3) := by decide +kernel
theorem dX10_owed_26 : decode cX10_owed 26 = .ok (.ireturn, 1) := by decide +kernel
theorem dX10_measured_0 : decode cX10_measured 0 = .ok (.iload_n 2, 1) := by decide +kernel
theorem dX10_measured_1 : decode cX10_measured 1 = .ok (.invokestatic 126, 3) := by decide +kernel
theorem dX10_measured_4 : decode cX10_measured 4 = .ok (.istore_n 3, 1) := by decide +kernel
theorem dX10_measured_5 : decode cX10_measured 5 = .ok (.iload_n 1, 1) := by decide +kernel
theorem dX10_measured_6 : decode cX10_measured 6 = .ok (.tableswitch 48 0 2 #[26, 33, 42], 26) := by decide +kernel
theorem dX10_measured_32 : decode cX10_measured 32 = .ok (.aload_n 0, 1) := by decide +kernel
theorem dX10_measured_33 : decode cX10_measured 33 = .ok (.getfield 9, 3) := by decide +kernel
theorem dX10_measured_36 : decode cX10_measured 36 = .ok (.iload_n 3, 1) := by decide +kernel
theorem dX10_measured_37 : decode cX10_measured 37 = .ok (.iaload, 1) := by decide +kernel
theorem dX10_measured_38 : decode cX10_measured 38 = .ok (.ireturn, 1) := by decide +kernel
theorem dX10_measured_39 : decode cX10_measured 39 = .ok (.aload_n 0, 1) := by decide +kernel
theorem dX10_measured_40 : decode cX10_measured 40 = .ok (.getfield 9, 3) := by decide +kernel
theorem dX10_measured_43 : decode cX10_measured 43 = .ok (.iload_n 3, 1) := by decide +kernel
theorem dX10_measured_44 : decode cX10_measured 44 = .ok (.iconst 2, 1) := by decide +kernel
theorem dX10_measured_45 : decode cX10_measured 45 = .ok (.iadd, 1) := by decide +kernel
theorem dX10_measured_46 : decode cX10_measured 46 = .ok (.iaload, 1) := by decide +kernel
theorem dX10_measured_47 : decode cX10_measured 47 = .ok (.ireturn, 1) := by decide +kernel
theorem dX10_measured_48 : decode cX10_measured 48 = .ok (.aload_n 0, 1) := by decide +kernel
theorem dX10_measured_49 : decode cX10_measured 49 = .ok (.iload_n 2, 1) := by decide +kernel
theorem dX10_measured_50 : decode cX10_measured 50 = .ok (.invokevirtual 162, 3) := by decide +kernel
theorem dX10_measured_53 : decode cX10_measured 53 = .ok (.ireturn, 1) := by decide +kernel
theorem dX10_measured_54 : decode cX10_measured 54 = .ok (.aload_n 0, 1) := by decide +kernel
theorem dX10_measured_55 : decode cX10_measured 55 = .ok (.getfield 9, 3) := by decide +kernel
theorem dX10_measured_58 : decode cX10_measured 58 = .ok (.iload_n 3, 1) := by decide +kernel
theorem dX10_measured_59 : decode cX10_measured 59 = .ok (.iconst 5, 1) := by decide +kernel
theorem dX10_measured_60 : decode cX10_measured 60 = .ok (.iadd, 1) := by decide +kernel
theorem dX10_measured_61 : decode cX10_measured 61 = .ok (.iaload, 1) := by decide +kernel
theorem dX10_measured_62 : decode cX10_measured 62 = .ok (.ireturn, 1) := by decide +kernel
theorem dX10_ranked_0 : decode cX10_ranked 0 = .ok (.aload_n 0, 1) := by decide +kernel
theorem dX10_ranked_1 : decode cX10_ranked 1 = .ok (.iconst 0, 1) := by decide +kernel
theorem dX10_ranked_2 : decode cX10_ranked 2 = .ok (.putfield 38, 3) := by decide +kernel
theorem dX10_ranked_5 : decode cX10_ranked 5 = .ok (.iload_n 1, 1) := by decide +kernel
theorem dX10_ranked_6 : decode cX10_ranked 6 = .ok (.i2l, 1) := by decide +kernel
theorem dX10_ranked_7 : decode cX10_ranked 7 = .ok (.lconst 0, 1) := by decide +kernel
theorem dX10_ranked_8 : decode cX10_ranked 8 = .ok (.ldc2_w 63, 3) := by decide +kernel
theorem dX10_ranked_11 : decode cX10_ranked 11 = .ok (.invokestatic 59, 3) := by decide +kernel
theorem dX10_ranked_14 : decode cX10_ranked 14 = .ok (.ifCond .ne 9, 3) := by decide +kernel
theorem dX10_ranked_17 : decode cX10_ranked 17 = .ok (.aload_n 0, 1) := by decide +kernel
theorem dX10_ranked_18 : decode cX10_ranked 18 = .ok (.iconst 1, 1) := by decide +kernel
theorem dX10_ranked_19 : decode cX10_ranked 19 = .ok (.invokevirtual 50, 3) := by decide +kernel
theorem dX10_ranked_22 : decode cX10_ranked 22 = .ok (.ireturn, 1) := by decide +kernel
theorem dX10_ranked_23 : decode cX10_ranked 23 = .ok (.iconst 0, 1) := by decide +kernel
theorem dX10_ranked_24 : decode cX10_ranked 24 = .ok (.istore_n 3, 1) := by decide +kernel
theorem dX10_ranked_25 : decode cX10_ranked 25 = .ok (.iload_n 3, 1) := by decide +kernel
theorem dX10_ranked_26 : decode cX10_ranked 26 = .ok (.aload_n 0, 1) := by decide +kernel
theorem dX10_ranked_27 : decode cX10_ranked 27 = .ok (.getfield 9, 3) := by decide +kernel
theorem dX10_ranked_30 : decode cX10_ranked 30 = .ok (.iconst 1, 1) := by decide +kernel
theorem dX10_ranked_31 : decode cX10_ranked 31 = .ok (.iaload, 1) := by decide +kernel
theorem dX10_ranked_32 : decode cX10_ranked 32 = .ok (.if_icmp .ge 82, 3) := by decide +kernel
theorem dX10_ranked_35 : decode cX10_ranked 35 = .ok (.iconst 0, 1) := by decide +kernel
theorem dX10_ranked_36 : decode cX10_ranked 36 = .ok (.istore 4, 2) := by decide +kernel
theorem dX10_ranked_38 : decode cX10_ranked 38 = .ok (.iconst 0, 1) := by decide +kernel
theorem dX10_ranked_39 : decode cX10_ranked 39 = .ok (.istore 5, 2) := by decide +kernel
theorem dX10_ranked_41 : decode cX10_ranked 41 = .ok (.iload 5, 2) := by decide +kernel
theorem dX10_ranked_43 : decode cX10_ranked 43 = .ok (.aload_n 0, 1) := by decide +kernel
theorem dX10_ranked_44 : decode cX10_ranked 44 = .ok (.getfield 9, 3) := by decide +kernel
theorem dX10_ranked_47 : decode cX10_ranked 47 = .ok (.iconst 1, 1) := by decide +kernel
theorem dX10_ranked_48 : decode cX10_ranked 48 = .ok (.iaload, 1) := by decide +kernel
theorem dX10_ranked_49 : decode cX10_ranked 49 = .ok (.if_icmp .ge 51, 3) := by decide +kernel
theorem dX10_ranked_52 : decode cX10_ranked 52 = .ok (.aload_n 0, 1) := by decide +kernel
theorem dX10_ranked_53 : decode cX10_ranked 53 = .ok (.iload_n 1, 1) := by decide +kernel
theorem dX10_ranked_54 : decode cX10_ranked 54 = .ok (.iload 5, 2) := by decide +kernel
theorem dX10_ranked_56 : decode cX10_ranked 56 = .ok (.invokevirtual 192, 3) := by decide +kernel
theorem dX10_ranked_59 : decode cX10_ranked 59 = .ok (.aload_n 0, 1) := by decide +kernel
theorem dX10_ranked_60 : decode cX10_ranked 60 = .ok (.iload_n 1, 1) := by decide +kernel
theorem dX10_ranked_61 : decode cX10_ranked 61 = .ok (.iload_n 3, 1) := by decide +kernel
theorem dX10_ranked_62 : decode cX10_ranked 62 = .ok (.invokevirtual 192, 3) := by decide +kernel
theorem dX10_ranked_65 : decode cX10_ranked 65 = .ok (.isub, 1) := by decide +kernel
theorem dX10_ranked_66 : decode cX10_ranked 66 = .ok (.istore 6, 2) := by decide +kernel
theorem dX10_ranked_68 : decode cX10_ranked 68 = .ok (.iload 4, 2) := by decide +kernel
theorem dX10_ranked_70 : decode cX10_ranked 70 = .ok (.iload 6, 2) := by decide +kernel
theorem dX10_ranked_72 : decode cX10_ranked 72 = .ok (.ifCond .gt 14, 3) := by decide +kernel
theorem dX10_ranked_75 : decode cX10_ranked 75 = .ok (.iload 6, 2) := by decide +kernel
theorem dX10_ranked_77 : decode cX10_ranked 77 = .ok (.ifCond .ne 13, 3) := by decide +kernel
theorem dX10_ranked_80 : decode cX10_ranked 80 = .ok (.iload 5, 2) := by decide +kernel
theorem dX10_ranked_82 : decode cX10_ranked 82 = .ok (.iload_n 3, 1) := by decide +kernel
theorem dX10_ranked_83 : decode cX10_ranked 83 = .ok (.if_icmp .ge 7, 3) := by decide +kernel
theorem dX10_ranked_86 : decode cX10_ranked 86 = .ok (.iconst 1, 1) := by decide +kernel
theorem dX10_ranked_87 : decode cX10_ranked 87 = .ok (.goto 4, 3) := by decide +kernel
theorem dX10_ranked_90 : decode cX10_ranked 90 = .ok (.iconst 0, 1) := by decide +kernel
theorem dX10_ranked_91 : decode cX10_ranked 91 = .ok (.iadd, 1) := by decide +kernel
theorem dX10_ranked_92 : decode cX10_ranked 92 = .ok (.istore 4, 2) := by decide +kernel
theorem dX10_ranked_94 : decode cX10_ranked 94 = .ok (.iinc 5 1, 3) := by decide +kernel
theorem dX10_ranked_97 : decode cX10_ranked 97 = .ok (.goto (-56), 3) := by decide +kernel
theorem dX10_ranked_100 : decode cX10_ranked 100 = .ok (.iload 4, 2) := by decide +kernel
theorem dX10_ranked_102 : decode cX10_ranked 102 = .ok (.iload_n 2, 1) := by decide +kernel
theorem dX10_ranked_103 : decode cX10_ranked 103 = .ok (.if_icmp .ne 5, 3) := by decide +kernel
theorem dX10_ranked_106 : decode cX10_ranked 106 = .ok (.iload_n 3, 1) := by decide +kernel
theorem dX10_ranked_107 : decode cX10_ranked 107 = .ok (.ireturn, 1) := by decide +kernel
theorem dX10_ranked_108 : decode cX10_ranked 108 = .ok (.iinc 3 1, 3) := by decide +kernel
theorem dX10_ranked_111 : decode cX10_ranked 111 = .ok (.goto (-86), 3) := by decide +kernel
theorem dX10_ranked_114 : decode cX10_ranked 114 = .ok (.aload_n 0, 1) := by decide +kernel
theorem dX10_ranked_115 : decode cX10_ranked 115 = .ok (.iconst 2, 1) := by decide +kernel
theorem dX10_ranked_116 : decode cX10_ranked 116 = .ok (.invokevirtual 50, 3) := by decide +kernel
theorem dX10_ranked_119 : decode cX10_ranked 119 = .ok (.ireturn, 1) := by decide +kernel
theorem dX10_richest_0 : decode cX10_richest 0 = .ok (.aload_n 0, 1) := by decide +kernel
theorem dX10_richest_1 : decode cX10_richest 1 = .ok (.iconst 0, 1) := by decide +kernel
theorem dX10_richest_2 : decode cX10_richest 2 = .ok (.putfield 38, 3) := by decide +kernel
theorem dX10_richest_5 : decode cX10_richest 5 = .ok (.iconst 0, 1) := by decide +kernel
theorem dX10_richest_6 : decode cX10_richest 6 = .ok (.istore_n 2, 1) := by decide +kernel
theorem dX10_richest_7 : decode cX10_richest 7 = .ok (.iload_n 2, 1) := by decide +kernel
theorem dX10_richest_8 : decode cX10_richest 8 = .ok (.aload_n 0, 1) := by decide +kernel
theorem dX10_richest_9 : decode cX10_richest 9 = .ok (.getfield 9, 3) := by decide +kernel
theorem dX10_richest_12 : decode cX10_richest 12 = .ok (.iconst 0, 1) := by decide +kernel
theorem dX10_richest_13 : decode cX10_richest 13 = .ok (.iaload, 1) := by decide +kernel
theorem dX10_richest_14 : decode cX10_richest 14 = .ok (.if_icmp .ge 108, 3) := by decide +kernel
theorem dX10_richest_17 : decode cX10_richest 17 = .ok (.iconst 0, 1) := by decide +kernel
theorem dX10_richest_18 : decode cX10_richest 18 = .ok (.istore_n 3, 1) := by decide +kernel
theorem dX10_richest_19 : decode cX10_richest 19 = .ok (.iconst 0, 1) := by decide +kernel
theorem dX10_richest_20 : decode cX10_richest 20 = .ok (.istore 4, 2) := by decide +kernel
theorem dX10_richest_22 : decode cX10_richest 22 = .ok (.iload 4, 2) := by decide +kernel
theorem dX10_richest_24 : decode cX10_richest 24 = .ok (.aload_n 0, 1) := by decide +kernel
theorem dX10_richest_25 : decode cX10_richest 25 = .ok (.getfield 9, 3) := by decide +kernel
theorem dX10_richest_28 : decode cX10_richest 28 = .ok (.iconst 0, 1) := by decide +kernel
theorem dX10_richest_29 : decode cX10_richest 29 = .ok (.iaload, 1) := by decide +kernel
theorem dX10_richest_30 : decode cX10_richest 30 = .ok (.if_icmp .ge 79, 3) := by decide +kernel
theorem dX10_richest_33 : decode cX10_richest 33 = .ok (.aload_n 0, 1) := by decide +kernel
theorem dX10_richest_34 : decode cX10_richest 34 = .ok (.getfield 9, 3) := by decide +kernel
theorem dX10_richest_37 : decode cX10_richest 37 = .ok (.iload 4, 2) := by decide +kernel
theorem dX10_richest_39 : decode cX10_richest 39 = .ok (.invokestatic 120, 3) := by decide +kernel
theorem dX10_richest_42 : decode cX10_richest 42 = .ok (.iaload, 1) := by decide +kernel
theorem dX10_richest_43 : decode cX10_richest 43 = .ok (.aload_n 0, 1) := by decide +kernel
theorem dX10_richest_44 : decode cX10_richest 44 = .ok (.getfield 9, 3) := by decide +kernel
theorem dX10_richest_47 : decode cX10_richest 47 = .ok (.iload_n 2, 1) := by decide +kernel
theorem dX10_richest_48 : decode cX10_richest 48 = .ok (.invokestatic 120, 3) := by decide +kernel
theorem dX10_richest_51 : decode cX10_richest 51 = .ok (.iaload, 1) := by decide +kernel
theorem dX10_richest_52 : decode cX10_richest 52 = .ok (.isub, 1) := by decide +kernel
theorem dX10_richest_53 : decode cX10_richest 53 = .ok (.istore 5, 2) := by decide +kernel
theorem dX10_richest_55 : decode cX10_richest 55 = .ok (.iload 5, 2) := by decide +kernel
theorem dX10_richest_57 : decode cX10_richest 57 = .ok (.ifCond .ne 18, 3) := by decide +kernel
theorem dX10_richest_60 : decode cX10_richest 60 = .ok (.aload_n 0, 1) := by decide +kernel
theorem dX10_richest_61 : decode cX10_richest 61 = .ok (.iload_n 2, 1) := by decide +kernel
theorem dX10_richest_62 : decode cX10_richest 62 = .ok (.invokevirtual 189, 3) := by decide +kernel
theorem dX10_richest_65 : decode cX10_richest 65 = .ok (.aload_n 0, 1) := by decide +kernel
theorem dX10_richest_66 : decode cX10_richest 66 = .ok (.iload 4, 2) := by decide +kernel
theorem dX10_richest_68 : decode cX10_richest 68 = .ok (.invokevirtual 189, 3) := by decide +kernel
theorem dX10_richest_71 : decode cX10_richest 71 = .ok (.isub, 1) := by decide +kernel
theorem dX10_richest_72 : decode cX10_richest 72 = .ok (.goto 5, 3) := by decide +kernel
theorem dX10_richest_75 : decode cX10_richest 75 = .ok (.iload 5, 2) := by decide +kernel
theorem dX10_richest_77 : decode cX10_richest 77 = .ok (.istore 6, 2) := by decide +kernel
theorem dX10_richest_79 : decode cX10_richest 79 = .ok (.iload_n 3, 1) := by decide +kernel
theorem dX10_richest_80 : decode cX10_richest 80 = .ok (.iload 6, 2) := by decide +kernel
theorem dX10_richest_82 : decode cX10_richest 82 = .ok (.ifCond .gt 14, 3) := by decide +kernel
theorem dX10_richest_85 : decode cX10_richest 85 = .ok (.iload 6, 2) := by decide +kernel
theorem dX10_richest_87 : decode cX10_richest 87 = .ok (.ifCond .ne 13, 3) := by decide +kernel
theorem dX10_richest_90 : decode cX10_richest 90 = .ok (.iload 4, 2) := by decide +kernel
theorem dX10_richest_92 : decode cX10_richest 92 = .ok (.iload_n 2, 1) := by decide +kernel
theorem dX10_richest_93 : decode cX10_richest 93 = .ok (.if_icmp .ge 7, 3) := by decide +kernel
theorem dX10_richest_96 : decode cX10_richest 96 = .ok (.iconst 1, 1) := by decide +kernel
theorem dX10_richest_97 : decode cX10_richest 97 = .ok (.goto 4, 3) := by decide +kernel
theorem dX10_richest_100 : decode cX10_richest 100 = .ok (.iconst 0, 1) := by decide +kernel
theorem dX10_richest_101 : decode cX10_richest 101 = .ok (.iadd, 1) := by decide +kernel
theorem dX10_richest_102 : decode cX10_richest 102 = .ok (.istore_n 3, 1) := by decide +kernel
theorem dX10_richest_103 : decode cX10_richest 103 = .ok (.iinc 4 1, 3) := by decide +kernel
theorem dX10_richest_106 : decode cX10_richest 106 = .ok (.goto (-84), 3) := by decide +kernel
theorem dX10_richest_109 : decode cX10_richest 109 = .ok (.iload_n 3, 1) := by decide +kernel
theorem dX10_richest_110 : decode cX10_richest 110 = .ok (.iload_n 1, 1) := by decide +kernel
theorem dX10_richest_111 : decode cX10_richest 111 = .ok (.if_icmp .ne 5, 3) := by decide +kernel
theorem dX10_richest_114 : decode cX10_richest 114 = .ok (.iload_n 2, 1) := by decide +kernel
theorem dX10_richest_115 : decode cX10_richest 115 = .ok (.ireturn, 1) := by decide +kernel
theorem dX10_richest_116 : decode cX10_richest 116 = .ok (.iinc 2 1, 3) := by decide +kernel
theorem dX10_richest_119 : decode cX10_richest 119 = .ok (.goto (-112), 3) := by decide +kernel
theorem dX10_richest_122 : decode cX10_richest 122 = .ok (.aload_n 0, 1) := by decide +kernel
theorem dX10_richest_123 : decode cX10_richest 123 = .ok (.iconst 1, 1) := by decide +kernel
theorem dX10_richest_124 : decode cX10_richest 124 = .ok (.invokevirtual 50, 3) := by decide +kernel
theorem dX10_richest_127 : decode cX10_richest 127 = .ok (.ireturn, 1) := by decide +kernel
theorem dX10_append_0 : decode cX10_append 0 = .ok (.aload_n 0, 1) := by decide +kernel
theorem dX10_append_1 : decode cX10_append 1 = .ok (.iconst 0, 1) := by decide +kernel
theorem dX10_append_2 : decode cX10_append 2 = .ok (.putfield 38, 3) := by decide +kernel
theorem dX10_append_5 : decode cX10_append 5 = .ok (.aload_n 0, 1) := by decide +kernel
theorem dX10_append_6 : decode cX10_append 6 = .ok (.getfield 195, 3) := by decide +kernel
theorem dX10_append_9 : decode cX10_append 9 = .ok (.bipush 60, 2) := by decide +kernel
theorem dX10_append_11 : decode cX10_append 11 = .ok (.if_icmp .ne 9, 3) := by decide +kernel
theorem dX10_append_14 : decode cX10_append 14 = .ok (.aload_n 0, 1) := by decide +kernel
theorem dX10_append_15 : decode cX10_append 15 = .ok (.iconst 1, 1) := by decide +kernel
theorem dX10_append_16 : decode cX10_append 16 = .ok (.invokevirtual 50, 3) := by decide +kernel
theorem dX10_append_19 : decode cX10_append 19 = .ok (.ireturn, 1) := by decide +kernel
theorem dX10_append_20 : decode cX10_append 20 = .ok (.aload_n 0, 1) := by decide +kernel
theorem dX10_append_21 : decode cX10_append 21 = .ok (.getfield 26, 3) := by decide +kernel
theorem dX10_append_24 : decode cX10_append 24 = .ok (.aload_n 0, 1) := by decide +kernel
theorem dX10_append_25 : decode cX10_append 25 = .ok (.getfield 195, 3) := by decide +kernel
theorem dX10_append_28 : decode cX10_append 28 = .ok (.iload_n 1, 1) := by decide +kernel
theorem dX10_append_29 : decode cX10_append 29 = .ok (.iastore, 1) := by decide +kernel
theorem dX10_append_30 : decode cX10_append 30 = .ok (.aload_n 0, 1) := by decide +kernel
theorem dX10_append_31 : decode cX10_append 31 = .ok (.dup, 1) := by decide +kernel
theorem dX10_append_32 : decode cX10_append 32 = .ok (.getfield 195, 3) := by decide +kernel
theorem dX10_append_35 : decode cX10_append 35 = .ok (.iconst 1, 1) := by decide +kernel
theorem dX10_append_36 : decode cX10_append 36 = .ok (.iadd, 1) := by decide +kernel
theorem dX10_append_37 : decode cX10_append 37 = .ok (.putfield 195, 3) := by decide +kernel
theorem dX10_append_40 : decode cX10_append 40 = .ok (.aload_n 0, 1) := by decide +kernel
theorem dX10_append_41 : decode cX10_append 41 = .ok (.getfield 195, 3) := by decide +kernel
theorem dX10_append_44 : decode cX10_append 44 = .ok (.ireturn, 1) := by decide +kernel
theorem dX10_here_0 : decode cX10_here 0 = .ok (.aload_n 0, 1) := by decide +kernel
theorem dX10_here_1 : decode cX10_here 1 = .ok (.getfield 198, 3) := by decide +kernel
theorem dX10_here_4 : decode cX10_here 4 = .ok (.aload_n 0, 1) := by decide +kernel
theorem dX10_here_5 : decode cX10_here 5 = .ok (.getfield 201, 3) := by decide +kernel
theorem dX10_here_8 : decode cX10_here 8 = .ok (.if_icmp .ge 15, 3) := by decide +kernel
theorem dX10_here_11 : decode cX10_here 11 = .ok (.aload_n 0, 1) := by decide +kernel
theorem dX10_here_12 : decode cX10_here 12 = .ok (.getfield 26, 3) := by decide +kernel
theorem dX10_here_15 : decode cX10_here 15 = .ok (.aload_n 0, 1) := by decide +kernel
theorem dX10_here_16 : decode cX10_here 16 = .ok (.getfield 198, 3) := by decide +kernel
theorem dX10_here_19 : decode cX10_here 19 = .ok (.iaload, 1) := by decide +kernel
theorem dX10_here_20 : decode cX10_here 20 = .ok (.goto 4, 3) := by decide +kernel
theorem dX10_here_23 : decode cX10_here 23 = .ok (.iconst (-1), 1) := by decide +kernel
theorem dX10_here_24 : decode cX10_here 24 = .ok (.ireturn, 1) := by decide +kernel
theorem dX10_expects_0 : decode cX10_expects 0 = .ok (.aload_n 0, 1) := by decide +kernel
theorem dX10_expects_1 : decode cX10_expects 1 = .ok (.aload_n 0, 1) := by decide +kernel
theorem dX10_expects_2 : decode cX10_expects 2 = .ok (.getfield 204, 3) := by decide +kernel
theorem dX10_expects_5 : decode cX10_expects 5 = .ok (.ifCond .ne 7, 3) := by decide +kernel
theorem dX10_expects_8 : decode cX10_expects 8 = .ok (.iload_n 1, 1) := by decide +kernel
theorem dX10_expects_9 : decode cX10_expects 9 = .ok (.ifCond .ne 7, 3) := by decide +kernel
theorem dX10_expects_12 : decode cX10_expects 12 = .ok (.iconst 1, 1) := by decide +kernel
theorem dX10_expects_13 : decode cX10_expects 13 = .ok (.goto 4, 3) := by decide +kernel
theorem dX10_expects_16 : decode cX10_expects 16 = .ok (.iconst 0, 1) := by decide +kernel
theorem dX10_expects_17 : decode cX10_expects 17 = .ok (.putfield 204, 3) := by decide +kernel
theorem dX10_expects_20 : decode cX10_expects 20 = .ok (.aload_n 0, 1) := by decide +kernel
theorem dX10_expects_21 : decode cX10_expects 21 = .ok (.dup, 1) := by decide +kernel
theorem dX10_expects_22 : decode cX10_expects 22 = .ok (.getfield 198, 3) := by decide +kernel
theorem dX10_expects_25 : decode cX10_expects 25 = .ok (.aload_n 0, 1) := by decide +kernel
theorem dX10_expects_26 : decode cX10_expects 26 = .ok (.getfield 204, 3) := by decide +kernel
theorem dX10_expects_29 : decode cX10_expects 29 = .ok (.ifCond .eq 7, 3) := by decide +kernel
theorem dX10_expects_32 : decode cX10_expects 32 = .ok (.iconst 0, 1) := by decide +kernel
theorem dX10_expects_33 : decode cX10_expects 33 = .ok (.goto 4, 3) := by decide +kernel
theorem dX10_expects_36 : decode cX10_expects 36 = .ok (.iconst 1, 1) := by decide +kernel
theorem dX10_expects_37 : decode cX10_expects 37 = .ok (.iadd, 1) := by decide +kernel
theorem dX10_expects_38 : decode cX10_expects 38 = .ok (.putfield 198, 3) := by decide +kernel
theorem dX10_expects_41 : decode cX10_expects 41 = .ok (.return_, 1) := by decide +kernel
theorem dX10_digit_0 : decode cX10_digit 0 = .ok (.aload_n 0, 1) := by decide +kernel
theorem dX10_digit_1 : decode cX10_digit 1 = .ok (.invokevirtual 208, 3) := by decide +kernel
theorem dX10_digit_4 : decode cX10_digit 4 = .ok (.bipush 48, 2) := by decide +kernel
theorem dX10_digit_6 : decode cX10_digit 6 = .ok (.isub, 1) := by decide +kernel
theorem dX10_digit_7 : decode cX10_digit 7 = .ok (.istore_n 1, 1) := by decide +kernel
theorem dX10_digit_8 : decode cX10_digit 8 = .ok (.aload_n 0, 1) := by decide +kernel
theorem dX10_digit_9 : decode cX10_digit 9 = .ok (.aload_n 0, 1) := by decide +kernel
theorem dX10_digit_10 : decode cX10_digit 10 = .ok (.invokevirtual 208, 3) := by decide +kernel
theorem dX10_digit_13 : decode cX10_digit 13 = .ok (.i2l, 1) := by decide +kernel
theorem dX10_digit_14 : decode cX10_digit 14 = .ok (.ldc2_w 211, 3) := by decide +kernel
theorem dX10_digit_17 : decode cX10_digit 17 = .ok (.ldc2_w 213, 3) := by decide +kernel
theorem dX10_digit_20 : decode cX10_digit 20 = .ok (.invokestatic 59, 3) := by decide +kernel
theorem dX10_digit_23 : decode cX10_digit 23 = .ok (.invokevirtual 215, 3) := by decide +kernel
theorem dX10_digit_26 : decode cX10_digit 26 = .ok (.aload_n 0, 1) := by decide +kernel
theorem dX10_digit_27 : decode cX10_digit 27 = .ok (.getfield 204, 3) := by decide +kernel
theorem dX10_digit_30 : decode cX10_digit 30 = .ok (.ifCond .eq 7, 3) := by decide +kernel
theorem dX10_digit_33 : decode cX10_digit 33 = .ok (.iconst 0, 1) := by decide +kernel
theorem dX10_digit_34 : decode cX10_digit 34 = .ok (.goto 4, 3) := by decide +kernel
theorem dX10_digit_37 : decode cX10_digit 37 = .ok (.iload_n 1, 1) := by decide +kernel
theorem dX10_digit_38 : decode cX10_digit 38 = .ok (.ireturn, 1) := by decide +kernel
theorem dX10_number_0 : decode cX10_number 0 = .ok (.aload_n 0, 1) := by decide +kernel
theorem dX10_number_1 : decode cX10_number 1 = .ok (.invokevirtual 219, 3) := by decide +kernel
theorem dX10_number_4 : decode cX10_number 4 = .ok (.istore_n 1, 1) := by decide +kernel
theorem dX10_number_5 : decode cX10_number 5 = .ok (.aload_n 0, 1) := by decide +kernel
theorem dX10_number_6 : decode cX10_number 6 = .ok (.getfield 204, 3) := by decide +kernel
theorem dX10_number_9 : decode cX10_number 9 = .ok (.ifCond .ne 32, 3) := by decide +kernel
theorem dX10_number_12 : decode cX10_number 12 = .ok (.aload_n 0, 1) := by decide +kernel
theorem dX10_number_13 : decode cX10_number 13 = .ok (.invokevirtual 208, 3) := by decide +kernel
theorem dX10_number_16 : decode cX10_number 16 = .ok (.i2l, 1) := by decide +kernel
theorem dX10_number_17 : decode cX10_number 17 = .ok (.ldc2_w 211, 3) := by decide +kernel
theorem dX10_number_20 : decode cX10_number 20 = .ok (.ldc2_w 213, 3) := by decide +kernel
theorem dX10_number_23 : decode cX10_number 23 = .ok (.invokestatic 59, 3) := by decide +kernel
theorem dX10_number_26 : decode cX10_number 26 = .ok (.ifCond .eq 15, 3) := by decide +kernel
theorem dX10_number_29 : decode cX10_number 29 = .ok (.bipush 10, 2) := by decide +kernel
theorem dX10_number_31 : decode cX10_number 31 = .ok (.iload_n 1, 1) := by decide +kernel
theorem dX10_number_32 : decode cX10_number 32 = .ok (.imul, 1) := by decide +kernel
theorem dX10_number_33 : decode cX10_number 33 = .ok (.aload_n 0, 1) := by decide +kernel
theorem dX10_number_34 : decode cX10_number 34 = .ok (.invokevirtual 219, 3) := by decide +kernel
theorem dX10_number_37 : decode cX10_number 37 = .ok (.iadd, 1) := by decide +kernel
theorem dX10_number_38 : decode cX10_number 38 = .ok (.goto 4, 3) := by decide +kernel
theorem dX10_number_41 : decode cX10_number 41 = .ok (.iload_n 1, 1) := by decide +kernel
theorem dX10_number_42 : decode cX10_number 42 = .ok (.ireturn, 1) := by decide +kernel
theorem dX10_directionOf_0 : decode cX10_directionOf 0 = .ok (.iload_n 0, 1) := by decide +kernel
theorem dX10_directionOf_1 : decode cX10_directionOf 1 = .ok (.bipush 110, 2) := by decide +kernel
theorem dX10_directionOf_3 : decode cX10_directionOf 3 = .ok (.if_icmp .ne 7, 3) := by decide +kernel
theorem dX10_directionOf_6 : decode cX10_directionOf 6 = .ok (.iconst 0, 1) := by decide +kernel
theorem dX10_directionOf_7 : decode cX10_directionOf 7 = .ok (.goto 34, 3) := by decide +kernel
theorem dX10_directionOf_10 : decode cX10_directionOf 10 = .ok (.iload_n 0, 1) := by decide +kernel
theorem dX10_directionOf_11 : decode cX10_directionOf 11 = .ok (.bipush 101, 2) := by decide +kernel
theorem dX10_directionOf_13 : decode cX10_directionOf 13 = .ok (.if_icmp .ne 7, 3) := by decide +kernel
theorem dX10_directionOf_16 : decode cX10_directionOf 16 = .ok (.iconst 1, 1) := by decide +kernel
theorem dX10_directionOf_17 : decode cX10_directionOf 17 = .ok (.goto 24, 3) := by decide +kernel
theorem dX10_directionOf_20 : decode cX10_directionOf 20 = .ok (.iload_n 0, 1) := by decide +kernel
theorem dX10_directionOf_21 : decode cX10_directionOf 21 = .ok (.bipush 115, 2) := by decide +kernel
theorem dX10_directionOf_23 : decode cX10_directionOf 23 = .ok (.if_icmp .ne 7, 3) := by decide +kernel
theorem dX10_directionOf_26 : decode cX10_directionOf 26 = .ok (.iconst 2, 1) := by decide +kernel
theorem dX10_directionOf_27 : decode cX10_directionOf 27 = .ok (.goto 14, 3) := by decide +kernel
theorem dX10_directionOf_30 : decode cX10_directionOf 30 = .ok (.iload_n 0, 1) := by decide +kernel
theorem dX10_directionOf_31 : decode cX10_directionOf 31 = .ok (.bipush 119, 2) := by decide +kernel
theorem dX10_directionOf_33 : decode cX10_directionOf 33 = .ok (.if_icmp .ne 7, 3) := by decide +kernel
theorem dX10_directionOf_36 : decode cX10_directionOf 36 = .ok (.iconst 3, 1) := by decide +kernel
theorem dX10_directionOf_37 : decode cX10_directionOf 37 = .ok (.goto 4, 3) := by decide +kernel
theorem dX10_directionOf_40 : decode cX10_directionOf 40 = .ok (.iconst (-1), 1) := by decide +kernel
theorem dX10_directionOf_41 : decode cX10_directionOf 41 = .ok (.ireturn, 1) := by decide +kernel
theorem dX10_cells_0 : decode cX10_cells 0 = .ok (.aload_n 0, 1) := by decide +kernel
theorem dX10_cells_1 : decode cX10_cells 1 = .ok (.getfield 32, 3) := by decide +kernel
theorem dX10_cells_4 : decode cX10_cells 4 = .ok (.iload_n 1, 1) := by decide +kernel
theorem dX10_cells_5 : decode cX10_cells 5 = .ok (.aload_n 0, 1) := by decide +kernel
theorem dX10_cells_6 : decode cX10_cells 6 = .ok (.invokevirtual 222, 3) := by decide +kernel
theorem dX10_cells_9 : decode cX10_cells 9 = .ok (.iastore, 1) := by decide +kernel
theorem dX10_cells_10 : decode cX10_cells 10 = .ok (.aload_n 0, 1) := by decide +kernel
theorem dX10_cells_11 : decode cX10_cells 11 = .ok (.aload_n 0, 1) := by decide +kernel
theorem dX10_cells_12 : decode cX10_cells 12 = .ok (.invokevirtual 208, 3) := by decide +kernel
theorem dX10_cells_15 : decode cX10_cells 15 = .ok (.bipush 45, 2) := by decide +kernel
theorem dX10_cells_17 : decode cX10_cells 17 = .ok (.if_icmp .ne 7, 3) := by decide +kernel
theorem dX10_cells_20 : decode cX10_cells 20 = .ok (.iconst 1, 1) := by decide +kernel
theorem dX10_cells_21 : decode cX10_cells 21 = .ok (.goto 4, 3) := by decide +kernel
theorem dX10_cells_24 : decode cX10_cells 24 = .ok (.iconst 0, 1) := by decide +kernel
theorem dX10_cells_25 : decode cX10_cells 25 = .ok (.invokevirtual 215, 3) := by decide +kernel
theorem dX10_cells_28 : decode cX10_cells 28 = .ok (.aload_n 0, 1) := by decide +kernel
theorem dX10_cells_29 : decode cX10_cells 29 = .ok (.getfield 32, 3) := by decide +kernel
theorem dX10_cells_32 : decode cX10_cells 32 = .ok (.iload_n 1, 1) := by decide +kernel
theorem dX10_cells_33 : decode cX10_cells 33 = .ok (.iconst 1, 1) := by decide +kernel
theorem dX10_cells_34 : decode cX10_cells 34 = .ok (.iadd, 1) := by decide +kernel
theorem dX10_cells_35 : decode cX10_cells 35 = .ok (.aload_n 0, 1) := by decide +kernel
theorem dX10_cells_36 : decode cX10_cells 36 = .ok (.invokevirtual 222, 3) := by decide +kernel
theorem dX10_cells_39 : decode cX10_cells 39 = .ok (.iastore, 1) := by decide +kernel
theorem dX10_cells_40 : decode cX10_cells 40 = .ok (.return_, 1) := by decide +kernel
theorem dX10_readOrder_0 : decode cX10_readOrder 0 = .ok (.iconst 4, 1) := by decide +kernel
theorem dX10_readOrder_1 : decode cX10_readOrder 1 = .ok (.aload_n 0, 1) := by decide +kernel
theorem dX10_readOrder_2 : decode cX10_readOrder 2 = .ok (.getfield 225, 3) := by decide +kernel
theorem dX10_readOrder_5 : decode cX10_readOrder 5 = .ok (.imul, 1) := by decide +kernel
theorem dX10_readOrder_6 : decode cX10_readOrder 6 = .ok (.istore_n 1, 1) := by decide +kernel
theorem dX10_readOrder_7 : decode cX10_readOrder 7 = .ok (.aload_n 0, 1) := by decide +kernel
theorem dX10_readOrder_8 : decode cX10_readOrder 8 = .ok (.invokevirtual 208, 3) := by decide +kernel
theorem dX10_readOrder_11 : decode cX10_readOrder 11 = .ok (.istore_n 2, 1) := by decide +kernel
theorem dX10_readOrder_12 : decode cX10_readOrder 12 = .ok (.aload_n 0, 1) := by decide +kernel
theorem dX10_readOrder_13 : decode cX10_readOrder 13 = .ok (.iload_n 2, 1) := by decide +kernel
theorem dX10_readOrder_14 : decode cX10_readOrder 14 = .ok (.bipush 104, 2) := by decide +kernel
theorem dX10_readOrder_16 : decode cX10_readOrder 16 = .ok (.if_icmp .eq 51, 3) := by decide +kernel
theorem dX10_readOrder_19 : decode cX10_readOrder 19 = .ok (.iload_n 2, 1) := by decide +kernel
theorem dX10_readOrder_20 : decode cX10_readOrder 20 = .ok (.bipush 115, 2) := by decide +kernel
theorem dX10_readOrder_22 : decode cX10_readOrder 22 = .ok (.if_icmp .eq 45, 3) := by decide +kernel
theorem dX10_readOrder_25 : decode cX10_readOrder 25 = .ok (.iload_n 2, 1) := by decide +kernel
theorem dX10_readOrder_26 : decode cX10_readOrder 26 = .ok (.bipush 116, 2) := by decide +kernel
theorem dX10_readOrder_28 : decode cX10_readOrder 28 = .ok (.if_icmp .eq 39, 3) := by decide +kernel
theorem dX10_readOrder_31 : decode cX10_readOrder 31 = .ok (.iload_n 2, 1) := by decide +kernel
theorem dX10_readOrder_32 : decode cX10_readOrder 32 = .ok (.bipush 109, 2) := by decide +kernel
theorem dX10_readOrder_34 : decode cX10_readOrder 34 = .ok (.if_icmp .eq 33, 3) := by decide +kernel
theorem dX10_readOrder_37 : decode cX10_readOrder 37 = .ok (.iload_n 2, 1) := by decide +kernel
theorem dX10_readOrder_38 : decode cX10_readOrder 38 = .ok (.bipush 103, 2) := by decide +kernel
theorem dX10_readOrder_40 : decode cX10_readOrder 40 = .ok (.if_icmp .eq 27, 3) := by decide +kernel
theorem dX10_readOrder_43 : decode cX10_readOrder 43 = .ok (.iload_n 2, 1) := by decide +kernel
theorem dX10_readOrder_44 : decode cX10_readOrder 44 = .ok (.bipush 118, 2) := by decide +kernel
theorem dX10_readOrder_46 : decode cX10_readOrder 46 = .ok (.if_icmp .eq 21, 3) := by decide +kernel
theorem dX10_readOrder_49 : decode cX10_readOrder 49 = .ok (.iload_n 2, 1) := by decide +kernel
theorem dX10_readOrder_50 : decode cX10_readOrder 50 = .ok (.bipush 98, 2) := by decide +kernel
theorem dX10_readOrder_52 : decode cX10_readOrder 52 = .ok (.if_icmp .eq 15, 3) := by decide +kernel
theorem dX10_readOrder_55 : decode cX10_readOrder 55 = .ok (.iload_n 2, 1) := by decide +kernel
theorem dX10_readOrder_56 : decode cX10_readOrder 56 = .ok (.bipush 119, 2) := by decide +kernel
theorem dX10_readOrder_58 : decode cX10_readOrder 58 = .ok (.if_icmp .eq 9, 3) := by decide +kernel
theorem dX10_readOrder_61 : decode cX10_readOrder 61 = .ok (.iload_n 2, 1) := by decide +kernel
theorem dX10_readOrder_62 : decode cX10_readOrder 62 = .ok (.bipush 114, 2) := by decide +kernel
theorem dX10_readOrder_64 : decode cX10_readOrder 64 = .ok (.if_icmp .ne 7, 3) := by decide +kernel
theorem dX10_readOrder_67 : decode cX10_readOrder 67 = .ok (.iconst 1, 1) := by decide +kernel
theorem dX10_readOrder_68 : decode cX10_readOrder 68 = .ok (.goto 4, 3) := by decide +kernel
theorem dX10_readOrder_71 : decode cX10_readOrder 71 = .ok (.iconst 0, 1) := by decide +kernel
theorem dX10_readOrder_72 : decode cX10_readOrder 72 = .ok (.invokevirtual 215, 3) := by decide +kernel
theorem dX10_readOrder_75 : decode cX10_readOrder 75 = .ok (.aload_n 0, 1) := by decide +kernel
theorem dX10_readOrder_76 : decode cX10_readOrder 76 = .ok (.getfield 32, 3) := by decide +kernel
theorem dX10_readOrder_79 : decode cX10_readOrder 79 = .ok (.iload_n 1, 1) := by decide +kernel
theorem dX10_readOrder_80 : decode cX10_readOrder 80 = .ok (.iload_n 2, 1) := by decide +kernel
theorem dX10_readOrder_81 : decode cX10_readOrder 81 = .ok (.iastore, 1) := by decide +kernel
theorem dX10_readOrder_82 : decode cX10_readOrder 82 = .ok (.aload_n 0, 1) := by decide +kernel
theorem dX10_readOrder_83 : decode cX10_readOrder 83 = .ok (.dup, 1) := by decide +kernel
theorem dX10_readOrder_84 : decode cX10_readOrder 84 = .ok (.getfield 225, 3) := by decide +kernel
theorem dX10_readOrder_87 : decode cX10_readOrder 87 = .ok (.iconst 1, 1) := by decide +kernel
theorem dX10_readOrder_88 : decode cX10_readOrder 88 = .ok (.iadd, 1) := by decide +kernel
theorem dX10_readOrder_89 : decode cX10_readOrder 89 = .ok (.putfield 225, 3) := by decide +kernel
theorem dX10_readOrder_92 : decode cX10_readOrder 92 = .ok (.iload_n 2, 1) := by decide +kernel
theorem dX10_readOrder_93 : decode cX10_readOrder 93 = .ok (.tableswitch 415 98 119 #[244, 415, 415, 415, 415, 229, 103, 415, 415, 415, 415, 183, 415, 415, 415, 415, 370, 415, 143, 415, 229, 319], 103) := by decide +kernel
theorem dX10_readOrder_196 : decode cX10_readOrder 196 = .ok (.aload_n 0, 1) := by decide +kernel
theorem dX10_readOrder_197 : decode cX10_readOrder 197 = .ok (.iload_n 1, 1) := by decide +kernel
theorem dX10_readOrder_198 : decode cX10_readOrder 198 = .ok (.iconst 1, 1) := by decide +kernel
theorem dX10_readOrder_199 : decode cX10_readOrder 199 = .ok (.iadd, 1) := by decide +kernel
theorem dX10_readOrder_200 : decode cX10_readOrder 200 = .ok (.invokevirtual 228, 3) := by decide +kernel
theorem dX10_readOrder_203 : decode cX10_readOrder 203 = .ok (.aload_n 0, 1) := by decide +kernel
theorem dX10_readOrder_204 : decode cX10_readOrder 204 = .ok (.aload_n 0, 1) := by decide +kernel
theorem dX10_readOrder_205 : decode cX10_readOrder 205 = .ok (.invokevirtual 208, 3) := by decide +kernel
theorem dX10_readOrder_208 : decode cX10_readOrder 208 = .ok (.bipush 61, 2) := by decide +kernel
theorem dX10_readOrder_210 : decode cX10_readOrder 210 = .ok (.if_icmp .ne 7, 3) := by decide +kernel
theorem dX10_readOrder_213 : decode cX10_readOrder 213 = .ok (.iconst 1, 1) := by decide +kernel
theorem dX10_readOrder_214 : decode cX10_readOrder 214 = .ok (.goto 4, 3) := by decide +kernel
theorem dX10_readOrder_217 : decode cX10_readOrder 217 = .ok (.iconst 0, 1) := by decide +kernel
theorem dX10_readOrder_218 : decode cX10_readOrder 218 = .ok (.invokevirtual 215, 3) := by decide +kernel
theorem dX10_readOrder_221 : decode cX10_readOrder 221 = .ok (.aload_n 0, 1) := by decide +kernel
theorem dX10_readOrder_222 : decode cX10_readOrder 222 = .ok (.getfield 32, 3) := by decide +kernel
theorem dX10_readOrder_225 : decode cX10_readOrder 225 = .ok (.iload_n 1, 1) := by decide +kernel
theorem dX10_readOrder_226 : decode cX10_readOrder 226 = .ok (.iconst 3, 1) := by decide +kernel
theorem dX10_readOrder_227 : decode cX10_readOrder 227 = .ok (.iadd, 1) := by decide +kernel
theorem dX10_readOrder_228 : decode cX10_readOrder 228 = .ok (.aload_n 0, 1) := by decide +kernel
theorem dX10_readOrder_229 : decode cX10_readOrder 229 = .ok (.invokevirtual 219, 3) := by decide +kernel
theorem dX10_readOrder_232 : decode cX10_readOrder 232 = .ok (.iastore, 1) := by decide +kernel
theorem dX10_readOrder_233 : decode cX10_readOrder 233 = .ok (.goto 275, 3) := by decide +kernel
theorem dX10_readOrder_236 : decode cX10_readOrder 236 = .ok (.aload_n 0, 1) := by decide +kernel
theorem dX10_readOrder_237 : decode cX10_readOrder 237 = .ok (.getfield 32, 3) := by decide +kernel
theorem dX10_readOrder_240 : decode cX10_readOrder 240 = .ok (.iload_n 1, 1) := by decide +kernel
theorem dX10_readOrder_241 : decode cX10_readOrder 241 = .ok (.iconst 1, 1) := by decide +kernel
theorem dX10_readOrder_242 : decode cX10_readOrder 242 = .ok (.iadd, 1) := by decide +kernel
theorem dX10_readOrder_243 : decode cX10_readOrder 243 = .ok (.aload_n 0, 1) := by decide +kernel
theorem dX10_readOrder_244 : decode cX10_readOrder 244 = .ok (.invokevirtual 219, 3) := by decide +kernel
theorem dX10_readOrder_247 : decode cX10_readOrder 247 = .ok (.iastore, 1) := by decide +kernel
theorem dX10_readOrder_248 : decode cX10_readOrder 248 = .ok (.aload_n 0, 1) := by decide +kernel
theorem dX10_readOrder_249 : decode cX10_readOrder 249 = .ok (.aload_n 0, 1) := by decide +kernel
theorem dX10_readOrder_250 : decode cX10_readOrder 250 = .ok (.invokevirtual 208, 3) := by decide +kernel
theorem dX10_readOrder_253 : decode cX10_readOrder 253 = .ok (.bipush 58, 2) := by decide +kernel
theorem dX10_readOrder_255 : decode cX10_readOrder 255 = .ok (.if_icmp .ne 7, 3) := by decide +kernel
theorem dX10_readOrder_258 : decode cX10_readOrder 258 = .ok (.iconst 1, 1) := by decide +kernel
theorem dX10_readOrder_259 : decode cX10_readOrder 259 = .ok (.goto 4, 3) := by decide +kernel
theorem dX10_readOrder_262 : decode cX10_readOrder 262 = .ok (.iconst 0, 1) := by decide +kernel
theorem dX10_readOrder_263 : decode cX10_readOrder 263 = .ok (.invokevirtual 215, 3) := by decide +kernel
theorem dX10_readOrder_266 : decode cX10_readOrder 266 = .ok (.aload_n 0, 1) := by decide +kernel
theorem dX10_readOrder_267 : decode cX10_readOrder 267 = .ok (.iload_n 1, 1) := by decide +kernel
theorem dX10_readOrder_268 : decode cX10_readOrder 268 = .ok (.iconst 2, 1) := by decide +kernel
theorem dX10_readOrder_269 : decode cX10_readOrder 269 = .ok (.iadd, 1) := by decide +kernel
theorem dX10_readOrder_270 : decode cX10_readOrder 270 = .ok (.invokevirtual 228, 3) := by decide +kernel
theorem dX10_readOrder_273 : decode cX10_readOrder 273 = .ok (.goto 235, 3) := by decide +kernel
theorem dX10_readOrder_276 : decode cX10_readOrder 276 = .ok (.aload_n 0, 1) := by decide +kernel
theorem dX10_readOrder_277 : decode cX10_readOrder 277 = .ok (.invokevirtual 208, 3) := by decide +kernel
theorem dX10_readOrder_280 : decode cX10_readOrder 280 = .ok (.bipush 120, 2) := by decide +kernel
theorem dX10_readOrder_282 : decode cX10_readOrder 282 = .ok (.if_icmp .ne 25, 3) := by decide +kernel
theorem dX10_readOrder_285 : decode cX10_readOrder 285 = .ok (.aload_n 0, 1) := by decide +kernel
theorem dX10_readOrder_286 : decode cX10_readOrder 286 = .ok (.dup, 1) := by decide +kernel
theorem dX10_readOrder_287 : decode cX10_readOrder 287 = .ok (.getfield 198, 3) := by decide +kernel
theorem dX10_readOrder_290 : decode cX10_readOrder 290 = .ok (.iconst 1, 1) := by decide +kernel
theorem dX10_readOrder_291 : decode cX10_readOrder 291 = .ok (.iadd, 1) := by decide +kernel
theorem dX10_readOrder_292 : decode cX10_readOrder 292 = .ok (.putfield 198, 3) := by decide +kernel
theorem dX10_readOrder_295 : decode cX10_readOrder 295 = .ok (.aload_n 0, 1) := by decide +kernel
theorem dX10_readOrder_296 : decode cX10_readOrder 296 = .ok (.getfield 32, 3) := by decide +kernel
theorem dX10_readOrder_299 : decode cX10_readOrder 299 = .ok (.iload_n 1, 1) := by decide +kernel
theorem dX10_readOrder_300 : decode cX10_readOrder 300 = .ok (.iconst 1, 1) := by decide +kernel
theorem dX10_readOrder_301 : decode cX10_readOrder 301 = .ok (.iadd, 1) := by decide +kernel
theorem dX10_readOrder_302 : decode cX10_readOrder 302 = .ok (.iconst (-1), 1) := by decide +kernel
theorem dX10_readOrder_303 : decode cX10_readOrder 303 = .ok (.iastore, 1) := by decide +kernel
theorem dX10_readOrder_304 : decode cX10_readOrder 304 = .ok (.goto 204, 3) := by decide +kernel
theorem dX10_readOrder_307 : decode cX10_readOrder 307 = .ok (.aload_n 0, 1) := by decide +kernel
theorem dX10_readOrder_308 : decode cX10_readOrder 308 = .ok (.getfield 32, 3) := by decide +kernel
theorem dX10_readOrder_311 : decode cX10_readOrder 311 = .ok (.iload_n 1, 1) := by decide +kernel
theorem dX10_readOrder_312 : decode cX10_readOrder 312 = .ok (.iconst 1, 1) := by decide +kernel
theorem dX10_readOrder_313 : decode cX10_readOrder 313 = .ok (.iadd, 1) := by decide +kernel
theorem dX10_readOrder_314 : decode cX10_readOrder 314 = .ok (.aload_n 0, 1) := by decide +kernel
theorem dX10_readOrder_315 : decode cX10_readOrder 315 = .ok (.invokevirtual 222, 3) := by decide +kernel
theorem dX10_readOrder_318 : decode cX10_readOrder 318 = .ok (.iastore, 1) := by decide +kernel
theorem dX10_readOrder_319 : decode cX10_readOrder 319 = .ok (.goto 189, 3) := by decide +kernel
theorem dX10_readOrder_322 : decode cX10_readOrder 322 = .ok (.aload_n 0, 1) := by decide +kernel
theorem dX10_readOrder_323 : decode cX10_readOrder 323 = .ok (.getfield 32, 3) := by decide +kernel
theorem dX10_readOrder_326 : decode cX10_readOrder 326 = .ok (.iload_n 1, 1) := by decide +kernel
theorem dX10_readOrder_327 : decode cX10_readOrder 327 = .ok (.iconst 1, 1) := by decide +kernel
theorem dX10_readOrder_328 : decode cX10_readOrder 328 = .ok (.iadd, 1) := by decide +kernel
theorem dX10_readOrder_329 : decode cX10_readOrder 329 = .ok (.aload_n 0, 1) := by decide +kernel
theorem dX10_readOrder_330 : decode cX10_readOrder 330 = .ok (.invokevirtual 222, 3) := by decide +kernel
theorem dX10_readOrder_333 : decode cX10_readOrder 333 = .ok (.iastore, 1) := by decide +kernel
theorem dX10_readOrder_334 : decode cX10_readOrder 334 = .ok (.goto 174, 3) := by decide +kernel
theorem dX10_readOrder_337 : decode cX10_readOrder 337 = .ok (.aload_n 0, 1) := by decide +kernel
theorem dX10_readOrder_338 : decode cX10_readOrder 338 = .ok (.getfield 32, 3) := by decide +kernel
theorem dX10_readOrder_341 : decode cX10_readOrder 341 = .ok (.iload_n 1, 1) := by decide +kernel
theorem dX10_readOrder_342 : decode cX10_readOrder 342 = .ok (.iconst 1, 1) := by decide +kernel
theorem dX10_readOrder_343 : decode cX10_readOrder 343 = .ok (.iadd, 1) := by decide +kernel
theorem dX10_readOrder_344 : decode cX10_readOrder 344 = .ok (.aload_n 0, 1) := by decide +kernel
theorem dX10_readOrder_345 : decode cX10_readOrder 345 = .ok (.invokevirtual 219, 3) := by decide +kernel
theorem dX10_readOrder_348 : decode cX10_readOrder 348 = .ok (.iastore, 1) := by decide +kernel
theorem dX10_readOrder_349 : decode cX10_readOrder 349 = .ok (.aload_n 0, 1) := by decide +kernel
theorem dX10_readOrder_350 : decode cX10_readOrder 350 = .ok (.aload_n 0, 1) := by decide +kernel
theorem dX10_readOrder_351 : decode cX10_readOrder 351 = .ok (.invokevirtual 208, 3) := by decide +kernel
theorem dX10_readOrder_354 : decode cX10_readOrder 354 = .ok (.bipush 62, 2) := by decide +kernel
theorem dX10_readOrder_356 : decode cX10_readOrder 356 = .ok (.if_icmp .ne 7, 3) := by decide +kernel
theorem dX10_readOrder_359 : decode cX10_readOrder 359 = .ok (.iconst 1, 1) := by decide +kernel
theorem dX10_readOrder_360 : decode cX10_readOrder 360 = .ok (.goto 4, 3) := by decide +kernel
theorem dX10_readOrder_363 : decode cX10_readOrder 363 = .ok (.iconst 0, 1) := by decide +kernel
theorem dX10_readOrder_364 : decode cX10_readOrder 364 = .ok (.invokevirtual 215, 3) := by decide +kernel
theorem dX10_readOrder_367 : decode cX10_readOrder 367 = .ok (.aload_n 0, 1) := by decide +kernel
theorem dX10_readOrder_368 : decode cX10_readOrder 368 = .ok (.getfield 32, 3) := by decide +kernel
theorem dX10_readOrder_371 : decode cX10_readOrder 371 = .ok (.iload_n 1, 1) := by decide +kernel
theorem dX10_readOrder_372 : decode cX10_readOrder 372 = .ok (.iconst 2, 1) := by decide +kernel
theorem dX10_readOrder_373 : decode cX10_readOrder 373 = .ok (.iadd, 1) := by decide +kernel
theorem dX10_readOrder_374 : decode cX10_readOrder 374 = .ok (.aload_n 0, 1) := by decide +kernel
theorem dX10_readOrder_375 : decode cX10_readOrder 375 = .ok (.invokevirtual 219, 3) := by decide +kernel
theorem dX10_readOrder_378 : decode cX10_readOrder 378 = .ok (.iastore, 1) := by decide +kernel
theorem dX10_readOrder_379 : decode cX10_readOrder 379 = .ok (.aload_n 0, 1) := by decide +kernel
theorem dX10_readOrder_380 : decode cX10_readOrder 380 = .ok (.aload_n 0, 1) := by decide +kernel
theorem dX10_readOrder_381 : decode cX10_readOrder 381 = .ok (.invokevirtual 208, 3) := by decide +kernel
theorem dX10_readOrder_384 : decode cX10_readOrder 384 = .ok (.bipush 42, 2) := by decide +kernel
theorem dX10_readOrder_386 : decode cX10_readOrder 386 = .ok (.if_icmp .ne 7, 3) := by decide +kernel
theorem dX10_readOrder_389 : decode cX10_readOrder 389 = .ok (.iconst 1, 1) := by decide +kernel
theorem dX10_readOrder_390 : decode cX10_readOrder 390 = .ok (.goto 4, 3) := by decide +kernel
theorem dX10_readOrder_393 : decode cX10_readOrder 393 = .ok (.iconst 0, 1) := by decide +kernel
theorem dX10_readOrder_394 : decode cX10_readOrder 394 = .ok (.invokevirtual 215, 3) := by decide +kernel
theorem dX10_readOrder_397 : decode cX10_readOrder 397 = .ok (.aload_n 0, 1) := by decide +kernel
theorem dX10_readOrder_398 : decode cX10_readOrder 398 = .ok (.getfield 32, 3) := by decide +kernel
theorem dX10_readOrder_401 : decode cX10_readOrder 401 = .ok (.iload_n 1, 1) := by decide +kernel
theorem dX10_readOrder_402 : decode cX10_readOrder 402 = .ok (.iconst 3, 1) := by decide +kernel
theorem dX10_readOrder_403 : decode cX10_readOrder 403 = .ok (.iadd, 1) := by decide +kernel
theorem dX10_readOrder_404 : decode cX10_readOrder 404 = .ok (.aload_n 0, 1) := by decide +kernel
theorem dX10_readOrder_405 : decode cX10_readOrder 405 = .ok (.invokevirtual 219, 3) := by decide +kernel
theorem dX10_readOrder_408 : decode cX10_readOrder 408 = .ok (.iastore, 1) := by decide +kernel
theorem dX10_readOrder_409 : decode cX10_readOrder 409 = .ok (.goto 99, 3) := by decide +kernel
theorem dX10_readOrder_412 : decode cX10_readOrder 412 = .ok (.aload_n 0, 1) := by decide +kernel
theorem dX10_readOrder_413 : decode cX10_readOrder 413 = .ok (.getfield 32, 3) := by decide +kernel
theorem dX10_readOrder_416 : decode cX10_readOrder 416 = .ok (.iload_n 1, 1) := by decide +kernel
theorem dX10_readOrder_417 : decode cX10_readOrder 417 = .ok (.iconst 1, 1) := by decide +kernel
theorem dX10_readOrder_418 : decode cX10_readOrder 418 = .ok (.iadd, 1) := by decide +kernel
theorem dX10_readOrder_419 : decode cX10_readOrder 419 = .ok (.aload_n 0, 1) := by decide +kernel
theorem dX10_readOrder_420 : decode cX10_readOrder 420 = .ok (.invokevirtual 219, 3) := by decide +kernel
theorem dX10_readOrder_423 : decode cX10_readOrder 423 = .ok (.iastore, 1) := by decide +kernel
theorem dX10_readOrder_424 : decode cX10_readOrder 424 = .ok (.aload_n 0, 1) := by decide +kernel
theorem dX10_readOrder_425 : decode cX10_readOrder 425 = .ok (.getfield 32, 3) := by decide +kernel
theorem dX10_readOrder_428 : decode cX10_readOrder 428 = .ok (.iload_n 1, 1) := by decide +kernel
theorem dX10_readOrder_429 : decode cX10_readOrder 429 = .ok (.iconst 2, 1) := by decide +kernel
theorem dX10_readOrder_430 : decode cX10_readOrder 430 = .ok (.iadd, 1) := by decide +kernel
theorem dX10_readOrder_431 : decode cX10_readOrder 431 = .ok (.aload_n 0, 1) := by decide +kernel
theorem dX10_readOrder_432 : decode cX10_readOrder 432 = .ok (.invokevirtual 208, 3) := by decide +kernel
theorem dX10_readOrder_435 : decode cX10_readOrder 435 = .ok (.invokestatic 232, 3) := by decide +kernel
theorem dX10_readOrder_438 : decode cX10_readOrder 438 = .ok (.iastore, 1) := by decide +kernel
theorem dX10_readOrder_439 : decode cX10_readOrder 439 = .ok (.aload_n 0, 1) := by decide +kernel
theorem dX10_readOrder_440 : decode cX10_readOrder 440 = .ok (.aload_n 0, 1) := by decide +kernel
theorem dX10_readOrder_441 : decode cX10_readOrder 441 = .ok (.getfield 32, 3) := by decide +kernel
theorem dX10_readOrder_444 : decode cX10_readOrder 444 = .ok (.iload_n 1, 1) := by decide +kernel
theorem dX10_readOrder_445 : decode cX10_readOrder 445 = .ok (.iconst 2, 1) := by decide +kernel
theorem dX10_readOrder_446 : decode cX10_readOrder 446 = .ok (.iadd, 1) := by decide +kernel
theorem dX10_readOrder_447 : decode cX10_readOrder 447 = .ok (.iaload, 1) := by decide +kernel
theorem dX10_readOrder_448 : decode cX10_readOrder 448 = .ok (.iconst (-1), 1) := by decide +kernel
theorem dX10_readOrder_449 : decode cX10_readOrder 449 = .ok (.if_icmp .eq 7, 3) := by decide +kernel
theorem dX10_readOrder_452 : decode cX10_readOrder 452 = .ok (.iconst 1, 1) := by decide +kernel
theorem dX10_readOrder_453 : decode cX10_readOrder 453 = .ok (.goto 4, 3) := by decide +kernel
theorem dX10_readOrder_456 : decode cX10_readOrder 456 = .ok (.iconst 0, 1) := by decide +kernel
theorem dX10_readOrder_457 : decode cX10_readOrder 457 = .ok (.invokevirtual 215, 3) := by decide +kernel
theorem dX10_readOrder_460 : decode cX10_readOrder 460 = .ok (.goto 48, 3) := by decide +kernel
theorem dX10_readOrder_463 : decode cX10_readOrder 463 = .ok (.aload_n 0, 1) := by decide +kernel
theorem dX10_readOrder_464 : decode cX10_readOrder 464 = .ok (.getfield 32, 3) := by decide +kernel
theorem dX10_readOrder_467 : decode cX10_readOrder 467 = .ok (.iload_n 1, 1) := by decide +kernel
theorem dX10_readOrder_468 : decode cX10_readOrder 468 = .ok (.iconst 1, 1) := by decide +kernel
theorem dX10_readOrder_469 : decode cX10_readOrder 469 = .ok (.iadd, 1) := by decide +kernel
theorem dX10_readOrder_470 : decode cX10_readOrder 470 = .ok (.aload_n 0, 1) := by decide +kernel
theorem dX10_readOrder_471 : decode cX10_readOrder 471 = .ok (.invokevirtual 219, 3) := by decide +kernel
theorem dX10_readOrder_474 : decode cX10_readOrder 474 = .ok (.iastore, 1) := by decide +kernel
theorem dX10_readOrder_475 : decode cX10_readOrder 475 = .ok (.aload_n 0, 1) := by decide +kernel
theorem dX10_readOrder_476 : decode cX10_readOrder 476 = .ok (.aload_n 0, 1) := by decide +kernel
theorem dX10_readOrder_477 : decode cX10_readOrder 477 = .ok (.invokevirtual 208, 3) := by decide +kernel
theorem dX10_readOrder_480 : decode cX10_readOrder 480 = .ok (.bipush 43, 2) := by decide +kernel
theorem dX10_readOrder_482 : decode cX10_readOrder 482 = .ok (.if_icmp .ne 7, 3) := by decide +kernel
theorem dX10_readOrder_485 : decode cX10_readOrder 485 = .ok (.iconst 1, 1) := by decide +kernel
theorem dX10_readOrder_486 : decode cX10_readOrder 486 = .ok (.goto 4, 3) := by decide +kernel
theorem dX10_readOrder_489 : decode cX10_readOrder 489 = .ok (.iconst 0, 1) := by decide +kernel
theorem dX10_readOrder_490 : decode cX10_readOrder 490 = .ok (.invokevirtual 215, 3) := by decide +kernel
theorem dX10_readOrder_493 : decode cX10_readOrder 493 = .ok (.aload_n 0, 1) := by decide +kernel
theorem dX10_readOrder_494 : decode cX10_readOrder 494 = .ok (.getfield 32, 3) := by decide +kernel
theorem dX10_readOrder_497 : decode cX10_readOrder 497 = .ok (.iload_n 1, 1) := by decide +kernel
theorem dX10_readOrder_498 : decode cX10_readOrder 498 = .ok (.iconst 2, 1) := by decide +kernel
theorem dX10_readOrder_499 : decode cX10_readOrder 499 = .ok (.iadd, 1) := by decide +kernel
theorem dX10_readOrder_500 : decode cX10_readOrder 500 = .ok (.aload_n 0, 1) := by decide +kernel
theorem dX10_readOrder_501 : decode cX10_readOrder 501 = .ok (.invokevirtual 219, 3) := by decide +kernel
theorem dX10_readOrder_504 : decode cX10_readOrder 504 = .ok (.iastore, 1) := by decide +kernel
theorem dX10_readOrder_505 : decode cX10_readOrder 505 = .ok (.goto 3, 3) := by decide +kernel
theorem dX10_readOrder_508 : decode cX10_readOrder 508 = .ok (.return_, 1) := by decide +kernel
theorem dX10_does_0 : decode cX10_does 0 = .ok (.aload_n 0, 1) := by decide +kernel
theorem dX10_does_1 : decode cX10_does 1 = .ok (.getfield 32, 3) := by decide +kernel
theorem dX10_does_4 : decode cX10_does 4 = .ok (.iload_n 1, 1) := by decide +kernel
theorem dX10_does_5 : decode cX10_does 5 = .ok (.iconst 1, 1) := by decide +kernel
theorem dX10_does_6 : decode cX10_does 6 = .ok (.iadd, 1) := by decide +kernel
theorem dX10_does_7 : decode cX10_does 7 = .ok (.iaload, 1) := by decide +kernel
theorem dX10_does_8 : decode cX10_does 8 = .ok (.istore_n 2, 1) := by decide +kernel
theorem dX10_does_9 : decode cX10_does 9 = .ok (.aload_n 0, 1) := by decide +kernel
theorem dX10_does_10 : decode cX10_does 10 = .ok (.getfield 32, 3) := by decide +kernel
theorem dX10_does_13 : decode cX10_does 13 = .ok (.iload_n 1, 1) := by decide +kernel
theorem dX10_does_14 : decode cX10_does 14 = .ok (.iconst 2, 1) := by decide +kernel
theorem dX10_does_15 : decode cX10_does 15 = .ok (.iadd, 1) := by decide +kernel
theorem dX10_does_16 : decode cX10_does 16 = .ok (.iaload, 1) := by decide +kernel
theorem dX10_does_17 : decode cX10_does 17 = .ok (.istore_n 3, 1) := by decide +kernel
theorem dX10_does_18 : decode cX10_does 18 = .ok (.aload_n 0, 1) := by decide +kernel
theorem dX10_does_19 : decode cX10_does 19 = .ok (.getfield 32, 3) := by decide +kernel
theorem dX10_does_22 : decode cX10_does 22 = .ok (.iload_n 1, 1) := by decide +kernel
theorem dX10_does_23 : decode cX10_does 23 = .ok (.iconst 3, 1) := by decide +kernel
theorem dX10_does_24 : decode cX10_does 24 = .ok (.iadd, 1) := by decide +kernel
theorem dX10_does_25 : decode cX10_does 25 = .ok (.iaload, 1) := by decide +kernel
theorem dX10_does_26 : decode cX10_does 26 = .ok (.istore 4, 2) := by decide +kernel
theorem dX10_does_28 : decode cX10_does 28 = .ok (.aload_n 0, 1) := by decide +kernel
theorem dX10_does_29 : decode cX10_does 29 = .ok (.getfield 32, 3) := by decide +kernel
theorem dX10_does_32 : decode cX10_does 32 = .ok (.iload_n 1, 1) := by decide +kernel
theorem dX10_does_33 : decode cX10_does 33 = .ok (.iaload, 1) := by decide +kernel
theorem dX10_does_34 : decode cX10_does 34 = .ok (.tableswitch 183 98 119 #[161, 183, 183, 183, 183, 143, 102, 183, 183, 183, 183, 134, 183, 183, 183, 183, 183, 114, 122, 183, 152, 173], 102) := by decide +kernel
theorem dX10_does_136 : decode cX10_does 136 = .ok (.aload_n 0, 1) := by decide +kernel
theorem dX10_does_137 : decode cX10_does 137 = .ok (.iload_n 2, 1) := by decide +kernel
theorem dX10_does_138 : decode cX10_does 138 = .ok (.iload_n 3, 1) := by decide +kernel
theorem dX10_does_139 : decode cX10_does 139 = .ok (.iload 4, 2) := by decide +kernel
theorem dX10_does_141 : decode cX10_does 141 = .ok (.invokevirtual 103, 3) := by decide +kernel
theorem dX10_does_144 : decode cX10_does 144 = .ok (.pop, 1) := by decide +kernel
theorem dX10_does_145 : decode cX10_does 145 = .ok (.goto 79, 3) := by decide +kernel
theorem dX10_does_148 : decode cX10_does 148 = .ok (.aload_n 0, 1) := by decide +kernel
theorem dX10_does_149 : decode cX10_does 149 = .ok (.invokevirtual 114, 3) := by decide +kernel
theorem dX10_does_152 : decode cX10_does 152 = .ok (.pop, 1) := by decide +kernel
theorem dX10_does_153 : decode cX10_does 153 = .ok (.goto 71, 3) := by decide +kernel
theorem dX10_does_156 : decode cX10_does 156 = .ok (.aload_n 0, 1) := by decide +kernel
theorem dX10_does_157 : decode cX10_does 157 = .ok (.iload_n 2, 1) := by decide +kernel
theorem dX10_does_158 : decode cX10_does 158 = .ok (.iload_n 3, 1) := by decide +kernel
theorem dX10_does_159 : decode cX10_does 159 = .ok (.iload 4, 2) := by decide +kernel
theorem dX10_does_161 : decode cX10_does 161 = .ok (.invokevirtual 123, 3) := by decide +kernel
theorem dX10_does_164 : decode cX10_does 164 = .ok (.pop, 1) := by decide +kernel
theorem dX10_does_165 : decode cX10_does 165 = .ok (.goto 59, 3) := by decide +kernel
theorem dX10_does_168 : decode cX10_does 168 = .ok (.aload_n 0, 1) := by decide +kernel
theorem dX10_does_169 : decode cX10_does 169 = .ok (.iload_n 2, 1) := by decide +kernel
theorem dX10_does_170 : decode cX10_does 170 = .ok (.invokevirtual 134, 3) := by decide +kernel
theorem dX10_does_173 : decode cX10_does 173 = .ok (.pop, 1) := by decide +kernel
theorem dX10_does_174 : decode cX10_does 174 = .ok (.goto 50, 3) := by decide +kernel
theorem dX10_does_177 : decode cX10_does 177 = .ok (.aload_n 0, 1) := by decide +kernel
theorem dX10_does_178 : decode cX10_does 178 = .ok (.iload_n 2, 1) := by decide +kernel
theorem dX10_does_179 : decode cX10_does 179 = .ok (.invokevirtual 139, 3) := by decide +kernel
theorem dX10_does_182 : decode cX10_does 182 = .ok (.pop, 1) := by decide +kernel
theorem dX10_does_183 : decode cX10_does 183 = .ok (.goto 41, 3) := by decide +kernel
theorem dX10_does_186 : decode cX10_does 186 = .ok (.aload_n 0, 1) := by decide +kernel
theorem dX10_does_187 : decode cX10_does 187 = .ok (.iload_n 2, 1) := by decide +kernel
theorem dX10_does_188 : decode cX10_does 188 = .ok (.invokevirtual 151, 3) := by decide +kernel
theorem dX10_does_191 : decode cX10_does 191 = .ok (.pop, 1) := by decide +kernel
theorem dX10_does_192 : decode cX10_does 192 = .ok (.goto 32, 3) := by decide +kernel
theorem dX10_does_195 : decode cX10_does 195 = .ok (.aload_n 0, 1) := by decide +kernel
theorem dX10_does_196 : decode cX10_does 196 = .ok (.iload_n 2, 1) := by decide +kernel
theorem dX10_does_197 : decode cX10_does 197 = .ok (.iload_n 3, 1) := by decide +kernel
theorem dX10_does_198 : decode cX10_does 198 = .ok (.iload 4, 2) := by decide +kernel
theorem dX10_does_200 : decode cX10_does 200 = .ok (.invokevirtual 159, 3) := by decide +kernel
theorem dX10_does_203 : decode cX10_does 203 = .ok (.pop, 1) := by decide +kernel
theorem dX10_does_204 : decode cX10_does 204 = .ok (.goto 20, 3) := by decide +kernel
theorem dX10_does_207 : decode cX10_does 207 = .ok (.aload_n 0, 1) := by decide +kernel
theorem dX10_does_208 : decode cX10_does 208 = .ok (.iload_n 2, 1) := by decide +kernel
theorem dX10_does_209 : decode cX10_does 209 = .ok (.iload_n 3, 1) := by decide +kernel
theorem dX10_does_210 : decode cX10_does 210 = .ok (.invokevirtual 168, 3) := by decide +kernel
theorem dX10_does_213 : decode cX10_does 213 = .ok (.pop, 1) := by decide +kernel
theorem dX10_does_214 : decode cX10_does 214 = .ok (.goto 10, 3) := by decide +kernel
theorem dX10_does_217 : decode cX10_does 217 = .ok (.aload_n 0, 1) := by decide +kernel
theorem dX10_does_218 : decode cX10_does 218 = .ok (.iload_n 2, 1) := by decide +kernel
theorem dX10_does_219 : decode cX10_does 219 = .ok (.iload_n 3, 1) := by decide +kernel
theorem dX10_does_220 : decode cX10_does 220 = .ok (.invokevirtual 171, 3) := by decide +kernel
theorem dX10_does_223 : decode cX10_does 223 = .ok (.pop, 1) := by decide +kernel
theorem dX10_does_224 : decode cX10_does 224 = .ok (.return_, 1) := by decide +kernel
theorem dX10_commands_0 : decode cX10_commands 0 = .ok (.aload_n 0, 1) := by decide +kernel
theorem dX10_commands_1 : decode cX10_commands 1 = .ok (.invokevirtual 100, 3) := by decide +kernel
theorem dX10_commands_4 : decode cX10_commands 4 = .ok (.aload_n 0, 1) := by decide +kernel
theorem dX10_commands_5 : decode cX10_commands 5 = .ok (.aload_n 0, 1) := by decide +kernel
theorem dX10_commands_6 : decode cX10_commands 6 = .ok (.getfield 195, 3) := by decide +kernel
theorem dX10_commands_9 : decode cX10_commands 9 = .ok (.putfield 201, 3) := by decide +kernel
theorem dX10_commands_12 : decode cX10_commands 12 = .ok (.aload_n 0, 1) := by decide +kernel
theorem dX10_commands_13 : decode cX10_commands 13 = .ok (.iconst 0, 1) := by decide +kernel
theorem dX10_commands_14 : decode cX10_commands 14 = .ok (.putfield 195, 3) := by decide +kernel
theorem dX10_commands_17 : decode cX10_commands 17 = .ok (.aload_n 0, 1) := by decide +kernel
theorem dX10_commands_18 : decode cX10_commands 18 = .ok (.iconst 0, 1) := by decide +kernel
theorem dX10_commands_19 : decode cX10_commands 19 = .ok (.putfield 198, 3) := by decide +kernel
theorem dX10_commands_22 : decode cX10_commands 22 = .ok (.aload_n 0, 1) := by decide +kernel
theorem dX10_commands_23 : decode cX10_commands 23 = .ok (.iconst 0, 1) := by decide +kernel
theorem dX10_commands_24 : decode cX10_commands 24 = .ok (.putfield 225, 3) := by decide +kernel
theorem dX10_commands_27 : decode cX10_commands 27 = .ok (.aload_n 0, 1) := by decide +kernel
theorem dX10_commands_28 : decode cX10_commands 28 = .ok (.iconst 0, 1) := by decide +kernel
theorem dX10_commands_29 : decode cX10_commands 29 = .ok (.putfield 204, 3) := by decide +kernel
theorem dX10_commands_32 : decode cX10_commands 32 = .ok (.iconst 1, 1) := by decide +kernel
theorem dX10_commands_33 : decode cX10_commands 33 = .ok (.istore_n 1, 1) := by decide +kernel
theorem dX10_commands_34 : decode cX10_commands 34 = .ok (.iload_n 1, 1) := by decide +kernel
theorem dX10_commands_35 : decode cX10_commands 35 = .ok (.ifCond .eq 69, 3) := by decide +kernel
theorem dX10_commands_38 : decode cX10_commands 38 = .ok (.aload_n 0, 1) := by decide +kernel
theorem dX10_commands_39 : decode cX10_commands 39 = .ok (.invokevirtual 235, 3) := by decide +kernel
theorem dX10_commands_42 : decode cX10_commands 42 = .ok (.aload_n 0, 1) := by decide +kernel
theorem dX10_commands_43 : decode cX10_commands 43 = .ok (.getfield 204, 3) := by decide +kernel
theorem dX10_commands_46 : decode cX10_commands 46 = .ok (.ifCond .ne 18, 3) := by decide +kernel
theorem dX10_commands_49 : decode cX10_commands 49 = .ok (.aload_n 0, 1) := by decide +kernel
theorem dX10_commands_50 : decode cX10_commands 50 = .ok (.getfield 198, 3) := by decide +kernel
theorem dX10_commands_53 : decode cX10_commands 53 = .ok (.aload_n 0, 1) := by decide +kernel
theorem dX10_commands_54 : decode cX10_commands 54 = .ok (.getfield 201, 3) := by decide +kernel
theorem dX10_commands_57 : decode cX10_commands 57 = .ok (.if_icmp .ge 7, 3) := by decide +kernel
theorem dX10_commands_60 : decode cX10_commands 60 = .ok (.iconst 1, 1) := by decide +kernel
theorem dX10_commands_61 : decode cX10_commands 61 = .ok (.goto 4, 3) := by decide +kernel
theorem dX10_commands_64 : decode cX10_commands 64 = .ok (.iconst 0, 1) := by decide +kernel
theorem dX10_commands_65 : decode cX10_commands 65 = .ok (.istore_n 1, 1) := by decide +kernel
theorem dX10_commands_66 : decode cX10_commands 66 = .ok (.iload_n 1, 1) := by decide +kernel
theorem dX10_commands_67 : decode cX10_commands 67 = .ok (.ifCond .eq (-33), 3) := by decide +kernel
theorem dX10_commands_70 : decode cX10_commands 70 = .ok (.aload_n 0, 1) := by decide +kernel
theorem dX10_commands_71 : decode cX10_commands 71 = .ok (.aload_n 0, 1) := by decide +kernel
theorem dX10_commands_72 : decode cX10_commands 72 = .ok (.invokevirtual 208, 3) := by decide +kernel
theorem dX10_commands_75 : decode cX10_commands 75 = .ok (.bipush 59, 2) := by decide +kernel
theorem dX10_commands_77 : decode cX10_commands 77 = .ok (.if_icmp .ne 7, 3) := by decide +kernel
theorem dX10_commands_80 : decode cX10_commands 80 = .ok (.iconst 1, 1) := by decide +kernel
theorem dX10_commands_81 : decode cX10_commands 81 = .ok (.goto 4, 3) := by decide +kernel
theorem dX10_commands_84 : decode cX10_commands 84 = .ok (.iconst 0, 1) := by decide +kernel
theorem dX10_commands_85 : decode cX10_commands 85 = .ok (.invokevirtual 215, 3) := by decide +kernel
theorem dX10_commands_88 : decode cX10_commands 88 = .ok (.aload_n 0, 1) := by decide +kernel
theorem dX10_commands_89 : decode cX10_commands 89 = .ok (.getfield 204, 3) := by decide +kernel
theorem dX10_commands_92 : decode cX10_commands 92 = .ok (.ifCond .ne 7, 3) := by decide +kernel
theorem dX10_commands_95 : decode cX10_commands 95 = .ok (.iconst 1, 1) := by decide +kernel
theorem dX10_commands_96 : decode cX10_commands 96 = .ok (.goto 4, 3) := by decide +kernel
theorem dX10_commands_99 : decode cX10_commands 99 = .ok (.iconst 0, 1) := by decide +kernel
theorem dX10_commands_100 : decode cX10_commands 100 = .ok (.istore_n 1, 1) := by decide +kernel
theorem dX10_commands_101 : decode cX10_commands 101 = .ok (.goto (-67), 3) := by decide +kernel
theorem dX10_commands_104 : decode cX10_commands 104 = .ok (.aload_n 0, 1) := by decide +kernel
theorem dX10_commands_105 : decode cX10_commands 105 = .ok (.aload_n 0, 1) := by decide +kernel
theorem dX10_commands_106 : decode cX10_commands 106 = .ok (.getfield 204, 3) := by decide +kernel
theorem dX10_commands_109 : decode cX10_commands 109 = .ok (.ifCond .eq 10, 3) := by decide +kernel
theorem dX10_commands_112 : decode cX10_commands 112 = .ok (.aload_n 0, 1) := by decide +kernel
theorem dX10_commands_113 : decode cX10_commands 113 = .ok (.getfield 198, 3) := by decide +kernel
theorem dX10_commands_116 : decode cX10_commands 116 = .ok (.goto 4, 3) := by decide +kernel
theorem dX10_commands_119 : decode cX10_commands 119 = .ok (.iconst (-1), 1) := by decide +kernel
theorem dX10_commands_120 : decode cX10_commands 120 = .ok (.putfield 22, 3) := by decide +kernel
theorem dX10_commands_123 : decode cX10_commands 123 = .ok (.aload_n 0, 1) := by decide +kernel
theorem dX10_commands_124 : decode cX10_commands 124 = .ok (.getfield 204, 3) := by decide +kernel
theorem dX10_commands_127 : decode cX10_commands 127 = .ok (.ifCond .eq 9, 3) := by decide +kernel
theorem dX10_commands_130 : decode cX10_commands 130 = .ok (.aload_n 0, 1) := by decide +kernel
