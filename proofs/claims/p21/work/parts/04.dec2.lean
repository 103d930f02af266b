theorem dX5_isSame_40 : decode cX5_isSame 40 = .ok (.aload 7, 2) := by decide +kernel
theorem dX5_isSame_42 : decode cX5_isSame 42 = .ok (.iconst 1, 1) := by decide +kernel
theorem dX5_isSame_43 : decode cX5_isSame 43 = .ok (.iaload, 1) := by decide +kernel
theorem dX5_isSame_44 : decode cX5_isSame 44 = .ok (.if_icmp .ne 7, 3) := by decide +kernel
theorem dX5_isSame_47 : decode cX5_isSame 47 = .ok (.iconst 1, 1) := by decide +kernel
theorem dX5_isSame_48 : decode cX5_isSame 48 = .ok (.goto 4, 3) := by decide +kernel
theorem dX5_isSame_51 : decode cX5_isSame 51 = .ok (.iconst 0, 1) := by decide +kernel
theorem dX5_isSame_52 : decode cX5_isSame 52 = .ok (.iadd, 1) := by decide +kernel
theorem dX5_isSame_53 : decode cX5_isSame 53 = .ok (.istore_n 3, 1) := by decide +kernel
theorem dX5_isSame_54 : decode cX5_isSame 54 = .ok (.iinc 6 1, 3) := by decide +kernel
theorem dX5_isSame_57 : decode cX5_isSame 57 = .ok (.goto (-36), 3) := by decide +kernel
theorem dX5_isSame_60 : decode cX5_isSame 60 = .ok (.bipush 9, 2) := by decide +kernel
theorem dX5_isSame_62 : decode cX5_isSame 62 = .ok (.newarray .int, 2) := by decide +kernel
theorem dX5_isSame_64 : decode cX5_isSame 64 = .ok (.dup, 1) := by decide +kernel
theorem dX5_isSame_65 : decode cX5_isSame 65 = .ok (.iconst 0, 1) := by decide +kernel
theorem dX5_isSame_66 : decode cX5_isSame 66 = .ok (.aload_n 0, 1) := by decide +kernel
theorem dX5_isSame_67 : decode cX5_isSame 67 = .ok (.getfield 24, 3) := by decide +kernel
theorem dX5_isSame_70 : decode cX5_isSame 70 = .ok (.iastore, 1) := by decide +kernel
theorem dX5_isSame_71 : decode cX5_isSame 71 = .ok (.dup, 1) := by decide +kernel
theorem dX5_isSame_72 : decode cX5_isSame 72 = .ok (.iconst 1, 1) := by decide +kernel
theorem dX5_isSame_73 : decode cX5_isSame 73 = .ok (.aload_n 0, 1) := by decide +kernel
theorem dX5_isSame_74 : decode cX5_isSame 74 = .ok (.getfield 9, 3) := by decide +kernel
theorem dX5_isSame_77 : decode cX5_isSame 77 = .ok (.arraylength, 1) := by decide +kernel
theorem dX5_isSame_78 : decode cX5_isSame 78 = .ok (.iastore, 1) := by decide +kernel
theorem dX5_isSame_79 : decode cX5_isSame 79 = .ok (.dup, 1) := by decide +kernel
theorem dX5_isSame_80 : decode cX5_isSame 80 = .ok (.iconst 2, 1) := by decide +kernel
theorem dX5_isSame_81 : decode cX5_isSame 81 = .ok (.aload_n 2, 1) := by decide +kernel
theorem dX5_isSame_82 : decode cX5_isSame 82 = .ok (.iconst 0, 1) := by decide +kernel
theorem dX5_isSame_83 : decode cX5_isSame 83 = .ok (.iaload, 1) := by decide +kernel
theorem dX5_isSame_84 : decode cX5_isSame 84 = .ok (.iastore, 1) := by decide +kernel
theorem dX5_isSame_85 : decode cX5_isSame 85 = .ok (.dup, 1) := by decide +kernel
theorem dX5_isSame_86 : decode cX5_isSame 86 = .ok (.iconst 3, 1) := by decide +kernel
theorem dX5_isSame_87 : decode cX5_isSame 87 = .ok (.aload_n 2, 1) := by decide +kernel
theorem dX5_isSame_88 : decode cX5_isSame 88 = .ok (.iconst 1, 1) := by decide +kernel
theorem dX5_isSame_89 : decode cX5_isSame 89 = .ok (.iaload, 1) := by decide +kernel
theorem dX5_isSame_90 : decode cX5_isSame 90 = .ok (.iastore, 1) := by decide +kernel
theorem dX5_isSame_91 : decode cX5_isSame 91 = .ok (.dup, 1) := by decide +kernel
theorem dX5_isSame_92 : decode cX5_isSame 92 = .ok (.iconst 4, 1) := by decide +kernel
theorem dX5_isSame_93 : decode cX5_isSame 93 = .ok (.aload_n 0, 1) := by decide +kernel
theorem dX5_isSame_94 : decode cX5_isSame 94 = .ok (.getfield 15, 3) := by decide +kernel
theorem dX5_isSame_97 : decode cX5_isSame 97 = .ok (.arraylength, 1) := by decide +kernel
theorem dX5_isSame_98 : decode cX5_isSame 98 = .ok (.iastore, 1) := by decide +kernel
theorem dX5_isSame_99 : decode cX5_isSame 99 = .ok (.dup, 1) := by decide +kernel
theorem dX5_isSame_100 : decode cX5_isSame 100 = .ok (.iconst 5, 1) := by decide +kernel
theorem dX5_isSame_101 : decode cX5_isSame 101 = .ok (.iload_n 3, 1) := by decide +kernel
theorem dX5_isSame_102 : decode cX5_isSame 102 = .ok (.iastore, 1) := by decide +kernel
theorem dX5_isSame_103 : decode cX5_isSame 103 = .ok (.dup, 1) := by decide +kernel
theorem dX5_isSame_104 : decode cX5_isSame 104 = .ok (.bipush 6, 2) := by decide +kernel
theorem dX5_isSame_106 : decode cX5_isSame 106 = .ok (.aload_n 0, 1) := by decide +kernel
theorem dX5_isSame_107 : decode cX5_isSame 107 = .ok (.getfield 31, 3) := by decide +kernel
theorem dX5_isSame_110 : decode cX5_isSame 110 = .ok (.iastore, 1) := by decide +kernel
theorem dX5_isSame_111 : decode cX5_isSame 111 = .ok (.dup, 1) := by decide +kernel
theorem dX5_isSame_112 : decode cX5_isSame 112 = .ok (.bipush 7, 2) := by decide +kernel
theorem dX5_isSame_114 : decode cX5_isSame 114 = .ok (.aload_n 0, 1) := by decide +kernel
theorem dX5_isSame_115 : decode cX5_isSame 115 = .ok (.getfield 28, 3) := by decide +kernel
theorem dX5_isSame_118 : decode cX5_isSame 118 = .ok (.iastore, 1) := by decide +kernel
theorem dX5_isSame_119 : decode cX5_isSame 119 = .ok (.dup, 1) := by decide +kernel
theorem dX5_isSame_120 : decode cX5_isSame 120 = .ok (.bipush 8, 2) := by decide +kernel
theorem dX5_isSame_122 : decode cX5_isSame 122 = .ok (.aload_n 2, 1) := by decide +kernel
theorem dX5_isSame_123 : decode cX5_isSame 123 = .ok (.iconst 2, 1) := by decide +kernel
theorem dX5_isSame_124 : decode cX5_isSame 124 = .ok (.iaload, 1) := by decide +kernel
theorem dX5_isSame_125 : decode cX5_isSame 125 = .ok (.iastore, 1) := by decide +kernel
theorem dX5_isSame_126 : decode cX5_isSame 126 = .ok (.astore 4, 2) := by decide +kernel
theorem dX5_isSame_128 : decode cX5_isSame 128 = .ok (.iconst 0, 1) := by decide +kernel
theorem dX5_isSame_129 : decode cX5_isSame 129 = .ok (.istore 5, 2) := by decide +kernel
theorem dX5_isSame_131 : decode cX5_isSame 131 = .ok (.iload 5, 2) := by decide +kernel
theorem dX5_isSame_133 : decode cX5_isSame 133 = .ok (.bipush 9, 2) := by decide +kernel
theorem dX5_isSame_135 : decode cX5_isSame 135 = .ok (.if_icmp .ge 25, 3) := by decide +kernel
theorem dX5_isSame_138 : decode cX5_isSame 138 = .ok (.aload_n 1, 1) := by decide +kernel
theorem dX5_isSame_139 : decode cX5_isSame 139 = .ok (.iload 5, 2) := by decide +kernel
theorem dX5_isSame_141 : decode cX5_isSame 141 = .ok (.invokevirtual 57, 3) := by decide +kernel
theorem dX5_isSame_144 : decode cX5_isSame 144 = .ok (.aload 4, 2) := by decide +kernel
theorem dX5_isSame_146 : decode cX5_isSame 146 = .ok (.iload 5, 2) := by decide +kernel
theorem dX5_isSame_148 : decode cX5_isSame 148 = .ok (.iaload, 1) := by decide +kernel
theorem dX5_isSame_149 : decode cX5_isSame 149 = .ok (.if_icmp .eq 5, 3) := by decide +kernel
theorem dX5_isSame_152 : decode cX5_isSame 152 = .ok (.iconst 0, 1) := by decide +kernel
theorem dX5_isSame_153 : decode cX5_isSame 153 = .ok (.ireturn, 1) := by decide +kernel
theorem dX5_isSame_154 : decode cX5_isSame 154 = .ok (.iinc 5 1, 3) := by decide +kernel
theorem dX5_isSame_157 : decode cX5_isSame 157 = .ok (.goto (-26), 3) := by decide +kernel
theorem dX5_isSame_160 : decode cX5_isSame 160 = .ok (.aload_n 0, 1) := by decide +kernel
theorem dX5_isSame_161 : decode cX5_isSame 161 = .ok (.getfield 9, 3) := by decide +kernel
theorem dX5_isSame_164 : decode cX5_isSame 164 = .ok (.arraylength, 1) := by decide +kernel
theorem dX5_isSame_165 : decode cX5_isSame 165 = .ok (.anewarray 7, 3) := by decide +kernel
theorem dX5_isSame_168 : decode cX5_isSame 168 = .ok (.astore 5, 2) := by decide +kernel
theorem dX5_isSame_170 : decode cX5_isSame 170 = .ok (.iconst 0, 1) := by decide +kernel
theorem dX5_isSame_171 : decode cX5_isSame 171 = .ok (.istore 6, 2) := by decide +kernel
theorem dX5_isSame_173 : decode cX5_isSame 173 = .ok (.iload 6, 2) := by decide +kernel
theorem dX5_isSame_175 : decode cX5_isSame 175 = .ok (.aload_n 0, 1) := by decide +kernel
theorem dX5_isSame_176 : decode cX5_isSame 176 = .ok (.getfield 9, 3) := by decide +kernel
theorem dX5_isSame_179 : decode cX5_isSame 179 = .ok (.arraylength, 1) := by decide +kernel
theorem dX5_isSame_180 : decode cX5_isSame 180 = .ok (.if_icmp .ge 53, 3) := by decide +kernel
theorem dX5_isSame_183 : decode cX5_isSame 183 = .ok (.aload 5, 2) := by decide +kernel
theorem dX5_isSame_185 : decode cX5_isSame 185 = .ok (.iload 6, 2) := by decide +kernel
theorem dX5_isSame_187 : decode cX5_isSame 187 = .ok (.iconst 5, 1) := by decide +kernel
theorem dX5_isSame_188 : decode cX5_isSame 188 = .ok (.newarray .int, 2) := by decide +kernel
theorem dX5_isSame_190 : decode cX5_isSame 190 = .ok (.dup, 1) := by decide +kernel
theorem dX5_isSame_191 : decode cX5_isSame 191 = .ok (.iconst 0, 1) := by decide +kernel
theorem dX5_isSame_192 : decode cX5_isSame 192 = .ok (.aload_n 0, 1) := by decide +kernel
theorem dX5_isSame_193 : decode cX5_isSame 193 = .ok (.getfield 9, 3) := by decide +kernel
theorem dX5_isSame_196 : decode cX5_isSame 196 = .ok (.iload 6, 2) := by decide +kernel
theorem dX5_isSame_198 : decode cX5_isSame 198 = .ok (.aaload, 1) := by decide +kernel
theorem dX5_isSame_199 : decode cX5_isSame 199 = .ok (.iconst 0, 1) := by decide +kernel
theorem dX5_isSame_200 : decode cX5_isSame 200 = .ok (.iaload, 1) := by decide +kernel
theorem dX5_isSame_201 : decode cX5_isSame 201 = .ok (.iastore, 1) := by decide +kernel
theorem dX5_isSame_202 : decode cX5_isSame 202 = .ok (.dup, 1) := by decide +kernel
theorem dX5_isSame_203 : decode cX5_isSame 203 = .ok (.iconst 1, 1) := by decide +kernel
theorem dX5_isSame_204 : decode cX5_isSame 204 = .ok (.aload_n 0, 1) := by decide +kernel
theorem dX5_isSame_205 : decode cX5_isSame 205 = .ok (.getfield 9, 3) := by decide +kernel
theorem dX5_isSame_208 : decode cX5_isSame 208 = .ok (.iload 6, 2) := by decide +kernel
theorem dX5_isSame_210 : decode cX5_isSame 210 = .ok (.aaload, 1) := by decide +kernel
theorem dX5_isSame_211 : decode cX5_isSame 211 = .ok (.iconst 1, 1) := by decide +kernel
theorem dX5_isSame_212 : decode cX5_isSame 212 = .ok (.iaload, 1) := by decide +kernel
theorem dX5_isSame_213 : decode cX5_isSame 213 = .ok (.iastore, 1) := by decide +kernel
theorem dX5_isSame_214 : decode cX5_isSame 214 = .ok (.dup, 1) := by decide +kernel
theorem dX5_isSame_215 : decode cX5_isSame 215 = .ok (.iconst 2, 1) := by decide +kernel
theorem dX5_isSame_216 : decode cX5_isSame 216 = .ok (.iconst 0, 1) := by decide +kernel
theorem dX5_isSame_217 : decode cX5_isSame 217 = .ok (.iastore, 1) := by decide +kernel
theorem dX5_isSame_218 : decode cX5_isSame 218 = .ok (.dup, 1) := by decide +kernel
theorem dX5_isSame_219 : decode cX5_isSame 219 = .ok (.iconst 3, 1) := by decide +kernel
theorem dX5_isSame_220 : decode cX5_isSame 220 = .ok (.iconst 0, 1) := by decide +kernel
theorem dX5_isSame_221 : decode cX5_isSame 221 = .ok (.iastore, 1) := by decide +kernel
theorem dX5_isSame_222 : decode cX5_isSame 222 = .ok (.dup, 1) := by decide +kernel
theorem dX5_isSame_223 : decode cX5_isSame 223 = .ok (.iconst 4, 1) := by decide +kernel
theorem dX5_isSame_224 : decode cX5_isSame 224 = .ok (.iconst (-1), 1) := by decide +kernel
theorem dX5_isSame_225 : decode cX5_isSame 225 = .ok (.iastore, 1) := by decide +kernel
theorem dX5_isSame_226 : decode cX5_isSame 226 = .ok (.aastore, 1) := by decide +kernel
theorem dX5_isSame_227 : decode cX5_isSame 227 = .ok (.iinc 6 1, 3) := by decide +kernel
theorem dX5_isSame_230 : decode cX5_isSame 230 = .ok (.goto (-57), 3) := by decide +kernel
theorem dX5_isSame_233 : decode cX5_isSame 233 = .ok (.aload_n 0, 1) := by decide +kernel
theorem dX5_isSame_234 : decode cX5_isSame 234 = .ok (.getfield 15, 3) := by decide +kernel
theorem dX5_isSame_237 : decode cX5_isSame 237 = .ok (.arraylength, 1) := by decide +kernel
theorem dX5_isSame_238 : decode cX5_isSame 238 = .ok (.newarray .int, 2) := by decide +kernel
theorem dX5_isSame_240 : decode cX5_isSame 240 = .ok (.astore 6, 2) := by decide +kernel
theorem dX5_isSame_242 : decode cX5_isSame 242 = .ok (.iconst 0, 1) := by decide +kernel
theorem dX5_isSame_243 : decode cX5_isSame 243 = .ok (.istore 7, 2) := by decide +kernel
theorem dX5_isSame_245 : decode cX5_isSame 245 = .ok (.iload 7, 2) := by decide +kernel
theorem dX5_isSame_247 : decode cX5_isSame 247 = .ok (.iconst 5, 1) := by decide +kernel
theorem dX5_isSame_248 : decode cX5_isSame 248 = .ok (.if_icmp .ge 313, 3) := by decide +kernel
theorem dX5_isSame_251 : decode cX5_isSame 251 = .ok (.iconst 0, 1) := by decide +kernel
theorem dX5_isSame_252 : decode cX5_isSame 252 = .ok (.istore 8, 2) := by decide +kernel
theorem dX5_isSame_254 : decode cX5_isSame 254 = .ok (.iload 8, 2) := by decide +kernel
theorem dX5_isSame_256 : decode cX5_isSame 256 = .ok (.bipush 8, 2) := by decide +kernel
theorem dX5_isSame_258 : decode cX5_isSame 258 = .ok (.if_icmp .ge 297, 3) := by decide +kernel
theorem dX5_isSame_261 : decode cX5_isSame 261 = .ok (.aload_n 0, 1) := by decide +kernel
theorem dX5_isSame_262 : decode cX5_isSame 262 = .ok (.getfield 20, 3) := by decide +kernel
theorem dX5_isSame_265 : decode cX5_isSame 265 = .ok (.iload 7, 2) := by decide +kernel
theorem dX5_isSame_267 : decode cX5_isSame 267 = .ok (.aaload, 1) := by decide +kernel
theorem dX5_isSame_268 : decode cX5_isSame 268 = .ok (.iload 8, 2) := by decide +kernel
theorem dX5_isSame_270 : decode cX5_isSame 270 = .ok (.aaload, 1) := by decide +kernel
theorem dX5_isSame_271 : decode cX5_isSame 271 = .ok (.astore 9, 2) := by decide +kernel
theorem dX5_isSame_273 : decode cX5_isSame 273 = .ok (.aload 9, 2) := by decide +kernel
theorem dX5_isSame_275 : decode cX5_isSame 275 = .ok (.ifnonnull 44, 3) := by decide +kernel
theorem dX5_isSame_278 : decode cX5_isSame 278 = .ok (.bipush 8, 2) := by decide +kernel
theorem dX5_isSame_280 : decode cX5_isSame 280 = .ok (.newarray .int, 2) := by decide +kernel
theorem dX5_isSame_282 : decode cX5_isSame 282 = .ok (.dup, 1) := by decide +kernel
theorem dX5_isSame_283 : decode cX5_isSame 283 = .ok (.iconst 0, 1) := by decide +kernel
theorem dX5_isSame_284 : decode cX5_isSame 284 = .ok (.iconst (-1), 1) := by decide +kernel
theorem dX5_isSame_285 : decode cX5_isSame 285 = .ok (.iastore, 1) := by decide +kernel
theorem dX5_isSame_286 : decode cX5_isSame 286 = .ok (.dup, 1) := by decide +kernel
theorem dX5_isSame_287 : decode cX5_isSame 287 = .ok (.iconst 1, 1) := by decide +kernel
theorem dX5_isSame_288 : decode cX5_isSame 288 = .ok (.iconst (-1), 1) := by decide +kernel
theorem dX5_isSame_289 : decode cX5_isSame 289 = .ok (.iastore, 1) := by decide +kernel
theorem dX5_isSame_290 : decode cX5_isSame 290 = .ok (.dup, 1) := by decide +kernel
theorem dX5_isSame_291 : decode cX5_isSame 291 = .ok (.iconst 2, 1) := by decide +kernel
theorem dX5_isSame_292 : decode cX5_isSame 292 = .ok (.iconst (-1), 1) := by decide +kernel
theorem dX5_isSame_293 : decode cX5_isSame 293 = .ok (.iastore, 1) := by decide +kernel
theorem dX5_isSame_294 : decode cX5_isSame 294 = .ok (.dup, 1) := by decide +kernel
theorem dX5_isSame_295 : decode cX5_isSame 295 = .ok (.iconst 3, 1) := by decide +kernel
theorem dX5_isSame_296 : decode cX5_isSame 296 = .ok (.iconst (-1), 1) := by decide +kernel
theorem dX5_isSame_297 : decode cX5_isSame 297 = .ok (.iastore, 1) := by decide +kernel
theorem dX5_isSame_298 : decode cX5_isSame 298 = .ok (.dup, 1) := by decide +kernel
theorem dX5_isSame_299 : decode cX5_isSame 299 = .ok (.iconst 4, 1) := by decide +kernel
theorem dX5_isSame_300 : decode cX5_isSame 300 = .ok (.iconst (-1), 1) := by decide +kernel
theorem dX5_isSame_301 : decode cX5_isSame 301 = .ok (.iastore, 1) := by decide +kernel
theorem dX5_isSame_302 : decode cX5_isSame 302 = .ok (.dup, 1) := by decide +kernel
theorem dX5_isSame_303 : decode cX5_isSame 303 = .ok (.iconst 5, 1) := by decide +kernel
theorem dX5_isSame_304 : decode cX5_isSame 304 = .ok (.iconst (-1), 1) := by decide +kernel
theorem dX5_isSame_305 : decode cX5_isSame 305 = .ok (.iastore, 1) := by decide +kernel
theorem dX5_isSame_306 : decode cX5_isSame 306 = .ok (.dup, 1) := by decide +kernel
theorem dX5_isSame_307 : decode cX5_isSame 307 = .ok (.bipush 6, 2) := by decide +kernel
theorem dX5_isSame_309 : decode cX5_isSame 309 = .ok (.iconst (-1), 1) := by decide +kernel
theorem dX5_isSame_310 : decode cX5_isSame 310 = .ok (.iastore, 1) := by decide +kernel
theorem dX5_isSame_311 : decode cX5_isSame 311 = .ok (.dup, 1) := by decide +kernel
theorem dX5_isSame_312 : decode cX5_isSame 312 = .ok (.bipush 7, 2) := by decide +kernel
theorem dX5_isSame_314 : decode cX5_isSame 314 = .ok (.iconst (-1), 1) := by decide +kernel
theorem dX5_isSame_315 : decode cX5_isSame 315 = .ok (.iastore, 1) := by decide +kernel
theorem dX5_isSame_316 : decode cX5_isSame 316 = .ok (.goto 76, 3) := by decide +kernel
theorem dX5_isSame_319 : decode cX5_isSame 319 = .ok (.bipush 8, 2) := by decide +kernel
theorem dX5_isSame_321 : decode cX5_isSame 321 = .ok (.newarray .int, 2) := by decide +kernel
theorem dX5_isSame_323 : decode cX5_isSame 323 = .ok (.dup, 1) := by decide +kernel
theorem dX5_isSame_324 : decode cX5_isSame 324 = .ok (.iconst 0, 1) := by decide +kernel
theorem dX5_isSame_325 : decode cX5_isSame 325 = .ok (.aload 9, 2) := by decide +kernel
theorem dX5_isSame_327 : decode cX5_isSame 327 = .ok (.iconst 0, 1) := by decide +kernel
theorem dX5_isSame_328 : decode cX5_isSame 328 = .ok (.iaload, 1) := by decide +kernel
theorem dX5_isSame_329 : decode cX5_isSame 329 = .ok (.iastore, 1) := by decide +kernel
theorem dX5_isSame_330 : decode cX5_isSame 330 = .ok (.dup, 1) := by decide +kernel
theorem dX5_isSame_331 : decode cX5_isSame 331 = .ok (.iconst 1, 1) := by decide +kernel
theorem dX5_isSame_332 : decode cX5_isSame 332 = .ok (.aload 9, 2) := by decide +kernel
theorem dX5_isSame_334 : decode cX5_isSame 334 = .ok (.iconst 1, 1) := by decide +kernel
theorem dX5_isSame_335 : decode cX5_isSame 335 = .ok (.iaload, 1) := by decide +kernel
theorem dX5_isSame_336 : decode cX5_isSame 336 = .ok (.iastore, 1) := by decide +kernel
theorem dX5_isSame_337 : decode cX5_isSame 337 = .ok (.dup, 1) := by decide +kernel
theorem dX5_isSame_338 : decode cX5_isSame 338 = .ok (.iconst 2, 1) := by decide +kernel
theorem dX5_isSame_339 : decode cX5_isSame 339 = .ok (.aload 9, 2) := by decide +kernel
theorem dX5_isSame_341 : decode cX5_isSame 341 = .ok (.iconst 2, 1) := by decide +kernel
theorem dX5_isSame_342 : decode cX5_isSame 342 = .ok (.iaload, 1) := by decide +kernel
theorem dX5_isSame_343 : decode cX5_isSame 343 = .ok (.iastore, 1) := by decide +kernel
theorem dX5_isSame_344 : decode cX5_isSame 344 = .ok (.dup, 1) := by decide +kernel
theorem dX5_isSame_345 : decode cX5_isSame 345 = .ok (.iconst 3, 1) := by decide +kernel
theorem dX5_isSame_346 : decode cX5_isSame 346 = .ok (.aload 9, 2) := by decide +kernel
theorem dX5_isSame_348 : decode cX5_isSame 348 = .ok (.invokestatic 38, 3) := by decide +kernel
theorem dX5_isSame_351 : decode cX5_isSame 351 = .ok (.iastore, 1) := by decide +kernel
theorem dX5_isSame_352 : decode cX5_isSame 352 = .ok (.dup, 1) := by decide +kernel
theorem dX5_isSame_353 : decode cX5_isSame 353 = .ok (.iconst 4, 1) := by decide +kernel
theorem dX5_isSame_354 : decode cX5_isSame 354 = .ok (.aload 9, 2) := by decide +kernel
theorem dX5_isSame_356 : decode cX5_isSame 356 = .ok (.iconst 3, 1) := by decide +kernel
theorem dX5_isSame_357 : decode cX5_isSame 357 = .ok (.iaload, 1) := by decide +kernel
theorem dX5_isSame_358 : decode cX5_isSame 358 = .ok (.iastore, 1) := by decide +kernel
theorem dX5_isSame_359 : decode cX5_isSame 359 = .ok (.dup, 1) := by decide +kernel
theorem dX5_isSame_360 : decode cX5_isSame 360 = .ok (.iconst 5, 1) := by decide +kernel
theorem dX5_isSame_361 : decode cX5_isSame 361 = .ok (.aload 9, 2) := by decide +kernel
theorem dX5_isSame_363 : decode cX5_isSame 363 = .ok (.iconst 4, 1) := by decide +kernel
theorem dX5_isSame_364 : decode cX5_isSame 364 = .ok (.iaload, 1) := by decide +kernel
theorem dX5_isSame_365 : decode cX5_isSame 365 = .ok (.iastore, 1) := by decide +kernel
theorem dX5_isSame_366 : decode cX5_isSame 366 = .ok (.dup, 1) := by decide +kernel
theorem dX5_isSame_367 : decode cX5_isSame 367 = .ok (.bipush 6, 2) := by decide +kernel
theorem dX5_isSame_369 : decode cX5_isSame 369 = .ok (.aload_n 0, 1) := by decide +kernel
theorem dX5_isSame_370 : decode cX5_isSame 370 = .ok (.iload 7, 2) := by decide +kernel
theorem dX5_isSame_372 : decode cX5_isSame 372 = .ok (.iload 8, 2) := by decide +kernel
theorem dX5_isSame_374 : decode cX5_isSame 374 = .ok (.iconst 0, 1) := by decide +kernel
theorem dX5_isSame_375 : decode cX5_isSame 375 = .ok (.invokevirtual 45, 3) := by decide +kernel
theorem dX5_isSame_378 : decode cX5_isSame 378 = .ok (.iastore, 1) := by decide +kernel
theorem dX5_isSame_379 : decode cX5_isSame 379 = .ok (.dup, 1) := by decide +kernel
theorem dX5_isSame_380 : decode cX5_isSame 380 = .ok (.bipush 7, 2) := by decide +kernel
theorem dX5_isSame_382 : decode cX5_isSame 382 = .ok (.aload_n 0, 1) := by decide +kernel
theorem dX5_isSame_383 : decode cX5_isSame 383 = .ok (.iload 7, 2) := by decide +kernel
theorem dX5_isSame_385 : decode cX5_isSame 385 = .ok (.iload 8, 2) := by decide +kernel
theorem dX5_isSame_387 : decode cX5_isSame 387 = .ok (.iconst 1, 1) := by decide +kernel
theorem dX5_isSame_388 : decode cX5_isSame 388 = .ok (.invokevirtual 45, 3) := by decide +kernel
theorem dX5_isSame_391 : decode cX5_isSame 391 = .ok (.iastore, 1) := by decide +kernel
theorem dX5_isSame_392 : decode cX5_isSame 392 = .ok (.astore 10, 2) := by decide +kernel
theorem dX5_isSame_394 : decode cX5_isSame 394 = .ok (.iconst 0, 1) := by decide +kernel
theorem dX5_isSame_395 : decode cX5_isSame 395 = .ok (.istore 11, 2) := by decide +kernel
theorem dX5_isSame_397 : decode cX5_isSame 397 = .ok (.iload 11, 2) := by decide +kernel
theorem dX5_isSame_399 : decode cX5_isSame 399 = .ok (.bipush 8, 2) := by decide +kernel
theorem dX5_isSame_401 : decode cX5_isSame 401 = .ok (.if_icmp .ge 29, 3) := by decide +kernel
theorem dX5_isSame_404 : decode cX5_isSame 404 = .ok (.aload_n 1, 1) := by decide +kernel
theorem dX5_isSame_405 : decode cX5_isSame 405 = .ok (.iload 7, 2) := by decide +kernel
theorem dX5_isSame_407 : decode cX5_isSame 407 = .ok (.iload 8, 2) := by decide +kernel
theorem dX5_isSame_409 : decode cX5_isSame 409 = .ok (.iload 11, 2) := by decide +kernel
theorem dX5_isSame_411 : decode cX5_isSame 411 = .ok (.invokevirtual 63, 3) := by decide +kernel
theorem dX5_isSame_414 : decode cX5_isSame 414 = .ok (.aload 10, 2) := by decide +kernel
theorem dX5_isSame_416 : decode cX5_isSame 416 = .ok (.iload 11, 2) := by decide +kernel
theorem dX5_isSame_418 : decode cX5_isSame 418 = .ok (.iaload, 1) := by decide +kernel
theorem dX5_isSame_419 : decode cX5_isSame 419 = .ok (.if_icmp .eq 5, 3) := by decide +kernel
theorem dX5_isSame_422 : decode cX5_isSame 422 = .ok (.iconst 0, 1) := by decide +kernel
theorem dX5_isSame_423 : decode cX5_isSame 423 = .ok (.ireturn, 1) := by decide +kernel
theorem dX5_isSame_424 : decode cX5_isSame 424 = .ok (.iinc 11 1, 3) := by decide +kernel
theorem dX5_isSame_427 : decode cX5_isSame 427 = .ok (.goto (-30), 3) := by decide +kernel
theorem dX5_isSame_430 : decode cX5_isSame 430 = .ok (.iconst 0, 1) := by decide +kernel
theorem dX5_isSame_431 : decode cX5_isSame 431 = .ok (.istore 11, 2) := by decide +kernel
theorem dX5_isSame_433 : decode cX5_isSame 433 = .ok (.iload 11, 2) := by decide +kernel
theorem dX5_isSame_435 : decode cX5_isSame 435 = .ok (.aload_n 0, 1) := by decide +kernel
theorem dX5_isSame_436 : decode cX5_isSame 436 = .ok (.getfield 15, 3) := by decide +kernel
theorem dX5_isSame_439 : decode cX5_isSame 439 = .ok (.arraylength, 1) := by decide +kernel
theorem dX5_isSame_440 : decode cX5_isSame 440 = .ok (.if_icmp .ge 38, 3) := by decide +kernel
theorem dX5_isSame_443 : decode cX5_isSame 443 = .ok (.aload 6, 2) := by decide +kernel
theorem dX5_isSame_445 : decode cX5_isSame 445 = .ok (.iload 11, 2) := by decide +kernel
theorem dX5_isSame_447 : decode cX5_isSame 447 = .ok (.dup2, 1) := by decide +kernel
theorem dX5_isSame_448 : decode cX5_isSame 448 = .ok (.iaload, 1) := by decide +kernel
theorem dX5_isSame_449 : decode cX5_isSame 449 = .ok (.aload_n 0, 1) := by decide +kernel
theorem dX5_isSame_450 : decode cX5_isSame 450 = .ok (.aload 9, 2) := by decide +kernel
theorem dX5_isSame_452 : decode cX5_isSame 452 = .ok (.aload_n 0, 1) := by decide +kernel
theorem dX5_isSame_453 : decode cX5_isSame 453 = .ok (.getfield 15, 3) := by decide +kernel
theorem dX5_isSame_456 : decode cX5_isSame 456 = .ok (.iload 11, 2) := by decide +kernel
theorem dX5_isSame_458 : decode cX5_isSame 458 = .ok (.aaload, 1) := by decide +kernel
theorem dX5_isSame_459 : decode cX5_isSame 459 = .ok (.invokevirtual 49, 3) := by decide +kernel
theorem dX5_isSame_462 : decode cX5_isSame 462 = .ok (.ifCond .eq 7, 3) := by decide +kernel
theorem dX5_isSame_465 : decode cX5_isSame 465 = .ok (.iconst 1, 1) := by decide +kernel
theorem dX5_isSame_466 : decode cX5_isSame 466 = .ok (.goto 4, 3) := by decide +kernel
theorem dX5_isSame_469 : decode cX5_isSame 469 = .ok (.iconst 0, 1) := by decide +kernel
theorem dX5_isSame_470 : decode cX5_isSame 470 = .ok (.iadd, 1) := by decide +kernel
theorem dX5_isSame_471 : decode cX5_isSame 471 = .ok (.iastore, 1) := by decide +kernel
theorem dX5_isSame_472 : decode cX5_isSame 472 = .ok (.iinc 11 1, 3) := by decide +kernel
theorem dX5_isSame_475 : decode cX5_isSame 475 = .ok (.goto (-42), 3) := by decide +kernel
theorem dX5_isSame_478 : decode cX5_isSame 478 = .ok (.aload 9, 2) := by decide +kernel
theorem dX5_isSame_480 : decode cX5_isSame 480 = .ok (.ifnonnull 6, 3) := by decide +kernel
theorem dX5_isSame_483 : decode cX5_isSame 483 = .ok (.goto 66, 3) := by decide +kernel
theorem dX5_isSame_486 : decode cX5_isSame 486 = .ok (.aload 5, 2) := by decide +kernel
theorem dX5_isSame_488 : decode cX5_isSame 488 = .ok (.aload 9, 2) := by decide +kernel
theorem dX5_isSame_490 : decode cX5_isSame 490 = .ok (.iconst 0, 1) := by decide +kernel
theorem dX5_isSame_491 : decode cX5_isSame 491 = .ok (.iaload, 1) := by decide +kernel
theorem dX5_isSame_492 : decode cX5_isSame 492 = .ok (.aaload, 1) := by decide +kernel
theorem dX5_isSame_493 : decode cX5_isSame 493 = .ok (.astore 11, 2) := by decide +kernel
theorem dX5_isSame_495 : decode cX5_isSame 495 = .ok (.aload 11, 2) := by decide +kernel
theorem dX5_isSame_497 : decode cX5_isSame 497 = .ok (.iconst 2, 1) := by decide +kernel
theorem dX5_isSame_498 : decode cX5_isSame 498 = .ok (.dup2, 1) := by decide +kernel
theorem dX5_isSame_499 : decode cX5_isSame 499 = .ok (.iaload, 1) := by decide +kernel
theorem dX5_isSame_500 : decode cX5_isSame 500 = .ok (.iconst 1, 1) := by decide +kernel
theorem dX5_isSame_501 : decode cX5_isSame 501 = .ok (.iadd, 1) := by decide +kernel
theorem dX5_isSame_502 : decode cX5_isSame 502 = .ok (.iastore, 1) := by decide +kernel
theorem dX5_isSame_503 : decode cX5_isSame 503 = .ok (.aload 9, 2) := by decide +kernel
theorem dX5_isSame_505 : decode cX5_isSame 505 = .ok (.iconst 4, 1) := by decide +kernel
theorem dX5_isSame_506 : decode cX5_isSame 506 = .ok (.iaload, 1) := by decide +kernel
theorem dX5_isSame_507 : decode cX5_isSame 507 = .ok (.ifCond .le 14, 3) := by decide +kernel
theorem dX5_isSame_510 : decode cX5_isSame 510 = .ok (.aload 11, 2) := by decide +kernel
theorem dX5_isSame_512 : decode cX5_isSame 512 = .ok (.iconst 3, 1) := by decide +kernel
theorem dX5_isSame_513 : decode cX5_isSame 513 = .ok (.dup2, 1) := by decide +kernel
theorem dX5_isSame_514 : decode cX5_isSame 514 = .ok (.iaload, 1) := by decide +kernel
theorem dX5_isSame_515 : decode cX5_isSame 515 = .ok (.iconst 1, 1) := by decide +kernel
theorem dX5_isSame_516 : decode cX5_isSame 516 = .ok (.iadd, 1) := by decide +kernel
theorem dX5_isSame_517 : decode cX5_isSame 517 = .ok (.iastore, 1) := by decide +kernel
theorem dX5_isSame_518 : decode cX5_isSame 518 = .ok (.goto 31, 3) := by decide +kernel
theorem dX5_isSame_521 : decode cX5_isSame 521 = .ok (.aload 11, 2) := by decide +kernel
theorem dX5_isSame_523 : decode cX5_isSame 523 = .ok (.iconst 4, 1) := by decide +kernel
theorem dX5_isSame_524 : decode cX5_isSame 524 = .ok (.iaload, 1) := by decide +kernel
theorem dX5_isSame_525 : decode cX5_isSame 525 = .ok (.ifCond .lt 15, 3) := by decide +kernel
theorem dX5_isSame_528 : decode cX5_isSame 528 = .ok (.aload 9, 2) := by decide +kernel
theorem dX5_isSame_530 : decode cX5_isSame 530 = .ok (.invokestatic 38, 3) := by decide +kernel
theorem dX5_isSame_533 : decode cX5_isSame 533 = .ok (.aload 11, 2) := by decide +kernel
theorem dX5_isSame_535 : decode cX5_isSame 535 = .ok (.iconst 4, 1) := by decide +kernel
theorem dX5_isSame_536 : decode cX5_isSame 536 = .ok (.iaload, 1) := by decide +kernel
theorem dX5_isSame_537 : decode cX5_isSame 537 = .ok (.if_icmp .ge 12, 3) := by decide +kernel
theorem dX5_isSame_540 : decode cX5_isSame 540 = .ok (.aload 11, 2) := by decide +kernel
theorem dX5_isSame_542 : decode cX5_isSame 542 = .ok (.iconst 4, 1) := by decide +kernel
theorem dX5_isSame_543 : decode cX5_isSame 543 = .ok (.aload 9, 2) := by decide +kernel
theorem dX5_isSame_545 : decode cX5_isSame 545 = .ok (.invokestatic 38, 3) := by decide +kernel
theorem dX5_isSame_548 : decode cX5_isSame 548 = .ok (.iastore, 1) := by decide +kernel
theorem dX5_isSame_549 : decode cX5_isSame 549 = .ok (.iinc 8 1, 3) := by decide +kernel
theorem dX5_isSame_552 : decode cX5_isSame 552 = .ok (.goto (-298), 3) := by decide +kernel
theorem dX5_isSame_555 : decode cX5_isSame 555 = .ok (.iinc 7 1, 3) := by decide +kernel
theorem dX5_isSame_558 : decode cX5_isSame 558 = .ok (.goto (-313), 3) := by decide +kernel
theorem dX5_isSame_561 : decode cX5_isSame 561 = .ok (.iconst 0, 1) := by decide +kernel
theorem dX5_isSame_562 : decode cX5_isSame 562 = .ok (.istore 7, 2) := by decide +kernel
theorem dX5_isSame_564 : decode cX5_isSame 564 = .ok (.iload 7, 2) := by decide +kernel
theorem dX5_isSame_566 : decode cX5_isSame 566 = .ok (.aload_n 0, 1) := by decide +kernel
theorem dX5_isSame_567 : decode cX5_isSame 567 = .ok (.getfield 9, 3) := by decide +kernel
theorem dX5_isSame_570 : decode cX5_isSame 570 = .ok (.arraylength, 1) := by decide +kernel
theorem dX5_isSame_571 : decode cX5_isSame 571 = .ok (.if_icmp .ge 45, 3) := by decide +kernel
theorem dX5_isSame_574 : decode cX5_isSame 574 = .ok (.iconst 0, 1) := by decide +kernel
theorem dX5_isSame_575 : decode cX5_isSame 575 = .ok (.istore 8, 2) := by decide +kernel
theorem dX5_isSame_577 : decode cX5_isSame 577 = .ok (.iload 8, 2) := by decide +kernel
theorem dX5_isSame_579 : decode cX5_isSame 579 = .ok (.iconst 5, 1) := by decide +kernel
theorem dX5_isSame_580 : decode cX5_isSame 580 = .ok (.if_icmp .ge 30, 3) := by decide +kernel
theorem dX5_isSame_583 : decode cX5_isSame 583 = .ok (.aload_n 1, 1) := by decide +kernel
theorem dX5_isSame_584 : decode cX5_isSame 584 = .ok (.iload 7, 2) := by decide +kernel
theorem dX5_isSame_586 : decode cX5_isSame 586 = .ok (.iload 8, 2) := by decide +kernel
theorem dX5_isSame_588 : decode cX5_isSame 588 = .ok (.invokevirtual 66, 3) := by decide +kernel
theorem dX5_isSame_591 : decode cX5_isSame 591 = .ok (.aload 5, 2) := by decide +kernel
theorem dX5_isSame_593 : decode cX5_isSame 593 = .ok (.iload 7, 2) := by decide +kernel
theorem dX5_isSame_595 : decode cX5_isSame 595 = .ok (.aaload, 1) := by decide +kernel
theorem dX5_isSame_596 : decode cX5_isSame 596 = .ok (.iload 8, 2) := by decide +kernel
theorem dX5_isSame_598 : decode cX5_isSame 598 = .ok (.iaload, 1) := by decide +kernel
theorem dX5_isSame_599 : decode cX5_isSame 599 = .ok (.if_icmp .eq 5, 3) := by decide +kernel
theorem dX5_isSame_602 : decode cX5_isSame 602 = .ok (.iconst 0, 1) := by decide +kernel
theorem dX5_isSame_603 : decode cX5_isSame 603 = .ok (.ireturn, 1) := by decide +kernel
theorem dX5_isSame_604 : decode cX5_isSame 604 = .ok (.iinc 8 1, 3) := by decide +kernel
theorem dX5_isSame_607 : decode cX5_isSame 607 = .ok (.goto (-30), 3) := by decide +kernel
theorem dX5_isSame_610 : decode cX5_isSame 610 = .ok (.iinc 7 1, 3) := by decide +kernel
theorem dX5_isSame_613 : decode cX5_isSame 613 = .ok (.goto (-49), 3) := by decide +kernel
theorem dX5_isSame_616 : decode cX5_isSame 616 = .ok (.iconst 0, 1) := by decide +kernel
theorem dX5_isSame_617 : decode cX5_isSame 617 = .ok (.istore 7, 2) := by decide +kernel
theorem dX5_isSame_619 : decode cX5_isSame 619 = .ok (.iload 7, 2) := by decide +kernel
theorem dX5_isSame_621 : decode cX5_isSame 621 = .ok (.aload_n 0, 1) := by decide +kernel
theorem dX5_isSame_622 : decode cX5_isSame 622 = .ok (.getfield 15, 3) := by decide +kernel
theorem dX5_isSame_625 : decode cX5_isSame 625 = .ok (.arraylength, 1) := by decide +kernel
theorem dX5_isSame_626 : decode cX5_isSame 626 = .ok (.if_icmp .ge 61, 3) := by decide +kernel
theorem dX5_isSame_629 : decode cX5_isSame 629 = .ok (.iconst 0, 1) := by decide +kernel
theorem dX5_isSame_630 : decode cX5_isSame 630 = .ok (.istore 8, 2) := by decide +kernel
theorem dX5_isSame_632 : decode cX5_isSame 632 = .ok (.iload 8, 2) := by decide +kernel
theorem dX5_isSame_634 : decode cX5_isSame 634 = .ok (.iconst 5, 1) := by decide +kernel
theorem dX5_isSame_635 : decode cX5_isSame 635 = .ok (.if_icmp .ge 46, 3) := by decide +kernel
theorem dX5_isSame_638 : decode cX5_isSame 638 = .ok (.aload_n 1, 1) := by decide +kernel
theorem dX5_isSame_639 : decode cX5_isSame 639 = .ok (.iload 7, 2) := by decide +kernel
theorem dX5_isSame_641 : decode cX5_isSame 641 = .ok (.iload 8, 2) := by decide +kernel
theorem dX5_isSame_643 : decode cX5_isSame 643 = .ok (.invokevirtual 70, 3) := by decide +kernel
theorem dX5_isSame_646 : decode cX5_isSame 646 = .ok (.iload 8, 2) := by decide +kernel
theorem dX5_isSame_648 : decode cX5_isSame 648 = .ok (.iconst 4, 1) := by decide +kernel
theorem dX5_isSame_649 : decode cX5_isSame 649 = .ok (.if_icmp .ge 16, 3) := by decide +kernel
theorem dX5_isSame_652 : decode cX5_isSame 652 = .ok (.aload_n 0, 1) := by decide +kernel
theorem dX5_isSame_653 : decode cX5_isSame 653 = .ok (.getfield 15, 3) := by decide +kernel
theorem dX5_isSame_656 : decode cX5_isSame 656 = .ok (.iload 7, 2) := by decide +kernel
theorem dX5_isSame_658 : decode cX5_isSame 658 = .ok (.aaload, 1) := by decide +kernel
theorem dX5_isSame_659 : decode cX5_isSame 659 = .ok (.iload 8, 2) := by decide +kernel
theorem dX5_isSame_661 : decode cX5_isSame 661 = .ok (.iaload, 1) := by decide +kernel
theorem dX5_isSame_662 : decode cX5_isSame 662 = .ok (.goto 8, 3) := by decide +kernel
theorem dX5_isSame_665 : decode cX5_isSame 665 = .ok (.aload 6, 2) := by decide +kernel
theorem dX5_isSame_667 : decode cX5_isSame 667 = .ok (.iload 7, 2) := by decide +kernel
theorem dX5_isSame_669 : decode cX5_isSame 669 = .ok (.iaload, 1) := by decide +kernel
theorem dX5_isSame_670 : decode cX5_isSame 670 = .ok (.if_icmp .eq 5, 3) := by decide +kernel
theorem dX5_isSame_673 : decode cX5_isSame 673 = .ok (.iconst 0, 1) := by decide +kernel
theorem dX5_isSame_674 : decode cX5_isSame 674 = .ok (.ireturn, 1) := by decide +kernel
theorem dX5_isSame_675 : decode cX5_isSame 675 = .ok (.iinc 8 1, 3) := by decide +kernel
theorem dX5_isSame_678 : decode cX5_isSame 678 = .ok (.goto (-46), 3) := by decide +kernel
theorem dX5_isSame_681 : decode cX5_isSame 681 = .ok (.iinc 7 1, 3) := by decide +kernel
theorem dX5_isSame_684 : decode cX5_isSame 684 = .ok (.goto (-65), 3) := by decide +kernel
theorem dX5_isSame_687 : decode cX5_isSame 687 = .ok (.aload_n 1, 1) := by decide +kernel
theorem dX5_isSame_688 : decode cX5_isSame 688 = .ok (.invokevirtual 73, 3) := by decide +kernel
theorem dX5_isSame_691 : decode cX5_isSame 691 = .ok (.aload_n 2, 1) := by decide +kernel
theorem dX5_isSame_692 : decode cX5_isSame 692 = .ok (.iconst 0, 1) := by decide +kernel
theorem dX5_isSame_693 : decode cX5_isSame 693 = .ok (.iaload, 1) := by decide +kernel
theorem dX5_isSame_694 : decode cX5_isSame 694 = .ok (.ifCond .ne 7, 3) := by decide +kernel
theorem dX5_isSame_697 : decode cX5_isSame 697 = .ok (.dconst 0, 1) := by decide +kernel
theorem dX5_isSame_698 : decode cX5_isSame 698 = .ok (.goto 12, 3) := by decide +kernel
theorem dX5_isSame_701 : decode cX5_isSame 701 = .ok (.aload_n 2, 1) := by decide +kernel
theorem dX5_isSame_702 : decode cX5_isSame 702 = .ok (.iconst 2, 1) := by decide +kernel
theorem dX5_isSame_703 : decode cX5_isSame 703 = .ok (.iaload, 1) := by decide +kernel
theorem dX5_isSame_704 : decode cX5_isSame 704 = .ok (.i2d, 1) := by decide +kernel
theorem dX5_isSame_705 : decode cX5_isSame 705 = .ok (.aload_n 2, 1) := by decide +kernel
theorem dX5_isSame_706 : decode cX5_isSame 706 = .ok (.iconst 0, 1) := by decide +kernel
theorem dX5_isSame_707 : decode cX5_isSame 707 = .ok (.iaload, 1) := by decide +kernel
theorem dX5_isSame_708 : decode cX5_isSame 708 = .ok (.i2d, 1) := by decide +kernel
theorem dX5_isSame_709 : decode cX5_isSame 709 = .ok (.ddiv, 1) := by decide +kernel
theorem dX5_isSame_710 : decode cX5_isSame 710 = .ok (.dcmp .l, 1) := by decide +kernel
theorem dX5_isSame_711 : decode cX5_isSame 711 = .ok (.ifCond .ne 7, 3) := by decide +kernel
theorem dX5_isSame_714 : decode cX5_isSame 714 = .ok (.iconst 1, 1) := by decide +kernel
theorem dX5_isSame_715 : decode cX5_isSame 715 = .ok (.goto 4, 3) := by decide +kernel
theorem dX5_isSame_718 : decode cX5_isSame 718 = .ok (.iconst 0, 1) := by decide +kernel
theorem dX5_isSame_719 : decode cX5_isSame 719 = .ok (.ireturn, 1) := by decide +kernel
theorem dJ9_max_7cf53_0 : decode cJ9_max_7cf53 0 = .ok (.iload_n 0, 1) := by decide +kernel
theorem dJ9_max_7cf53_1 : decode cJ9_max_7cf53 1 = .ok (.iload_n 1, 1) := by decide +kernel
theorem dJ9_max_7cf53_2 : decode cJ9_max_7cf53 2 = .ok (.if_icmp .lt 7, 3) := by decide +kernel
theorem dJ9_max_7cf53_5 : decode cJ9_max_7cf53 5 = .ok (.iload_n 0, 1) := by decide +kernel
theorem dJ9_max_7cf53_6 : decode cJ9_max_7cf53 6 = .ok (.goto 4, 3) := by decide +kernel
theorem dJ9_max_7cf53_9 : decode cJ9_max_7cf53 9 = .ok (.iload_n 1, 1) := by decide +kernel
theorem dJ9_max_7cf53_10 : decode cJ9_max_7cf53 10 = .ok (.ireturn, 1) := by decide +kernel
theorem dJ9_min_7cf53_0 : decode cJ9_min_7cf53 0 = .ok (.iload_n 0, 1) := by decide +kernel
theorem dJ9_min_7cf53_1 : decode cJ9_min_7cf53 1 = .ok (.iload_n 1, 1) := by decide +kernel
theorem dJ9_min_7cf53_2 : decode cJ9_min_7cf53 2 = .ok (.if_icmp .gt 7, 3) := by decide +kernel
theorem dJ9_min_7cf53_5 : decode cJ9_min_7cf53 5 = .ok (.iload_n 0, 1) := by decide +kernel
theorem dJ9_min_7cf53_6 : decode cJ9_min_7cf53 6 = .ok (.goto 4, 3) := by decide +kernel
theorem dJ9_min_7cf53_9 : decode cJ9_min_7cf53 9 = .ok (.iload_n 1, 1) := by decide +kernel
theorem dJ9_min_7cf53_10 : decode cJ9_min_7cf53 10 = .ok (.ireturn, 1) := by decide +kernel
theorem dJxa1e45_init_da8c8_0 : decode cJxa1e45_init_da8c8 0 = .ok (.aload_n 0, 1) := by decide +kernel
theorem dJxa1e45_init_da8c8_1 : decode cJxa1e45_init_da8c8 1 = .ok (.invokespecial 1, 3) := by decide +kernel
theorem dJxa1e45_init_da8c8_4 : decode cJxa1e45_init_da8c8 4 = .ok (.return_, 1) := by decide +kernel
theorem dJxc12de_init_da8c8_0 : decode cJxc12de_init_da8c8 0 = .ok (.aload_n 0, 1) := by decide +kernel
theorem dJxc12de_init_da8c8_1 : decode cJxc12de_init_da8c8 1 = .ok (.invokespecial 1, 3) := by decide +kernel
theorem dJxc12de_init_da8c8_4 : decode cJxc12de_init_da8c8 4 = .ok (.aload_n 0, 1) := by decide +kernel
theorem dJxc12de_init_da8c8_5 : decode cJxc12de_init_da8c8 5 = .ok (.iconst 0, 1) := by decide +kernel
theorem dJxc12de_init_da8c8_6 : decode cJxc12de_init_da8c8 6 = .ok (.putfield 7, 3) := by decide +kernel
theorem dJxc12de_init_da8c8_9 : decode cJxc12de_init_da8c8 9 = .ok (.return_, 1) := by decide +kernel
theorem dJx4a65c_init_da8c8_0 : decode cJx4a65c_init_da8c8 0 = .ok (.aload_n 0, 1) := by decide +kernel
theorem dJx4a65c_init_da8c8_1 : decode cJx4a65c_init_da8c8 1 = .ok (.invokespecial 1, 3) := by decide +kernel
theorem dJx4a65c_init_da8c8_4 : decode cJx4a65c_init_da8c8 4 = .ok (.aload_n 0, 1) := by decide +kernel
theorem dJx4a65c_init_da8c8_5 : decode cJx4a65c_init_da8c8 5 = .ok (.getstatic 39, 3) := by decide +kernel
theorem dJx4a65c_init_da8c8_8 : decode cJx4a65c_init_da8c8 8 = .ok (.putfield 9, 3) := by decide +kernel
theorem dJx4a65c_init_da8c8_11 : decode cJx4a65c_init_da8c8 11 = .ok (.return_, 1) := by decide +kernel
theorem dJx4a65c_grow_92f84_0 : decode cJx4a65c_grow_92f84 0 = .ok (.aload_n 0, 1) := by decide +kernel
theorem dJx4a65c_grow_92f84_1 : decode cJx4a65c_grow_92f84 1 = .ok (.getfield 9, 3) := by decide +kernel
theorem dJx4a65c_grow_92f84_4 : decode cJx4a65c_grow_92f84 4 = .ok (.arraylength, 1) := by decide +kernel
theorem dJx4a65c_grow_92f84_5 : decode cJx4a65c_grow_92f84 5 = .ok (.istore_n 2, 1) := by decide +kernel
theorem dJx4a65c_grow_92f84_6 : decode cJx4a65c_grow_92f84 6 = .ok (.iload_n 2, 1) := by decide +kernel
theorem dJx4a65c_grow_92f84_7 : decode cJx4a65c_grow_92f84 7 = .ok (.ifCond .gt 13, 3) := by decide +kernel
theorem dJx4a65c_grow_92f84_10 : decode cJx4a65c_grow_92f84 10 = .ok (.aload_n 0, 1) := by decide +kernel
theorem dJx4a65c_grow_92f84_11 : decode cJx4a65c_grow_92f84 11 = .ok (.getfield 9, 3) := by decide +kernel
theorem dJx4a65c_grow_92f84_14 : decode cJx4a65c_grow_92f84 14 = .ok (.getstatic 39, 3) := by decide +kernel
theorem dJx4a65c_grow_92f84_17 : decode cJx4a65c_grow_92f84 17 = .ok (.if_acmp .eq 28, 3) := by decide +kernel
theorem dJx4a65c_grow_92f84_20 : decode cJx4a65c_grow_92f84 20 = .ok (.iload_n 2, 1) := by decide +kernel
theorem dJx4a65c_grow_92f84_21 : decode cJx4a65c_grow_92f84 21 = .ok (.iload_n 1, 1) := by decide +kernel
theorem dJx4a65c_grow_92f84_22 : decode cJx4a65c_grow_92f84 22 = .ok (.iload_n 2, 1) := by decide +kernel
theorem dJx4a65c_grow_92f84_23 : decode cJx4a65c_grow_92f84 23 = .ok (.isub, 1) := by decide +kernel
theorem dJx4a65c_grow_92f84_24 : decode cJx4a65c_grow_92f84 24 = .ok (.iload_n 2, 1) := by decide +kernel
theorem dJx4a65c_grow_92f84_25 : decode cJx4a65c_grow_92f84 25 = .ok (.iconst 1, 1) := by decide +kernel
theorem dJx4a65c_grow_92f84_26 : decode cJx4a65c_grow_92f84 26 = .ok (.ishr, 1) := by decide +kernel
theorem dJx4a65c_grow_92f84_27 : decode cJx4a65c_grow_92f84 27 = .ok (.invokestatic 73, 3) := by decide +kernel
theorem dJx4a65c_grow_92f84_30 : decode cJx4a65c_grow_92f84 30 = .ok (.istore_n 3, 1) := by decide +kernel
theorem dJx4a65c_grow_92f84_31 : decode cJx4a65c_grow_92f84 31 = .ok (.aload_n 0, 1) := by decide +kernel
theorem dJx4a65c_grow_92f84_32 : decode cJx4a65c_grow_92f84 32 = .ok (.aload_n 0, 1) := by decide +kernel
theorem dJx4a65c_grow_92f84_33 : decode cJx4a65c_grow_92f84 33 = .ok (.getfield 9, 3) := by decide +kernel
theorem dJx4a65c_grow_92f84_36 : decode cJx4a65c_grow_92f84 36 = .ok (.iload_n 3, 1) := by decide +kernel
theorem dJx4a65c_grow_92f84_37 : decode cJx4a65c_grow_92f84 37 = .ok (.invokestatic 66, 3) := by decide +kernel
theorem dJx4a65c_grow_92f84_40 : decode cJx4a65c_grow_92f84 40 = .ok (.dup_x1, 1) := by decide +kernel
theorem dJx4a65c_grow_92f84_41 : decode cJx4a65c_grow_92f84 41 = .ok (.putfield 9, 3) := by decide +kernel
theorem dJx4a65c_grow_92f84_44 : decode cJx4a65c_grow_92f84 44 = .ok (.areturn, 1) := by decide +kernel
theorem dJx4a65c_grow_92f84_45 : decode cJx4a65c_grow_92f84 45 = .ok (.aload_n 0, 1) := by decide +kernel
theorem dJx4a65c_grow_92f84_46 : decode cJx4a65c_grow_92f84 46 = .ok (.bipush 10, 2) := by decide +kernel
theorem dJx4a65c_grow_92f84_48 : decode cJx4a65c_grow_92f84 48 = .ok (.iload_n 1, 1) := by decide +kernel
theorem dJx4a65c_grow_92f84_49 : decode cJx4a65c_grow_92f84 49 = .ok (.invokestatic 79, 3) := by decide +kernel
theorem dJx4a65c_grow_92f84_52 : decode cJx4a65c_grow_92f84 52 = .ok (.anewarray 7, 3) := by decide +kernel
theorem dJx4a65c_grow_92f84_55 : decode cJx4a65c_grow_92f84 55 = .ok (.dup_x1, 1) := by decide +kernel
theorem dJx4a65c_grow_92f84_56 : decode cJx4a65c_grow_92f84 56 = .ok (.putfield 9, 3) := by decide +kernel
theorem dJx4a65c_grow_92f84_59 : decode cJx4a65c_grow_92f84 59 = .ok (.areturn, 1) := by decide +kernel
theorem dJx4a65c_grow_d5877_0 : decode cJx4a65c_grow_d5877 0 = .ok (.aload_n 0, 1) := by decide +kernel
theorem dJx4a65c_grow_d5877_1 : decode cJx4a65c_grow_d5877 1 = .ok (.aload_n 0, 1) := by decide +kernel
theorem dJx4a65c_grow_d5877_2 : decode cJx4a65c_grow_d5877 2 = .ok (.getfield 48, 3) := by decide +kernel
theorem dJx4a65c_grow_d5877_5 : decode cJx4a65c_grow_d5877 5 = .ok (.iconst 1, 1) := by decide +kernel
theorem dJx4a65c_grow_d5877_6 : decode cJx4a65c_grow_d5877 6 = .ok (.iadd, 1) := by decide +kernel
theorem dJx4a65c_grow_d5877_7 : decode cJx4a65c_grow_d5877 7 = .ok (.invokevirtual 69, 3) := by decide +kernel
theorem dJx4a65c_grow_d5877_10 : decode cJx4a65c_grow_d5877 10 = .ok (.areturn, 1) := by decide +kernel
theorem dJx4a65c_size_8abf5_0 : decode cJx4a65c_size_8abf5 0 = .ok (.aload_n 0, 1) := by decide +kernel
theorem dJx4a65c_size_8abf5_1 : decode cJx4a65c_size_8abf5 1 = .ok (.getfield 48, 3) := by decide +kernel
theorem dJx4a65c_size_8abf5_4 : decode cJx4a65c_size_8abf5 4 = .ok (.ireturn, 1) := by decide +kernel
theorem dJx4a65c_elementData_915e3_0 : decode cJx4a65c_elementData_915e3 0 = .ok (.aload_n 0, 1) := by decide +kernel
theorem dJx4a65c_elementData_915e3_1 : decode cJx4a65c_elementData_915e3 1 = .ok (.getfield 9, 3) := by decide +kernel
theorem dJx4a65c_elementData_915e3_4 : decode cJx4a65c_elementData_915e3 4 = .ok (.iload_n 1, 1) := by decide +kernel
theorem dJx4a65c_elementData_915e3_5 : decode cJx4a65c_elementData_915e3 5 = .ok (.aaload, 1) := by decide +kernel
theorem dJx4a65c_elementData_915e3_6 : decode cJx4a65c_elementData_915e3 6 = .ok (.areturn, 1) := by decide +kernel
theorem dJx4a65c_get_915e3_0 : decode cJx4a65c_get_915e3 0 = .ok (.iload_n 1, 1) := by decide +kernel
theorem dJx4a65c_get_915e3_1 : decode cJx4a65c_get_915e3 1 = .ok (.aload_n 0, 1) := by decide +kernel
theorem dJx4a65c_get_915e3_2 : decode cJx4a65c_get_915e3 2 = .ok (.getfield 48, 3) := by decide +kernel
theorem dJx4a65c_get_915e3_5 : decode cJx4a65c_get_915e3 5 = .ok (.invokestatic 118, 3) := by decide +kernel
theorem dJx4a65c_get_915e3_8 : decode cJx4a65c_get_915e3 8 = .ok (.pop, 1) := by decide +kernel
theorem dJx4a65c_get_915e3_9 : decode cJx4a65c_get_915e3 9 = .ok (.aload_n 0, 1) := by decide +kernel
theorem dJx4a65c_get_915e3_10 : decode cJx4a65c_get_915e3 10 = .ok (.iload_n 1, 1) := by decide +kernel
theorem dJx4a65c_get_915e3_11 : decode cJx4a65c_get_915e3 11 = .ok (.invokevirtual 123, 3) := by decide +kernel
theorem dJx4a65c_get_915e3_14 : decode cJx4a65c_get_915e3 14 = .ok (.areturn, 1) := by decide +kernel
theorem dJx4a65c_add_72be8_0 : decode cJx4a65c_add_72be8 0 = .ok (.iload_n 3, 1) := by decide +kernel
theorem dJx4a65c_add_72be8_1 : decode cJx4a65c_add_72be8 1 = .ok (.aload_n 2, 1) := by decide +kernel
theorem dJx4a65c_add_72be8_2 : decode cJx4a65c_add_72be8 2 = .ok (.arraylength, 1) := by decide +kernel
theorem dJx4a65c_add_72be8_3 : decode cJx4a65c_add_72be8 3 = .ok (.if_icmp .ne 8, 3) := by decide +kernel
theorem dJx4a65c_add_72be8_6 : decode cJx4a65c_add_72be8 6 = .ok (.aload_n 0, 1) := by decide +kernel
theorem dJx4a65c_add_72be8_7 : decode cJx4a65c_add_72be8 7 = .ok (.invokevirtual 129, 3) := by decide +kernel
theorem dJx4a65c_add_72be8_10 : decode cJx4a65c_add_72be8 10 = .ok (.astore_n 2, 1) := by decide +kernel
theorem dJx4a65c_add_72be8_11 : decode cJx4a65c_add_72be8 11 = .ok (.aload_n 2, 1) := by decide +kernel
theorem dJx4a65c_add_72be8_12 : decode cJx4a65c_add_72be8 12 = .ok (.iload_n 3, 1) := by decide +kernel
theorem dJx4a65c_add_72be8_13 : decode cJx4a65c_add_72be8 13 = .ok (.aload_n 1, 1) := by decide +kernel
theorem dJx4a65c_add_72be8_14 : decode cJx4a65c_add_72be8 14 = .ok (.aastore, 1) := by decide +kernel
theorem dJx4a65c_add_72be8_15 : decode cJx4a65c_add_72be8 15 = .ok (.aload_n 0, 1) := by decide +kernel
theorem dJx4a65c_add_72be8_16 : decode cJx4a65c_add_72be8 16 = .ok (.iload_n 3, 1) := by decide +kernel
theorem dJx4a65c_add_72be8_17 : decode cJx4a65c_add_72be8 17 = .ok (.iconst 1, 1) := by decide +kernel
theorem dJx4a65c_add_72be8_18 : decode cJx4a65c_add_72be8 18 = .ok (.iadd, 1) := by decide +kernel
theorem dJx4a65c_add_72be8_19 : decode cJx4a65c_add_72be8 19 = .ok (.putfield 48, 3) := by decide +kernel
theorem dJx4a65c_add_72be8_22 : decode cJx4a65c_add_72be8 22 = .ok (.return_, 1) := by decide +kernel
theorem dJx4a65c_add_9ea2d_0 : decode cJx4a65c_add_9ea2d 0 = .ok (.aload_n 0, 1) := by decide +kernel
theorem dJx4a65c_add_9ea2d_1 : decode cJx4a65c_add_9ea2d 1 = .ok (.dup, 1) := by decide +kernel
theorem dJx4a65c_add_9ea2d_2 : decode cJx4a65c_add_9ea2d 2 = .ok (.getfield 63, 3) := by decide +kernel
theorem dJx4a65c_add_9ea2d_5 : decode cJx4a65c_add_9ea2d 5 = .ok (.iconst 1, 1) := by decide +kernel
theorem dJx4a65c_add_9ea2d_6 : decode cJx4a65c_add_9ea2d 6 = .ok (.iadd, 1) := by decide +kernel
theorem dJx4a65c_add_9ea2d_7 : decode cJx4a65c_add_9ea2d 7 = .ok (.putfield 63, 3) := by decide +kernel
theorem dJx4a65c_add_9ea2d_10 : decode cJx4a65c_add_9ea2d 10 = .ok (.aload_n 0, 1) := by decide +kernel
theorem dJx4a65c_add_9ea2d_11 : decode cJx4a65c_add_9ea2d 11 = .ok (.aload_n 1, 1) := by decide +kernel
theorem dJx4a65c_add_9ea2d_12 : decode cJx4a65c_add_9ea2d 12 = .ok (.aload_n 0, 1) := by decide +kernel
theorem dJx4a65c_add_9ea2d_13 : decode cJx4a65c_add_9ea2d 13 = .ok (.getfield 9, 3) := by decide +kernel
theorem dJx4a65c_add_9ea2d_16 : decode cJx4a65c_add_9ea2d 16 = .ok (.aload_n 0, 1) := by decide +kernel
theorem dJx4a65c_add_9ea2d_17 : decode cJx4a65c_add_9ea2d 17 = .ok (.getfield 48, 3) := by decide +kernel
theorem dJx4a65c_add_9ea2d_20 : decode cJx4a65c_add_9ea2d 20 = .ok (.invokevirtual 131, 3) := by decide +kernel
theorem dJx4a65c_add_9ea2d_23 : decode cJx4a65c_add_9ea2d 23 = .ok (.iconst 1, 1) := by decide +kernel
theorem dJx4a65c_add_9ea2d_24 : decode cJx4a65c_add_9ea2d 24 = .ok (.ireturn, 1) := by decide +kernel
theorem dJ7_copyOf_1904c_0 : decode cJ7_copyOf_1904c 0 = .ok (.aload_n 0, 1) := by decide +kernel
theorem dJ7_copyOf_1904c_1 : decode cJ7_copyOf_1904c 1 = .ok (.iload_n 1, 1) := by decide +kernel
theorem dJ7_copyOf_1904c_2 : decode cJ7_copyOf_1904c 2 = .ok (.aload_n 0, 1) := by decide +kernel
theorem dJ7_copyOf_1904c_3 : decode cJ7_copyOf_1904c 3 = .ok (.invokevirtual 86, 3) := by decide +kernel
theorem dJ7_copyOf_1904c_6 : decode cJ7_copyOf_1904c 6 = .ok (.invokestatic 300, 3) := by decide +kernel
theorem dJ7_copyOf_1904c_9 : decode cJ7_copyOf_1904c 9 = .ok (.areturn, 1) := by decide +kernel
theorem dJ7_copyOf_6403c_0 : decode cJ7_copyOf_6403c 0 = .ok (.aload_n 2, 1) := by decide +kernel
theorem dJ7_copyOf_6403c_1 : decode cJ7_copyOf_6403c 1 = .ok (.ldc 110, 2) := by decide +kernel
theorem dJ7_copyOf_6403c_3 : decode cJ7_copyOf_6403c 3 = .ok (.if_acmp .ne 10, 3) := by decide +kernel
theorem dJ7_copyOf_6403c_6 : decode cJ7_copyOf_6403c 6 = .ok (.iload_n 1, 1) := by decide +kernel
theorem dJ7_copyOf_6403c_7 : decode cJ7_copyOf_6403c 7 = .ok (.anewarray 2, 3) := by decide +kernel
theorem dJ7_copyOf_6403c_10 : decode cJ7_copyOf_6403c 10 = .ok (.goto 14, 3) := by decide +kernel
theorem dJ7_copyOf_6403c_13 : decode cJ7_copyOf_6403c 13 = .ok (.aload_n 2, 1) := by decide +kernel
theorem dJ7_copyOf_6403c_14 : decode cJ7_copyOf_6403c 14 = .ok (.invokevirtual 90, 3) := by decide +kernel
theorem dJ7_copyOf_6403c_17 : decode cJ7_copyOf_6403c 17 = .ok (.iload_n 1, 1) := by decide +kernel
theorem dJ7_copyOf_6403c_18 : decode cJ7_copyOf_6403c 18 = .ok (.invokestatic 95, 3) := by decide +kernel
theorem dJ7_copyOf_6403c_21 : decode cJ7_copyOf_6403c 21 = .ok (.checkcast 110, 3) := by decide +kernel
theorem dJ7_copyOf_6403c_24 : decode cJ7_copyOf_6403c 24 = .ok (.astore_n 3, 1) := by decide +kernel
theorem dJ7_copyOf_6403c_25 : decode cJ7_copyOf_6403c 25 = .ok (.aload_n 0, 1) := by decide +kernel
theorem dJ7_copyOf_6403c_26 : decode cJ7_copyOf_6403c 26 = .ok (.iconst 0, 1) := by decide +kernel
theorem dJ7_copyOf_6403c_27 : decode cJ7_copyOf_6403c 27 = .ok (.aload_n 3, 1) := by decide +kernel
theorem dJ7_copyOf_6403c_28 : decode cJ7_copyOf_6403c 28 = .ok (.iconst 0, 1) := by decide +kernel
theorem dJ7_copyOf_6403c_29 : decode cJ7_copyOf_6403c 29 = .ok (.aload_n 0, 1) := by decide +kernel
theorem dJ7_copyOf_6403c_30 : decode cJ7_copyOf_6403c 30 = .ok (.arraylength, 1) := by decide +kernel
theorem dJ7_copyOf_6403c_31 : decode cJ7_copyOf_6403c 31 = .ok (.iload_n 1, 1) := by decide +kernel
theorem dJ7_copyOf_6403c_32 : decode cJ7_copyOf_6403c 32 = .ok (.invokestatic 304, 3) := by decide +kernel
theorem dJ7_copyOf_6403c_35 : decode cJ7_copyOf_6403c 35 = .ok (.invokestatic 150, 3) := by decide +kernel
theorem dJ7_copyOf_6403c_38 : decode cJ7_copyOf_6403c 38 = .ok (.aload_n 3, 1) := by decide +kernel
theorem dJ7_copyOf_6403c_39 : decode cJ7_copyOf_6403c 39 = .ok (.areturn, 1) := by decide +kernel
theorem dJ15_checkIndex_7cf53_0 : decode cJ15_checkIndex_7cf53 0 = .ok (.iload_n 0, 1) := by decide +kernel
theorem dJ15_checkIndex_7cf53_1 : decode cJ15_checkIndex_7cf53 1 = .ok (.iload_n 1, 1) := by decide +kernel
theorem dJ15_checkIndex_7cf53_2 : decode cJ15_checkIndex_7cf53 2 = .ok (.aconst_null, 1) := by decide +kernel
theorem dJ15_checkIndex_7cf53_3 : decode cJ15_checkIndex_7cf53 3 = .ok (.invokestatic 105, 3) := by decide +kernel
theorem dJ15_checkIndex_7cf53_6 : decode cJ15_checkIndex_7cf53 6 = .ok (.ireturn, 1) := by decide +kernel
theorem dJ8_newLength_cabcc_0 : decode cJ8_newLength_cabcc 0 = .ok (.iload_n 0, 1) := by decide +kernel
theorem dJ8_newLength_cabcc_1 : decode cJ8_newLength_cabcc 1 = .ok (.iload_n 1, 1) := by decide +kernel
theorem dJ8_newLength_cabcc_2 : decode cJ8_newLength_cabcc 2 = .ok (.iload_n 2, 1) := by decide +kernel
theorem dJ8_newLength_cabcc_3 : decode cJ8_newLength_cabcc 3 = .ok (.invokestatic 194, 3) := by decide +kernel
theorem dJ8_newLength_cabcc_6 : decode cJ8_newLength_cabcc 6 = .ok (.iadd, 1) := by decide +kernel
theorem dJ8_newLength_cabcc_7 : decode cJ8_newLength_cabcc 7 = .ok (.istore_n 3, 1) := by decide +kernel
theorem dJ8_newLength_cabcc_8 : decode cJ8_newLength_cabcc 8 = .ok (.iconst 0, 1) := by decide +kernel
theorem dJ8_newLength_cabcc_9 : decode cJ8_newLength_cabcc 9 = .ok (.iload_n 3, 1) := by decide +kernel
theorem dJ8_newLength_cabcc_10 : decode cJ8_newLength_cabcc 10 = .ok (.if_icmp .ge 11, 3) := by decide +kernel
theorem dJ8_newLength_cabcc_13 : decode cJ8_newLength_cabcc 13 = .ok (.iload_n 3, 1) := by decide +kernel
theorem dJ8_newLength_cabcc_14 : decode cJ8_newLength_cabcc 14 = .ok (.ldc 200, 2) := by decide +kernel
theorem dJ8_newLength_cabcc_16 : decode cJ8_newLength_cabcc 16 = .ok (.if_icmp .gt 5, 3) := by decide +kernel
theorem dJ8_newLength_cabcc_19 : decode cJ8_newLength_cabcc 19 = .ok (.iload_n 3, 1) := by decide +kernel
theorem dJ8_newLength_cabcc_20 : decode cJ8_newLength_cabcc 20 = .ok (.ireturn, 1) := by decide +kernel
theorem dJ8_newLength_cabcc_21 : decode cJ8_newLength_cabcc 21 = .ok (.iload_n 0, 1) := by decide +kernel
theorem dJ8_newLength_cabcc_22 : decode cJ8_newLength_cabcc 22 = .ok (.iload_n 1, 1) := by decide +kernel
theorem dJ8_newLength_cabcc_23 : decode cJ8_newLength_cabcc 23 = .ok (.invokestatic 201, 3) := by decide +kernel
theorem dJ8_newLength_cabcc_26 : decode cJ8_newLength_cabcc 26 = .ok (.ireturn, 1) := by decide +kernel
theorem dJ8_hugeLength_7cf53_0 : decode cJ8_hugeLength_7cf53 0 = .ok (.iload_n 0, 1) := by decide +kernel
theorem dJ8_hugeLength_7cf53_1 : decode cJ8_hugeLength_7cf53 1 = .ok (.iload_n 1, 1) := by decide +kernel
theorem dJ8_hugeLength_7cf53_2 : decode cJ8_hugeLength_7cf53 2 = .ok (.iadd, 1) := by decide +kernel
theorem dJ8_hugeLength_7cf53_3 : decode cJ8_hugeLength_7cf53 3 = .ok (.istore_n 2, 1) := by decide +kernel
theorem dJ8_hugeLength_7cf53_4 : decode cJ8_hugeLength_7cf53 4 = .ok (.iload_n 2, 1) := by decide +kernel
theorem dJ8_hugeLength_7cf53_5 : decode cJ8_hugeLength_7cf53 5 = .ok (.ifCond .ge 44, 3) := by decide +kernel
theorem dJ8_hugeLength_7cf53_8 : decode cJ8_hugeLength_7cf53 8 = .ok (.new 204, 3) := by decide +kernel
theorem dJ8_hugeLength_7cf53_11 : decode cJ8_hugeLength_7cf53 11 = .ok (.dup, 1) := by decide +kernel
theorem dJ8_hugeLength_7cf53_12 : decode cJ8_hugeLength_7cf53 12 = .ok (.new 89, 3) := by decide +kernel
theorem dJ8_hugeLength_7cf53_15 : decode cJ8_hugeLength_7cf53 15 = .ok (.dup, 1) := by decide +kernel
theorem dJ8_hugeLength_7cf53_16 : decode cJ8_hugeLength_7cf53 16 = .ok (.invokespecial 91, 3) := by decide +kernel
theorem dJ8_hugeLength_7cf53_19 : decode cJ8_hugeLength_7cf53 19 = .ok (.ldc 206, 2) := by decide +kernel
theorem dJ8_hugeLength_7cf53_21 : decode cJ8_hugeLength_7cf53 21 = .ok (.invokevirtual 94, 3) := by decide +kernel
theorem dJ8_hugeLength_7cf53_24 : decode cJ8_hugeLength_7cf53 24 = .ok (.iload_n 0, 1) := by decide +kernel
theorem dJ8_hugeLength_7cf53_25 : decode cJ8_hugeLength_7cf53 25 = .ok (.invokevirtual 98, 3) := by decide +kernel
theorem dJ8_hugeLength_7cf53_28 : decode cJ8_hugeLength_7cf53 28 = .ok (.ldc 208, 2) := by decide +kernel
theorem dJ8_hugeLength_7cf53_30 : decode cJ8_hugeLength_7cf53 30 = .ok (.invokevirtual 94, 3) := by decide +kernel
theorem dJ8_hugeLength_7cf53_33 : decode cJ8_hugeLength_7cf53 33 = .ok (.iload_n 1, 1) := by decide +kernel
theorem dJ8_hugeLength_7cf53_34 : decode cJ8_hugeLength_7cf53 34 = .ok (.invokevirtual 98, 3) := by decide +kernel
theorem dJ8_hugeLength_7cf53_37 : decode cJ8_hugeLength_7cf53 37 = .ok (.ldc 210, 2) := by decide +kernel
theorem dJ8_hugeLength_7cf53_39 : decode cJ8_hugeLength_7cf53 39 = .ok (.invokevirtual 94, 3) := by decide +kernel
theorem dJ8_hugeLength_7cf53_42 : decode cJ8_hugeLength_7cf53 42 = .ok (.invokevirtual 101, 3) := by decide +kernel
theorem dJ8_hugeLength_7cf53_45 : decode cJ8_hugeLength_7cf53 45 = .ok (.invokespecial 212, 3) := by decide +kernel
theorem dJ8_hugeLength_7cf53_48 : decode cJ8_hugeLength_7cf53 48 = .ok (.athrow, 1) := by decide +kernel
theorem dJ8_hugeLength_7cf53_49 : decode cJ8_hugeLength_7cf53 49 = .ok (.iload_n 2, 1) := by decide +kernel
theorem dJ8_hugeLength_7cf53_50 : decode cJ8_hugeLength_7cf53 50 = .ok (.ldc 200, 2) := by decide +kernel
theorem dJ8_hugeLength_7cf53_52 : decode cJ8_hugeLength_7cf53 52 = .ok (.if_icmp .gt 6, 3) := by decide +kernel
theorem dJ8_hugeLength_7cf53_55 : decode cJ8_hugeLength_7cf53 55 = .ok (.ldc 200, 2) := by decide +kernel
theorem dJ8_hugeLength_7cf53_57 : decode cJ8_hugeLength_7cf53 57 = .ok (.ireturn, 1) := by decide +kernel
theorem dJ8_hugeLength_7cf53_58 : decode cJ8_hugeLength_7cf53 58 = .ok (.iload_n 2, 1) := by decide +kernel
theorem dJ8_hugeLength_7cf53_59 : decode cJ8_hugeLength_7cf53 59 = .ok (.ireturn, 1) := by decide +kernel
theorem dJ3_checkIndex_8e157_0 : decode cJ3_checkIndex_8e157 0 = .ok (.iload_n 0, 1) := by decide +kernel
theorem dJ3_checkIndex_8e157_1 : decode cJ3_checkIndex_8e157 1 = .ok (.ifCond .lt 8, 3) := by decide +kernel
theorem dJ3_checkIndex_8e157_4 : decode cJ3_checkIndex_8e157 4 = .ok (.iload_n 0, 1) := by decide +kernel
theorem dJ3_checkIndex_8e157_5 : decode cJ3_checkIndex_8e157 5 = .ok (.iload_n 1, 1) := by decide +kernel
theorem dJ3_checkIndex_8e157_6 : decode cJ3_checkIndex_8e157 6 = .ok (.if_icmp .lt 10, 3) := by decide +kernel
theorem dJ3_checkIndex_8e157_9 : decode cJ3_checkIndex_8e157 9 = .ok (.aload_n 2, 1) := by decide +kernel
theorem dJ3_checkIndex_8e157_10 : decode cJ3_checkIndex_8e157 10 = .ok (.iload_n 0, 1) := by decide +kernel
theorem dJ3_checkIndex_8e157_11 : decode cJ3_checkIndex_8e157 11 = .ok (.iload_n 1, 1) := by decide +kernel
theorem dJ3_checkIndex_8e157_12 : decode cJ3_checkIndex_8e157 12 = .ok (.invokestatic 95, 3) := by decide +kernel
theorem dJ3_checkIndex_8e157_15 : decode cJ3_checkIndex_8e157 15 = .ok (.athrow, 1) := by decide +kernel
theorem dJ3_checkIndex_8e157_16 : decode cJ3_checkIndex_8e157 16 = .ok (.iload_n 0, 1) := by decide +kernel
theorem dJ3_checkIndex_8e157_17 : decode cJ3_checkIndex_8e157 17 = .ok (.ireturn, 1) := by decide +kernel
theorem dL_below_0 : decode cL_below 0 = .ok (.iload_n 0, 1) := by decide +kernel
theorem dL_below_1 : decode cL_below 1 = .ok (.ldc 7, 2) := by decide +kernel
theorem dL_below_3 : decode cL_below 3 = .ok (.iand, 1) := by decide +kernel
theorem dL_below_4 : decode cL_below 4 = .ok (.iload_n 1, 1) := by decide +kernel
theorem dL_below_5 : decode cL_below 5 = .ok (.irem, 1) := by decide +kernel
theorem dL_below_6 : decode cL_below 6 = .ok (.ireturn, 1) := by decide +kernel
theorem dL_cell_0 : decode cL_cell 0 = .ok (.iload_n 1, 1) := by decide +kernel
theorem dL_cell_1 : decode cL_cell 1 = .ok (.aload_n 0, 1) := by decide +kernel
theorem dL_cell_2 : decode cL_cell 2 = .ok (.arraylength, 1) := by decide +kernel
theorem dL_cell_3 : decode cL_cell 3 = .ok (.if_icmp .ge 9, 3) := by decide +kernel
theorem dL_cell_6 : decode cL_cell 6 = .ok (.aload_n 0, 1) := by decide +kernel
theorem dL_cell_7 : decode cL_cell 7 = .ok (.iload_n 1, 1) := by decide +kernel
theorem dL_cell_8 : decode cL_cell 8 = .ok (.iaload, 1) := by decide +kernel
theorem dL_cell_9 : decode cL_cell 9 = .ok (.goto 9, 3) := by decide +kernel
theorem dL_cell_12 : decode cL_cell 12 = .ok (.ldc 8, 2) := by decide +kernel
theorem dL_cell_14 : decode cL_cell 14 = .ok (.iload_n 1, 1) := by decide +kernel
theorem dL_cell_15 : decode cL_cell 15 = .ok (.iconst 3, 1) := by decide +kernel
theorem dL_cell_16 : decode cL_cell 16 = .ok (.iadd, 1) := by decide +kernel
theorem dL_cell_17 : decode cL_cell 17 = .ok (.imul, 1) := by decide +kernel
theorem dL_cell_18 : decode cL_cell 18 = .ok (.ireturn, 1) := by decide +kernel
theorem dL_act_0 : decode cL_act 0 = .ok (.iload_n 2, 1) := by decide +kernel
theorem dL_act_1 : decode cL_act 1 = .ok (.iconst 4, 1) := by decide +kernel
theorem dL_act_2 : decode cL_act 2 = .ok (.ishr, 1) := by decide +kernel
theorem dL_act_3 : decode cL_act 3 = .ok (.iconst 5, 1) := by decide +kernel
theorem dL_act_4 : decode cL_act 4 = .ok (.invokestatic 9, 3) := by decide +kernel
theorem dL_act_7 : decode cL_act 7 = .ok (.istore_n 3, 1) := by decide +kernel
theorem dL_act_8 : decode cL_act 8 = .ok (.iload_n 2, 1) := by decide +kernel
theorem dL_act_9 : decode cL_act 9 = .ok (.bipush 6, 2) := by decide +kernel
theorem dL_act_11 : decode cL_act 11 = .ok (.ishr, 1) := by decide +kernel
theorem dL_act_12 : decode cL_act 12 = .ok (.bipush 8, 2) := by decide +kernel
theorem dL_act_14 : decode cL_act 14 = .ok (.invokestatic 9, 3) := by decide +kernel
theorem dL_act_17 : decode cL_act 17 = .ok (.istore 4, 2) := by decide +kernel
theorem dL_act_19 : decode cL_act 19 = .ok (.aload_n 1, 1) := by decide +kernel
theorem dL_act_20 : decode cL_act 20 = .ok (.getfield 15, 3) := by decide +kernel
theorem dL_act_23 : decode cL_act 23 = .ok (.iload_n 3, 1) := by decide +kernel
theorem dL_act_24 : decode cL_act 24 = .ok (.aaload, 1) := by decide +kernel
theorem dL_act_25 : decode cL_act 25 = .ok (.iload 4, 2) := by decide +kernel
theorem dL_act_27 : decode cL_act 27 = .ok (.aaload, 1) := by decide +kernel
theorem dL_act_28 : decode cL_act 28 = .ok (.astore 5, 2) := by decide +kernel
theorem dL_act_30 : decode cL_act 30 = .ok (.iload_n 2, 1) := by decide +kernel
theorem dL_act_31 : decode cL_act 31 = .ok (.bipush 14, 2) := by decide +kernel
theorem dL_act_33 : decode cL_act 33 = .ok (.invokestatic 9, 3) := by decide +kernel
theorem dL_act_36 : decode cL_act 36 = .ok (.tableswitch 631 0 9 #[56, 56, 56, 56, 196, 252, 377, 452, 488, 614], 56) := by decide +kernel
theorem dL_act_92 : decode cL_act 92 = .ok (.iload_n 2, 1) := by decide +kernel
theorem dL_act_93 : decode cL_act 93 = .ok (.bipush 8, 2) := by decide +kernel
theorem dL_act_95 : decode cL_act 95 = .ok (.ishr, 1) := by decide +kernel
theorem dL_act_96 : decode cL_act 96 = .ok (.aload_n 1, 1) := by decide +kernel
theorem dL_act_97 : decode cL_act 97 = .ok (.getfield 21, 3) := by decide +kernel
theorem dL_act_100 : decode cL_act 100 = .ok (.arraylength, 1) := by decide +kernel
theorem dL_act_101 : decode cL_act 101 = .ok (.invokestatic 9, 3) := by decide +kernel
theorem dL_act_104 : decode cL_act 104 = .ok (.istore 8, 2) := by decide +kernel
theorem dL_act_106 : decode cL_act 106 = .ok (.iload_n 2, 1) := by decide +kernel
theorem dL_act_107 : decode cL_act 107 = .ok (.bipush 7, 2) := by decide +kernel
theorem dL_act_109 : decode cL_act 109 = .ok (.ishr, 1) := by decide +kernel
theorem dL_act_110 : decode cL_act 110 = .ok (.iconst 3, 1) := by decide +kernel
theorem dL_act_111 : decode cL_act 111 = .ok (.invokestatic 9, 3) := by decide +kernel
theorem dL_act_114 : decode cL_act 114 = .ok (.ifCond .ne 14, 3) := by decide +kernel
theorem dL_act_117 : decode cL_act 117 = .ok (.iload_n 2, 1) := by decide +kernel
theorem dL_act_118 : decode cL_act 118 = .ok (.iconst 5, 1) := by decide +kernel
theorem dL_act_119 : decode cL_act 119 = .ok (.ishr, 1) := by decide +kernel
theorem dL_act_120 : decode cL_act 120 = .ok (.bipush 101, 2) := by decide +kernel
theorem dL_act_122 : decode cL_act 122 = .ok (.invokestatic 9, 3) := by decide +kernel
theorem dL_act_125 : decode cL_act 125 = .ok (.goto 14, 3) := by decide +kernel
theorem dL_act_128 : decode cL_act 128 = .ok (.bipush 60, 2) := by decide +kernel
theorem dL_act_130 : decode cL_act 130 = .ok (.iload_n 2, 1) := by decide +kernel
theorem dL_act_131 : decode cL_act 131 = .ok (.iconst 5, 1) := by decide +kernel
theorem dL_act_132 : decode cL_act 132 = .ok (.ishr, 1) := by decide +kernel
theorem dL_act_133 : decode cL_act 133 = .ok (.bipush 41, 2) := by decide +kernel
theorem dL_act_135 : decode cL_act 135 = .ok (.invokestatic 9, 3) := by decide +kernel
theorem dL_act_138 : decode cL_act 138 = .ok (.iadd, 1) := by decide +kernel
theorem dL_act_139 : decode cL_act 139 = .ok (.istore 9, 2) := by decide +kernel
theorem dL_act_141 : decode cL_act 141 = .ok (.aload 5, 2) := by decide +kernel
theorem dL_act_143 : decode cL_act 143 = .ok (.ifnonnull 38, 3) := by decide +kernel
theorem dL_act_146 : decode cL_act 146 = .ok (.aload_n 1, 1) := by decide +kernel
theorem dL_act_147 : decode cL_act 147 = .ok (.getfield 15, 3) := by decide +kernel
theorem dL_act_150 : decode cL_act 150 = .ok (.iload_n 3, 1) := by decide +kernel
theorem dL_act_151 : decode cL_act 151 = .ok (.aaload, 1) := by decide +kernel
theorem dL_act_152 : decode cL_act 152 = .ok (.iload 4, 2) := by decide +kernel
theorem dL_act_154 : decode cL_act 154 = .ok (.iconst 5, 1) := by decide +kernel
theorem dL_act_155 : decode cL_act 155 = .ok (.newarray .int, 2) := by decide +kernel
theorem dL_act_157 : decode cL_act 157 = .ok (.dup, 1) := by decide +kernel
theorem dL_act_158 : decode cL_act 158 = .ok (.iconst 0, 1) := by decide +kernel
theorem dL_act_159 : decode cL_act 159 = .ok (.iload 8, 2) := by decide +kernel
theorem dL_act_161 : decode cL_act 161 = .ok (.iastore, 1) := by decide +kernel
theorem dL_act_162 : decode cL_act 162 = .ok (.dup, 1) := by decide +kernel
theorem dL_act_163 : decode cL_act 163 = .ok (.iconst 1, 1) := by decide +kernel
theorem dL_act_164 : decode cL_act 164 = .ok (.iload 9, 2) := by decide +kernel
theorem dL_act_166 : decode cL_act 166 = .ok (.iastore, 1) := by decide +kernel
theorem dL_act_167 : decode cL_act 167 = .ok (.dup, 1) := by decide +kernel
theorem dL_act_168 : decode cL_act 168 = .ok (.iconst 2, 1) := by decide +kernel
theorem dL_act_169 : decode cL_act 169 = .ok (.iload 9, 2) := by decide +kernel
theorem dL_act_171 : decode cL_act 171 = .ok (.iastore, 1) := by decide +kernel
theorem dL_act_172 : decode cL_act 172 = .ok (.dup, 1) := by decide +kernel
theorem dL_act_173 : decode cL_act 173 = .ok (.iconst 3, 1) := by decide +kernel
theorem dL_act_174 : decode cL_act 174 = .ok (.iconst 0, 1) := by decide +kernel
theorem dL_act_175 : decode cL_act 175 = .ok (.iastore, 1) := by decide +kernel
theorem dL_act_176 : decode cL_act 176 = .ok (.dup, 1) := by decide +kernel
theorem dL_act_177 : decode cL_act 177 = .ok (.iconst 4, 1) := by decide +kernel
theorem dL_act_178 : decode cL_act 178 = .ok (.iconst 0, 1) := by decide +kernel
theorem dL_act_179 : decode cL_act 179 = .ok (.iastore, 1) := by decide +kernel
theorem dL_act_180 : decode cL_act 180 = .ok (.aastore, 1) := by decide +kernel
theorem dL_act_181 : decode cL_act 181 = .ok (.aload 5, 2) := by decide +kernel
theorem dL_act_183 : decode cL_act 183 = .ok (.ifnonnull 12, 3) := by decide +kernel
theorem dL_act_186 : decode cL_act 186 = .ok (.aload_n 1, 1) := by decide +kernel
theorem dL_act_187 : decode cL_act 187 = .ok (.invokevirtual 25, 3) := by decide +kernel
theorem dL_act_190 : decode cL_act 190 = .ok (.iconst 0, 1) := by decide +kernel
theorem dL_act_191 : decode cL_act 191 = .ok (.iaload, 1) := by decide +kernel
theorem dL_act_192 : decode cL_act 192 = .ok (.goto 4, 3) := by decide +kernel
theorem dL_act_195 : decode cL_act 195 = .ok (.iconst (-1), 1) := by decide +kernel
theorem dL_act_196 : decode cL_act 196 = .ok (.istore 7, 2) := by decide +kernel
theorem dL_act_198 : decode cL_act 198 = .ok (.aload_n 0, 1) := by decide +kernel
theorem dL_act_199 : decode cL_act 199 = .ok (.iload_n 3, 1) := by decide +kernel
theorem dL_act_200 : decode cL_act 200 = .ok (.iload 4, 2) := by decide +kernel
theorem dL_act_202 : decode cL_act 202 = .ok (.iload 8, 2) := by decide +kernel
theorem dL_act_204 : decode cL_act 204 = .ok (.iload 9, 2) := by decide +kernel
theorem dL_act_206 : decode cL_act 206 = .ok (.invokevirtual 29, 3) := by decide +kernel
theorem dL_act_209 : decode cL_act 209 = .ok (.istore 6, 2) := by decide +kernel
theorem dL_act_211 : decode cL_act 211 = .ok (.goto 8, 3) := by decide +kernel
theorem dL_act_214 : decode cL_act 214 = .ok (.astore 10, 2) := by decide +kernel
theorem dL_act_216 : decode cL_act 216 = .ok (.iconst (-1), 1) := by decide +kernel
theorem dL_act_217 : decode cL_act 217 = .ok (.istore 6, 2) := by decide +kernel
theorem dL_act_219 : decode cL_act 219 = .ok (.iload 6, 2) := by decide +kernel
theorem dL_act_221 : decode cL_act 221 = .ok (.iload 7, 2) := by decide +kernel
theorem dL_act_223 : decode cL_act 223 = .ok (.if_icmp .ne 7, 3) := by decide +kernel
theorem dL_act_226 : decode cL_act 226 = .ok (.iconst 1, 1) := by decide +kernel
theorem dL_act_227 : decode cL_act 227 = .ok (.goto 4, 3) := by decide +kernel
theorem dL_act_230 : decode cL_act 230 = .ok (.iconst 0, 1) := by decide +kernel
theorem dL_act_231 : decode cL_act 231 = .ok (.ireturn, 1) := by decide +kernel
theorem dL_act_232 : decode cL_act 232 = .ok (.aload 5, 2) := by decide +kernel
theorem dL_act_234 : decode cL_act 234 = .ok (.ifnonnull 7, 3) := by decide +kernel
theorem dL_act_237 : decode cL_act 237 = .ok (.iconst (-1), 1) := by decide +kernel
theorem dL_act_238 : decode cL_act 238 = .ok (.goto 8, 3) := by decide +kernel
theorem dL_act_241 : decode cL_act 241 = .ok (.aload 5, 2) := by decide +kernel
theorem dL_act_243 : decode cL_act 243 = .ok (.invokestatic 37, 3) := by decide +kernel
theorem dL_act_246 : decode cL_act 246 = .ok (.istore 7, 2) := by decide +kernel
theorem dL_act_248 : decode cL_act 248 = .ok (.aload_n 1, 1) := by decide +kernel
theorem dL_act_249 : decode cL_act 249 = .ok (.getfield 15, 3) := by decide +kernel
theorem dL_act_252 : decode cL_act 252 = .ok (.iload_n 3, 1) := by decide +kernel
theorem dL_act_253 : decode cL_act 253 = .ok (.aaload, 1) := by decide +kernel
theorem dL_act_254 : decode cL_act 254 = .ok (.iload 4, 2) := by decide +kernel
theorem dL_act_256 : decode cL_act 256 = .ok (.aconst_null, 1) := by decide +kernel
theorem dL_act_257 : decode cL_act 257 = .ok (.aastore, 1) := by decide +kernel
theorem dL_act_258 : decode cL_act 258 = .ok (.aload_n 0, 1) := by decide +kernel
theorem dL_act_259 : decode cL_act 259 = .ok (.iload_n 3, 1) := by decide +kernel
theorem dL_act_260 : decode cL_act 260 = .ok (.iload 4, 2) := by decide +kernel
theorem dL_act_262 : decode cL_act 262 = .ok (.invokevirtual 41, 3) := by decide +kernel
theorem dL_act_265 : decode cL_act 265 = .ok (.istore 6, 2) := by decide +kernel
theorem dL_act_267 : decode cL_act 267 = .ok (.goto 8, 3) := by decide +kernel
theorem dL_act_270 : decode cL_act 270 = .ok (.astore 8, 2) := by decide +kernel
theorem dL_act_272 : decode cL_act 272 = .ok (.iconst (-1), 1) := by decide +kernel
theorem dL_act_273 : decode cL_act 273 = .ok (.istore 6, 2) := by decide +kernel
theorem dL_act_275 : decode cL_act 275 = .ok (.iload 6, 2) := by decide +kernel
theorem dL_act_277 : decode cL_act 277 = .ok (.iload 7, 2) := by decide +kernel
theorem dL_act_279 : decode cL_act 279 = .ok (.if_icmp .ne 7, 3) := by decide +kernel
theorem dL_act_282 : decode cL_act 282 = .ok (.iconst 1, 1) := by decide +kernel
theorem dL_act_283 : decode cL_act 283 = .ok (.goto 4, 3) := by decide +kernel
theorem dL_act_286 : decode cL_act 286 = .ok (.iconst 0, 1) := by decide +kernel
theorem dL_act_287 : decode cL_act 287 = .ok (.ireturn, 1) := by decide +kernel
theorem dL_act_288 : decode cL_act 288 = .ok (.iload_n 2, 1) := by decide +kernel
theorem dL_act_289 : decode cL_act 289 = .ok (.iconst 5, 1) := by decide +kernel
theorem dL_act_290 : decode cL_act 290 = .ok (.ishr, 1) := by decide +kernel
theorem dL_act_291 : decode cL_act 291 = .ok (.iconst 5, 1) := by decide +kernel
theorem dL_act_292 : decode cL_act 292 = .ok (.invokestatic 9, 3) := by decide +kernel
theorem dL_act_295 : decode cL_act 295 = .ok (.istore 8, 2) := by decide +kernel
theorem dL_act_297 : decode cL_act 297 = .ok (.iload_n 2, 1) := by decide +kernel
theorem dL_act_298 : decode cL_act 298 = .ok (.iconst 3, 1) := by decide +kernel
theorem dL_act_299 : decode cL_act 299 = .ok (.ishr, 1) := by decide +kernel
theorem dL_act_300 : decode cL_act 300 = .ok (.bipush 8, 2) := by decide +kernel
theorem dL_act_302 : decode cL_act 302 = .ok (.invokestatic 9, 3) := by decide +kernel
theorem dL_act_305 : decode cL_act 305 = .ok (.istore 9, 2) := by decide +kernel
theorem dL_act_307 : decode cL_act 307 = .ok (.aload 5, 2) := by decide +kernel
theorem dL_act_309 : decode cL_act 309 = .ok (.ifnull 20, 3) := by decide +kernel
theorem dL_act_312 : decode cL_act 312 = .ok (.aload_n 1, 1) := by decide +kernel
theorem dL_act_313 : decode cL_act 313 = .ok (.getfield 15, 3) := by decide +kernel
theorem dL_act_316 : decode cL_act 316 = .ok (.iload 8, 2) := by decide +kernel
theorem dL_act_318 : decode cL_act 318 = .ok (.aaload, 1) := by decide +kernel
theorem dL_act_319 : decode cL_act 319 = .ok (.iload 9, 2) := by decide +kernel
theorem dL_act_321 : decode cL_act 321 = .ok (.aaload, 1) := by decide +kernel
theorem dL_act_322 : decode cL_act 322 = .ok (.ifnonnull 7, 3) := by decide +kernel
theorem dL_act_325 : decode cL_act 325 = .ok (.iconst 1, 1) := by decide +kernel
theorem dL_act_326 : decode cL_act 326 = .ok (.goto 4, 3) := by decide +kernel
theorem dL_act_329 : decode cL_act 329 = .ok (.iconst 0, 1) := by decide +kernel
theorem dL_act_330 : decode cL_act 330 = .ok (.istore 10, 2) := by decide +kernel
theorem dL_act_332 : decode cL_act 332 = .ok (.iload 10, 2) := by decide +kernel
theorem dL_act_334 : decode cL_act 334 = .ok (.ifCond .eq 25, 3) := by decide +kernel
theorem dL_act_337 : decode cL_act 337 = .ok (.aload_n 1, 1) := by decide +kernel
theorem dL_act_338 : decode cL_act 338 = .ok (.getfield 15, 3) := by decide +kernel
theorem dL_act_341 : decode cL_act 341 = .ok (.iload 8, 2) := by decide +kernel
theorem dL_act_343 : decode cL_act 343 = .ok (.aaload, 1) := by decide +kernel
theorem dL_act_344 : decode cL_act 344 = .ok (.iload 9, 2) := by decide +kernel
theorem dL_act_346 : decode cL_act 346 = .ok (.aload 5, 2) := by decide +kernel
theorem dL_act_348 : decode cL_act 348 = .ok (.aastore, 1) := by decide +kernel
theorem dL_act_349 : decode cL_act 349 = .ok (.aload_n 1, 1) := by decide +kernel
theorem dL_act_350 : decode cL_act 350 = .ok (.getfield 15, 3) := by decide +kernel
theorem dL_act_353 : decode cL_act 353 = .ok (.iload_n 3, 1) := by decide +kernel
theorem dL_act_354 : decode cL_act 354 = .ok (.aaload, 1) := by decide +kernel
theorem dL_act_355 : decode cL_act 355 = .ok (.iload 4, 2) := by decide +kernel
theorem dL_act_357 : decode cL_act 357 = .ok (.aconst_null, 1) := by decide +kernel
theorem dL_act_358 : decode cL_act 358 = .ok (.aastore, 1) := by decide +kernel
theorem dL_act_359 : decode cL_act 359 = .ok (.iload 10, 2) := by decide +kernel
theorem dL_act_361 : decode cL_act 361 = .ok (.ifCond .eq 15, 3) := by decide +kernel
theorem dL_act_364 : decode cL_act 364 = .ok (.aload_n 1, 1) := by decide +kernel
theorem dL_act_365 : decode cL_act 365 = .ok (.iload 8, 2) := by decide +kernel
theorem dL_act_367 : decode cL_act 367 = .ok (.iload 9, 2) := by decide +kernel
theorem dL_act_369 : decode cL_act 369 = .ok (.iconst 0, 1) := by decide +kernel
theorem dL_act_370 : decode cL_act 370 = .ok (.invokevirtual 44, 3) := by decide +kernel
theorem dL_act_373 : decode cL_act 373 = .ok (.goto 4, 3) := by decide +kernel
theorem dL_act_376 : decode cL_act 376 = .ok (.iconst (-1), 1) := by decide +kernel
theorem dL_act_377 : decode cL_act 377 = .ok (.istore 7, 2) := by decide +kernel
theorem dL_act_379 : decode cL_act 379 = .ok (.aload_n 0, 1) := by decide +kernel
theorem dL_act_380 : decode cL_act 380 = .ok (.iload_n 3, 1) := by decide +kernel
theorem dL_act_381 : decode cL_act 381 = .ok (.iload 4, 2) := by decide +kernel
theorem dL_act_383 : decode cL_act 383 = .ok (.iload 8, 2) := by decide +kernel
theorem dL_act_385 : decode cL_act 385 = .ok (.iload 9, 2) := by decide +kernel
theorem dL_act_387 : decode cL_act 387 = .ok (.invokevirtual 48, 3) := by decide +kernel
theorem dL_act_390 : decode cL_act 390 = .ok (.istore 6, 2) := by decide +kernel
theorem dL_act_392 : decode cL_act 392 = .ok (.goto 8, 3) := by decide +kernel
theorem dL_act_395 : decode cL_act 395 = .ok (.astore 11, 2) := by decide +kernel
theorem dL_act_397 : decode cL_act 397 = .ok (.iconst (-1), 1) := by decide +kernel
theorem dL_act_398 : decode cL_act 398 = .ok (.istore 6, 2) := by decide +kernel
theorem dL_act_400 : decode cL_act 400 = .ok (.iload 6, 2) := by decide +kernel
theorem dL_act_402 : decode cL_act 402 = .ok (.iload 7, 2) := by decide +kernel
theorem dL_act_404 : decode cL_act 404 = .ok (.if_icmp .ne 7, 3) := by decide +kernel
theorem dL_act_407 : decode cL_act 407 = .ok (.iconst 1, 1) := by decide +kernel
theorem dL_act_408 : decode cL_act 408 = .ok (.goto 4, 3) := by decide +kernel
theorem dL_act_411 : decode cL_act 411 = .ok (.iconst 0, 1) := by decide +kernel
theorem dL_act_412 : decode cL_act 412 = .ok (.ireturn, 1) := by decide +kernel
theorem dL_act_413 : decode cL_act 413 = .ok (.aload_n 1, 1) := by decide +kernel
theorem dL_act_414 : decode cL_act 414 = .ok (.iload_n 3, 1) := by decide +kernel
theorem dL_act_415 : decode cL_act 415 = .ok (.invokevirtual 51, 3) := by decide +kernel
theorem dL_act_418 : decode cL_act 418 = .ok (.iconst 0, 1) := by decide +kernel
theorem dL_act_419 : decode cL_act 419 = .ok (.istore 7, 2) := by decide +kernel
theorem dL_act_421 : decode cL_act 421 = .ok (.aload_n 1, 1) := by decide +kernel
theorem dL_act_422 : decode cL_act 422 = .ok (.getfield 15, 3) := by decide +kernel
theorem dL_act_425 : decode cL_act 425 = .ok (.iload_n 3, 1) := by decide +kernel
theorem dL_act_426 : decode cL_act 426 = .ok (.aaload, 1) := by decide +kernel
theorem dL_act_427 : decode cL_act 427 = .ok (.astore 8, 2) := by decide +kernel
theorem dL_act_429 : decode cL_act 429 = .ok (.aload 8, 2) := by decide +kernel
theorem dL_act_431 : decode cL_act 431 = .ok (.arraylength, 1) := by decide +kernel
theorem dL_act_432 : decode cL_act 432 = .ok (.istore 9, 2) := by decide +kernel
theorem dL_act_434 : decode cL_act 434 = .ok (.iconst 0, 1) := by decide +kernel
theorem dL_act_435 : decode cL_act 435 = .ok (.istore 10, 2) := by decide +kernel
theorem dL_act_437 : decode cL_act 437 = .ok (.iload 10, 2) := by decide +kernel
theorem dL_act_439 : decode cL_act 439 = .ok (.iload 9, 2) := by decide +kernel
theorem dL_act_441 : decode cL_act 441 = .ok (.if_icmp .ge 31, 3) := by decide +kernel
theorem dL_act_444 : decode cL_act 444 = .ok (.aload 8, 2) := by decide +kernel
theorem dL_act_446 : decode cL_act 446 = .ok (.iload 10, 2) := by decide +kernel
theorem dL_act_448 : decode cL_act 448 = .ok (.aaload, 1) := by decide +kernel
theorem dL_act_449 : decode cL_act 449 = .ok (.astore 11, 2) := by decide +kernel
theorem dL_act_451 : decode cL_act 451 = .ok (.iload 7, 2) := by decide +kernel
theorem dL_act_453 : decode cL_act 453 = .ok (.aload 11, 2) := by decide +kernel
theorem dL_act_455 : decode cL_act 455 = .ok (.ifnonnull 7, 3) := by decide +kernel
theorem dL_act_458 : decode cL_act 458 = .ok (.iconst 0, 1) := by decide +kernel
theorem dL_act_459 : decode cL_act 459 = .ok (.goto 4, 3) := by decide +kernel
theorem dL_act_462 : decode cL_act 462 = .ok (.iconst 1, 1) := by decide +kernel
theorem dL_act_463 : decode cL_act 463 = .ok (.iadd, 1) := by decide +kernel
theorem dL_act_464 : decode cL_act 464 = .ok (.istore 7, 2) := by decide +kernel
theorem dL_act_466 : decode cL_act 466 = .ok (.iinc 10 1, 3) := by decide +kernel
theorem dL_act_469 : decode cL_act 469 = .ok (.goto (-32), 3) := by decide +kernel
theorem dL_act_472 : decode cL_act 472 = .ok (.aload_n 0, 1) := by decide +kernel
theorem dL_act_473 : decode cL_act 473 = .ok (.iload_n 3, 1) := by decide +kernel
theorem dL_act_474 : decode cL_act 474 = .ok (.invokevirtual 55, 3) := by decide +kernel
theorem dL_act_477 : decode cL_act 477 = .ok (.iload 7, 2) := by decide +kernel
theorem dL_act_479 : decode cL_act 479 = .ok (.if_icmp .ne 7, 3) := by decide +kernel
theorem dL_act_482 : decode cL_act 482 = .ok (.iconst 1, 1) := by decide +kernel
theorem dL_act_483 : decode cL_act 483 = .ok (.goto 4, 3) := by decide +kernel
theorem dL_act_486 : decode cL_act 486 = .ok (.iconst 0, 1) := by decide +kernel
theorem dL_act_487 : decode cL_act 487 = .ok (.ireturn, 1) := by decide +kernel
theorem dL_act_488 : decode cL_act 488 = .ok (.aload_n 1, 1) := by decide +kernel
theorem dL_act_489 : decode cL_act 489 = .ok (.getfield 58, 3) := by decide +kernel
theorem dL_act_492 : decode cL_act 492 = .ok (.istore 7, 2) := by decide +kernel
theorem dL_act_494 : decode cL_act 494 = .ok (.aload_n 1, 1) := by decide +kernel
theorem dL_act_495 : decode cL_act 495 = .ok (.iload_n 2, 1) := by decide +kernel
theorem dL_act_496 : decode cL_act 496 = .ok (.iconst 5, 1) := by decide +kernel
theorem dL_act_497 : decode cL_act 497 = .ok (.ishr, 1) := by decide +kernel
theorem dL_act_498 : decode cL_act 498 = .ok (.iconst 4, 1) := by decide +kernel
theorem dL_act_499 : decode cL_act 499 = .ok (.invokestatic 9, 3) := by decide +kernel
theorem dL_act_502 : decode cL_act 502 = .ok (.putfield 58, 3) := by decide +kernel
theorem dL_act_505 : decode cL_act 505 = .ok (.aload_n 0, 1) := by decide +kernel
theorem dL_act_506 : decode cL_act 506 = .ok (.aload_n 1, 1) := by decide +kernel
theorem dL_act_507 : decode cL_act 507 = .ok (.getfield 58, 3) := by decide +kernel
theorem dL_act_510 : decode cL_act 510 = .ok (.invokevirtual 62, 3) := by decide +kernel
theorem dL_act_513 : decode cL_act 513 = .ok (.iload 7, 2) := by decide +kernel
theorem dL_act_515 : decode cL_act 515 = .ok (.if_icmp .ne 7, 3) := by decide +kernel
theorem dL_act_518 : decode cL_act 518 = .ok (.iconst 1, 1) := by decide +kernel
theorem dL_act_519 : decode cL_act 519 = .ok (.goto 4, 3) := by decide +kernel
theorem dL_act_522 : decode cL_act 522 = .ok (.iconst 0, 1) := by decide +kernel
theorem dL_act_523 : decode cL_act 523 = .ok (.ireturn, 1) := by decide +kernel
theorem dL_act_524 : decode cL_act 524 = .ok (.iconst 4, 1) := by decide +kernel
theorem dL_act_525 : decode cL_act 525 = .ok (.newarray .int, 2) := by decide +kernel
theorem dL_act_527 : decode cL_act 527 = .ok (.dup, 1) := by decide +kernel
theorem dL_act_528 : decode cL_act 528 = .ok (.iconst 0, 1) := by decide +kernel
theorem dL_act_529 : decode cL_act 529 = .ok (.iload_n 2, 1) := by decide +kernel
theorem dL_act_530 : decode cL_act 530 = .ok (.bipush 8, 2) := by decide +kernel
theorem dL_act_532 : decode cL_act 532 = .ok (.ishr, 1) := by decide +kernel
theorem dL_act_533 : decode cL_act 533 = .ok (.aload_n 1, 1) := by decide +kernel
theorem dL_act_534 : decode cL_act 534 = .ok (.getfield 21, 3) := by decide +kernel
theorem dL_act_537 : decode cL_act 537 = .ok (.arraylength, 1) := by decide +kernel
theorem dL_act_538 : decode cL_act 538 = .ok (.invokestatic 9, 3) := by decide +kernel
theorem dL_act_541 : decode cL_act 541 = .ok (.iastore, 1) := by decide +kernel
theorem dL_act_542 : decode cL_act 542 = .ok (.dup, 1) := by decide +kernel
theorem dL_act_543 : decode cL_act 543 = .ok (.iconst 1, 1) := by decide +kernel
theorem dL_act_544 : decode cL_act 544 = .ok (.iconst 1, 1) := by decide +kernel
theorem dL_act_545 : decode cL_act 545 = .ok (.iload_n 2, 1) := by decide +kernel
theorem dL_act_546 : decode cL_act 546 = .ok (.iconst 5, 1) := by decide +kernel
theorem dL_act_547 : decode cL_act 547 = .ok (.ishr, 1) := by decide +kernel
theorem dL_act_548 : decode cL_act 548 = .ok (.bipush 9, 2) := by decide +kernel
theorem dL_act_550 : decode cL_act 550 = .ok (.invokestatic 9, 3) := by decide +kernel
theorem dL_act_553 : decode cL_act 553 = .ok (.iadd, 1) := by decide +kernel
theorem dL_act_554 : decode cL_act 554 = .ok (.iastore, 1) := by decide +kernel
theorem dL_act_555 : decode cL_act 555 = .ok (.dup, 1) := by decide +kernel
theorem dL_act_556 : decode cL_act 556 = .ok (.iconst 2, 1) := by decide +kernel
theorem dL_act_557 : decode cL_act 557 = .ok (.iload_n 2, 1) := by decide +kernel
theorem dL_act_558 : decode cL_act 558 = .ok (.iconst 3, 1) := by decide +kernel
theorem dL_act_559 : decode cL_act 559 = .ok (.ishr, 1) := by decide +kernel
theorem dL_act_560 : decode cL_act 560 = .ok (.bipush 61, 2) := by decide +kernel
theorem dL_act_562 : decode cL_act 562 = .ok (.invokestatic 9, 3) := by decide +kernel
theorem dL_act_565 : decode cL_act 565 = .ok (.iastore, 1) := by decide +kernel
theorem dL_act_566 : decode cL_act 566 = .ok (.dup, 1) := by decide +kernel
theorem dL_act_567 : decode cL_act 567 = .ok (.iconst 3, 1) := by decide +kernel
theorem dL_act_568 : decode cL_act 568 = .ok (.iconst 0, 1) := by decide +kernel
theorem dL_act_569 : decode cL_act 569 = .ok (.iastore, 1) := by decide +kernel
theorem dL_act_570 : decode cL_act 570 = .ok (.astore 8, 2) := by decide +kernel
theorem dL_act_572 : decode cL_act 572 = .ok (.aload_n 1, 1) := by decide +kernel
theorem dL_act_573 : decode cL_act 573 = .ok (.getfield 65, 3) := by decide +kernel
theorem dL_act_576 : decode cL_act 576 = .ok (.arraylength, 1) := by decide +kernel
theorem dL_act_577 : decode cL_act 577 = .ok (.bipush 6, 2) := by decide +kernel
theorem dL_act_579 : decode cL_act 579 = .ok (.if_icmp .ge 11, 3) := by decide +kernel
theorem dL_act_582 : decode cL_act 582 = .ok (.aload_n 1, 1) := by decide +kernel
theorem dL_act_583 : decode cL_act 583 = .ok (.getfield 65, 3) := by decide +kernel
theorem dL_act_586 : decode cL_act 586 = .ok (.arraylength, 1) := by decide +kernel
theorem dL_act_587 : decode cL_act 587 = .ok (.goto 4, 3) := by decide +kernel
theorem dL_act_590 : decode cL_act 590 = .ok (.iconst (-1), 1) := by decide +kernel
theorem dL_act_591 : decode cL_act 591 = .ok (.istore 7, 2) := by decide +kernel
theorem dL_act_593 : decode cL_act 593 = .ok (.iload 7, 2) := by decide +kernel
theorem dL_act_595 : decode cL_act 595 = .ok (.ifCond .lt 16, 3) := by decide +kernel
theorem dL_act_598 : decode cL_act 598 = .ok (.aload_n 1, 1) := by decide +kernel
theorem dL_act_599 : decode cL_act 599 = .ok (.aload_n 1, 1) := by decide +kernel
theorem dL_act_600 : decode cL_act 600 = .ok (.getfield 65, 3) := by decide +kernel
theorem dL_act_603 : decode cL_act 603 = .ok (.aload 8, 2) := by decide +kernel
theorem dL_act_605 : decode cL_act 605 = .ok (.invokestatic 68, 3) := by decide +kernel
theorem dL_act_608 : decode cL_act 608 = .ok (.putfield 65, 3) := by decide +kernel
theorem dL_act_611 : decode cL_act 611 = .ok (.aload_n 0, 1) := by decide +kernel
theorem dL_act_612 : decode cL_act 612 = .ok (.aload 8, 2) := by decide +kernel
theorem dL_act_614 : decode cL_act 614 = .ok (.iconst 0, 1) := by decide +kernel
theorem dL_act_615 : decode cL_act 615 = .ok (.iaload, 1) := by decide +kernel
theorem dL_act_616 : decode cL_act 616 = .ok (.aload 8, 2) := by decide +kernel
theorem dL_act_618 : decode cL_act 618 = .ok (.iconst 1, 1) := by decide +kernel
theorem dL_act_619 : decode cL_act 619 = .ok (.iaload, 1) := by decide +kernel
theorem dL_act_620 : decode cL_act 620 = .ok (.aload 8, 2) := by decide +kernel
theorem dL_act_622 : decode cL_act 622 = .ok (.iconst 2, 1) := by decide +kernel
theorem dL_act_623 : decode cL_act 623 = .ok (.iaload, 1) := by decide +kernel
theorem dL_act_624 : decode cL_act 624 = .ok (.invokevirtual 72, 3) := by decide +kernel
theorem dL_act_627 : decode cL_act 627 = .ok (.istore 6, 2) := by decide +kernel
theorem dL_act_629 : decode cL_act 629 = .ok (.goto 8, 3) := by decide +kernel
theorem dL_act_632 : decode cL_act 632 = .ok (.astore 9, 2) := by decide +kernel
theorem dL_act_634 : decode cL_act 634 = .ok (.iconst (-1), 1) := by decide +kernel
theorem dL_act_635 : decode cL_act 635 = .ok (.istore 6, 2) := by decide +kernel
theorem dL_act_637 : decode cL_act 637 = .ok (.iload 6, 2) := by decide +kernel
theorem dL_act_639 : decode cL_act 639 = .ok (.iload 7, 2) := by decide +kernel
theorem dL_act_641 : decode cL_act 641 = .ok (.if_icmp .ne 7, 3) := by decide +kernel
theorem dL_act_644 : decode cL_act 644 = .ok (.iconst 1, 1) := by decide +kernel
theorem dL_act_645 : decode cL_act 645 = .ok (.goto 4, 3) := by decide +kernel
theorem dL_act_648 : decode cL_act 648 = .ok (.iconst 0, 1) := by decide +kernel
theorem dL_act_649 : decode cL_act 649 = .ok (.ireturn, 1) := by decide +kernel
theorem dL_act_650 : decode cL_act 650 = .ok (.aload_n 0, 1) := by decide +kernel
theorem dL_act_651 : decode cL_act 651 = .ok (.invokevirtual 75, 3) := by decide +kernel
theorem dL_act_654 : decode cL_act 654 = .ok (.aload_n 1, 1) := by decide +kernel
theorem dL_act_655 : decode cL_act 655 = .ok (.invokevirtual 79, 3) := by decide +kernel
theorem dL_act_658 : decode cL_act 658 = .ok (.if_icmp .ne 7, 3) := by decide +kernel
theorem dL_act_661 : decode cL_act 661 = .ok (.iconst 1, 1) := by decide +kernel
theorem dL_act_662 : decode cL_act 662 = .ok (.goto 4, 3) := by decide +kernel
theorem dL_act_665 : decode cL_act 665 = .ok (.iconst 0, 1) := by decide +kernel
theorem dL_act_666 : decode cL_act 666 = .ok (.ireturn, 1) := by decide +kernel
theorem dL_act_667 : decode cL_act 667 = .ok (.iconst 1, 1) := by decide +kernel
theorem dL_act_668 : decode cL_act 668 = .ok (.iload_n 2, 1) := by decide +kernel
theorem dL_act_669 : decode cL_act 669 = .ok (.iconst 5, 1) := by decide +kernel
theorem dL_act_670 : decode cL_act 670 = .ok (.ishr, 1) := by decide +kernel
theorem dL_act_671 : decode cL_act 671 = .ok (.iload_n 2, 1) := by decide +kernel
theorem dL_act_672 : decode cL_act 672 = .ok (.bipush 8, 2) := by decide +kernel
theorem dL_act_674 : decode cL_act 674 = .ok (.ishr, 1) := by decide +kernel
theorem dL_act_675 : decode cL_act 675 = .ok (.iconst 5, 1) := by decide +kernel
theorem dL_act_676 : decode cL_act 676 = .ok (.invokestatic 9, 3) := by decide +kernel
theorem dL_act_679 : decode cL_act 679 = .ok (.ifCond .ne 8, 3) := by decide +kernel
theorem dL_act_682 : decode cL_act 682 = .ok (.bipush 15, 2) := by decide +kernel
theorem dL_act_684 : decode cL_act 684 = .ok (.goto 4, 3) := by decide +kernel
theorem dL_act_687 : decode cL_act 687 = .ok (.iconst 4, 1) := by decide +kernel
theorem dL_act_688 : decode cL_act 688 = .ok (.invokestatic 9, 3) := by decide +kernel
theorem dL_act_691 : decode cL_act 691 = .ok (.iadd, 1) := by decide +kernel
theorem dL_act_692 : decode cL_act 692 = .ok (.istore 8, 2) := by decide +kernel
theorem dL_act_694 : decode cL_act 694 = .ok (.iload_n 2, 1) := by decide +kernel
theorem dL_act_695 : decode cL_act 695 = .ok (.iconst 3, 1) := by decide +kernel
theorem dL_act_696 : decode cL_act 696 = .ok (.ishr, 1) := by decide +kernel
theorem dL_act_697 : decode cL_act 697 = .ok (.bipush 10, 2) := by decide +kernel
theorem dL_act_699 : decode cL_act 699 = .ok (.invokestatic 9, 3) := by decide +kernel
theorem dL_act_702 : decode cL_act 702 = .ok (.istore 9, 2) := by decide +kernel
theorem dL_act_704 : decode cL_act 704 = .ok (.iconst 0, 1) := by decide +kernel
theorem dL_act_705 : decode cL_act 705 = .ok (.istore 10, 2) := by decide +kernel
theorem dL_act_707 : decode cL_act 707 = .ok (.iload 10, 2) := by decide +kernel
theorem dL_act_709 : decode cL_act 709 = .ok (.iload 8, 2) := by decide +kernel
theorem dL_act_711 : decode cL_act 711 = .ok (.if_icmp .ge 15, 3) := by decide +kernel
theorem dL_act_714 : decode cL_act 714 = .ok (.aload_n 1, 1) := by decide +kernel
theorem dL_act_715 : decode cL_act 715 = .ok (.iload 9, 2) := by decide +kernel
theorem dL_act_717 : decode cL_act 717 = .ok (.invokevirtual 80, 3) := by decide +kernel
theorem dL_act_720 : decode cL_act 720 = .ok (.iinc 10 1, 3) := by decide +kernel
theorem dL_act_723 : decode cL_act 723 = .ok (.goto (-16), 3) := by decide +kernel
theorem dL_act_726 : decode cL_act 726 = .ok (.aload_n 0, 1) := by decide +kernel
theorem dL_act_727 : decode cL_act 727 = .ok (.iload 8, 2) := by decide +kernel
theorem dL_act_729 : decode cL_act 729 = .ok (.iload 9, 2) := by decide +kernel
theorem dL_act_731 : decode cL_act 731 = .ok (.invokevirtual 83, 3) := by decide +kernel
theorem dL_act_734 : decode cL_act 734 = .ok (.aload_n 1, 1) := by decide +kernel
theorem dL_act_735 : decode cL_act 735 = .ok (.invokevirtual 25, 3) := by decide +kernel
theorem dL_act_738 : decode cL_act 738 = .ok (.iconst 1, 1) := by decide +kernel
theorem dL_act_739 : decode cL_act 739 = .ok (.iaload, 1) := by decide +kernel
theorem dL_act_740 : decode cL_act 740 = .ok (.if_icmp .ne 7, 3) := by decide +kernel
theorem dL_act_743 : decode cL_act 743 = .ok (.iconst 1, 1) := by decide +kernel
theorem dL_act_744 : decode cL_act 744 = .ok (.goto 4, 3) := by decide +kernel
theorem dL_act_747 : decode cL_act 747 = .ok (.iconst 0, 1) := by decide +kernel
theorem dL_act_748 : decode cL_act 748 = .ok (.ireturn, 1) := by decide +kernel
theorem dL_build_0 : decode cL_build 0 = .ok (.new 16, 3) := by decide +kernel
theorem dL_build_3 : decode cL_build 3 = .ok (.dup, 1) := by decide +kernel
theorem dL_build_4 : decode cL_build 4 = .ok (.invokespecial 86, 3) := by decide +kernel
theorem dL_build_7 : decode cL_build 7 = .ok (.astore_n 2, 1) := by decide +kernel
theorem dL_build_8 : decode cL_build 8 = .ok (.iconst 1, 1) := by decide +kernel
theorem dL_build_9 : decode cL_build 9 = .ok (.aload_n 1, 1) := by decide +kernel
theorem dL_build_10 : decode cL_build 10 = .ok (.iconst 0, 1) := by decide +kernel
theorem dL_build_11 : decode cL_build 11 = .ok (.invokestatic 87, 3) := by decide +kernel
theorem dL_build_14 : decode cL_build 14 = .ok (.bipush 6, 2) := by decide +kernel
theorem dL_build_16 : decode cL_build 16 = .ok (.invokestatic 9, 3) := by decide +kernel
theorem dL_build_19 : decode cL_build 19 = .ok (.iadd, 1) := by decide +kernel
theorem dL_build_20 : decode cL_build 20 = .ok (.istore_n 3, 1) := by decide +kernel
theorem dL_build_21 : decode cL_build 21 = .ok (.iconst 0, 1) := by decide +kernel
theorem dL_build_22 : decode cL_build 22 = .ok (.istore 4, 2) := by decide +kernel
theorem dL_build_24 : decode cL_build 24 = .ok (.iload 4, 2) := by decide +kernel
theorem dL_build_26 : decode cL_build 26 = .ok (.iload_n 3, 1) := by decide +kernel
theorem dL_build_27 : decode cL_build 27 = .ok (.if_icmp .ge 87, 3) := by decide +kernel
theorem dL_build_30 : decode cL_build 30 = .ok (.iconst 2, 1) := by decide +kernel
theorem dL_build_31 : decode cL_build 31 = .ok (.newarray .int, 2) := by decide +kernel
theorem dL_build_33 : decode cL_build 33 = .ok (.dup, 1) := by decide +kernel
theorem dL_build_34 : decode cL_build 34 = .ok (.iconst 0, 1) := by decide +kernel
theorem dL_build_35 : decode cL_build 35 = .ok (.iconst 1, 1) := by decide +kernel
theorem dL_build_36 : decode cL_build 36 = .ok (.aload_n 1, 1) := by decide +kernel
theorem dL_build_37 : decode cL_build 37 = .ok (.iconst 1, 1) := by decide +kernel
theorem dL_build_38 : decode cL_build 38 = .ok (.invokestatic 87, 3) := by decide +kernel
theorem dL_build_41 : decode cL_build 41 = .ok (.iconst 3, 1) := by decide +kernel
theorem dL_build_42 : decode cL_build 42 = .ok (.iload 4, 2) := by decide +kernel
theorem dL_build_44 : decode cL_build 44 = .ok (.imul, 1) := by decide +kernel
theorem dL_build_45 : decode cL_build 45 = .ok (.ishr, 1) := by decide +kernel
theorem dL_build_46 : decode cL_build 46 = .ok (.bipush 9, 2) := by decide +kernel
theorem dL_build_48 : decode cL_build 48 = .ok (.invokestatic 9, 3) := by decide +kernel
theorem dL_build_51 : decode cL_build 51 = .ok (.iadd, 1) := by decide +kernel
theorem dL_build_52 : decode cL_build 52 = .ok (.iastore, 1) := by decide +kernel
theorem dL_build_53 : decode cL_build 53 = .ok (.dup, 1) := by decide +kernel
theorem dL_build_54 : decode cL_build 54 = .ok (.iconst 1, 1) := by decide +kernel
theorem dL_build_55 : decode cL_build 55 = .ok (.bipush 20, 2) := by decide +kernel
theorem dL_build_57 : decode cL_build 57 = .ok (.aload_n 1, 1) := by decide +kernel
theorem dL_build_58 : decode cL_build 58 = .ok (.iconst 2, 1) := by decide +kernel
theorem dL_build_59 : decode cL_build 59 = .ok (.invokestatic 87, 3) := by decide +kernel
theorem dL_build_62 : decode cL_build 62 = .ok (.iconst 3, 1) := by decide +kernel
theorem dL_build_63 : decode cL_build 63 = .ok (.iload 4, 2) := by decide +kernel
theorem dL_build_65 : decode cL_build 65 = .ok (.imul, 1) := by decide +kernel
theorem dL_build_66 : decode cL_build 66 = .ok (.ishr, 1) := by decide +kernel
theorem dL_build_67 : decode cL_build 67 = .ok (.bipush 71, 2) := by decide +kernel
theorem dL_build_69 : decode cL_build 69 = .ok (.invokestatic 9, 3) := by decide +kernel
theorem dL_build_72 : decode cL_build 72 = .ok (.iadd, 1) := by decide +kernel
theorem dL_build_73 : decode cL_build 73 = .ok (.iastore, 1) := by decide +kernel
theorem dL_build_74 : decode cL_build 74 = .ok (.astore 5, 2) := by decide +kernel
theorem dL_build_76 : decode cL_build 76 = .ok (.aload_n 2, 1) := by decide +kernel
theorem dL_build_77 : decode cL_build 77 = .ok (.aload_n 2, 1) := by decide +kernel
theorem dL_build_78 : decode cL_build 78 = .ok (.getfield 21, 3) := by decide +kernel
theorem dL_build_81 : decode cL_build 81 = .ok (.aload 5, 2) := by decide +kernel
theorem dL_build_83 : decode cL_build 83 = .ok (.invokestatic 68, 3) := by decide +kernel
theorem dL_build_86 : decode cL_build 86 = .ok (.putfield 21, 3) := by decide +kernel
theorem dL_build_89 : decode cL_build 89 = .ok (.aload_n 0, 1) := by decide +kernel
theorem dL_build_90 : decode cL_build 90 = .ok (.aload 5, 2) := by decide +kernel
theorem dL_build_92 : decode cL_build 92 = .ok (.iconst 0, 1) := by decide +kernel
theorem dL_build_93 : decode cL_build 93 = .ok (.iaload, 1) := by decide +kernel
theorem dL_build_94 : decode cL_build 94 = .ok (.aload 5, 2) := by decide +kernel
theorem dL_build_96 : decode cL_build 96 = .ok (.iconst 1, 1) := by decide +kernel
theorem dL_build_97 : decode cL_build 97 = .ok (.iaload, 1) := by decide +kernel
theorem dL_build_98 : decode cL_build 98 = .ok (.invokevirtual 91, 3) := by decide +kernel
theorem dL_build_101 : decode cL_build 101 = .ok (.iload 4, 2) := by decide +kernel
theorem dL_build_103 : decode cL_build 103 = .ok (.if_icmp .eq 5, 3) := by decide +kernel
theorem dL_build_106 : decode cL_build 106 = .ok (.aconst_null, 1) := by decide +kernel
theorem dL_build_107 : decode cL_build 107 = .ok (.areturn, 1) := by decide +kernel
theorem dL_build_108 : decode cL_build 108 = .ok (.iinc 4 1, 3) := by decide +kernel
theorem dL_build_111 : decode cL_build 111 = .ok (.goto (-87), 3) := by decide +kernel
theorem dL_build_114 : decode cL_build 114 = .ok (.aload_n 1, 1) := by decide +kernel
theorem dL_build_115 : decode cL_build 115 = .ok (.iconst 3, 1) := by decide +kernel
theorem dL_build_116 : decode cL_build 116 = .ok (.invokestatic 87, 3) := by decide +kernel
theorem dL_build_119 : decode cL_build 119 = .ok (.bipush 34, 2) := by decide +kernel
theorem dL_build_121 : decode cL_build 121 = .ok (.invokestatic 9, 3) := by decide +kernel
theorem dL_build_124 : decode cL_build 124 = .ok (.istore 4, 2) := by decide +kernel
theorem dL_build_126 : decode cL_build 126 = .ok (.iconst 0, 1) := by decide +kernel
theorem dL_build_127 : decode cL_build 127 = .ok (.istore 5, 2) := by decide +kernel
theorem dL_build_129 : decode cL_build 129 = .ok (.iload 5, 2) := by decide +kernel
theorem dL_build_131 : decode cL_build 131 = .ok (.iload 4, 2) := by decide +kernel
theorem dL_build_133 : decode cL_build 133 = .ok (.if_icmp .ge 156, 3) := by decide +kernel
theorem dL_build_136 : decode cL_build 136 = .ok (.aload_n 1, 1) := by decide +kernel
theorem dL_build_137 : decode cL_build 137 = .ok (.iconst 4, 1) := by decide +kernel
theorem dL_build_138 : decode cL_build 138 = .ok (.iload 5, 2) := by decide +kernel
theorem dL_build_140 : decode cL_build 140 = .ok (.bipush 12, 2) := by decide +kernel
theorem dL_build_142 : decode cL_build 142 = .ok (.irem, 1) := by decide +kernel
theorem dL_build_143 : decode cL_build 143 = .ok (.iadd, 1) := by decide +kernel
theorem dL_build_144 : decode cL_build 144 = .ok (.invokestatic 87, 3) := by decide +kernel
theorem dL_build_147 : decode cL_build 147 = .ok (.iload 5, 2) := by decide +kernel
theorem dL_build_149 : decode cL_build 149 = .ok (.bipush 12, 2) := by decide +kernel
theorem dL_build_151 : decode cL_build 151 = .ok (.idiv, 1) := by decide +kernel
theorem dL_build_152 : decode cL_build 152 = .ok (.bipush 6, 2) := by decide +kernel
theorem dL_build_154 : decode cL_build 154 = .ok (.imul, 1) := by decide +kernel
theorem dL_build_155 : decode cL_build 155 = .ok (.ishr, 1) := by decide +kernel
theorem dL_build_156 : decode cL_build 156 = .ok (.bipush 37, 2) := by decide +kernel
theorem dL_build_158 : decode cL_build 158 = .ok (.iload 5, 2) := by decide +kernel
theorem dL_build_160 : decode cL_build 160 = .ok (.imul, 1) := by decide +kernel
theorem dL_build_161 : decode cL_build 161 = .ok (.iadd, 1) := by decide +kernel
theorem dL_build_162 : decode cL_build 162 = .ok (.istore 6, 2) := by decide +kernel
theorem dL_build_164 : decode cL_build 164 = .ok (.iload 6, 2) := by decide +kernel
theorem dL_build_166 : decode cL_build 166 = .ok (.iconst 5, 1) := by decide +kernel
theorem dL_build_167 : decode cL_build 167 = .ok (.invokestatic 9, 3) := by decide +kernel
theorem dL_build_170 : decode cL_build 170 = .ok (.istore 7, 2) := by decide +kernel
theorem dL_build_172 : decode cL_build 172 = .ok (.iload 6, 2) := by decide +kernel
theorem dL_build_174 : decode cL_build 174 = .ok (.iconst 2, 1) := by decide +kernel
theorem dL_build_175 : decode cL_build 175 = .ok (.ishr, 1) := by decide +kernel
theorem dL_build_176 : decode cL_build 176 = .ok (.bipush 8, 2) := by decide +kernel
theorem dL_build_178 : decode cL_build 178 = .ok (.invokestatic 9, 3) := by decide +kernel
theorem dL_build_181 : decode cL_build 181 = .ok (.istore 8, 2) := by decide +kernel
theorem dL_build_183 : decode cL_build 183 = .ok (.aload_n 2, 1) := by decide +kernel
theorem dL_build_184 : decode cL_build 184 = .ok (.getfield 15, 3) := by decide +kernel
theorem dL_build_187 : decode cL_build 187 = .ok (.iload 7, 2) := by decide +kernel
theorem dL_build_189 : decode cL_build 189 = .ok (.aaload, 1) := by decide +kernel
theorem dL_build_190 : decode cL_build 190 = .ok (.iload 8, 2) := by decide +kernel
theorem dL_build_192 : decode cL_build 192 = .ok (.aaload, 1) := by decide +kernel
theorem dL_build_193 : decode cL_build 193 = .ok (.ifnull 6, 3) := by decide +kernel
theorem dL_build_196 : decode cL_build 196 = .ok (.goto 87, 3) := by decide +kernel
theorem dL_build_199 : decode cL_build 199 = .ok (.bipush 40, 2) := by decide +kernel
theorem dL_build_201 : decode cL_build 201 = .ok (.iload 6, 2) := by decide +kernel
theorem dL_build_203 : decode cL_build 203 = .ok (.iconst 4, 1) := by decide +kernel
theorem dL_build_204 : decode cL_build 204 = .ok (.ishr, 1) := by decide +kernel
theorem dL_build_205 : decode cL_build 205 = .ok (.bipush 61, 2) := by decide +kernel
theorem dL_build_207 : decode cL_build 207 = .ok (.invokestatic 9, 3) := by decide +kernel
theorem dL_build_210 : decode cL_build 210 = .ok (.iadd, 1) := by decide +kernel
theorem dL_build_211 : decode cL_build 211 = .ok (.istore 9, 2) := by decide +kernel
theorem dL_build_213 : decode cL_build 213 = .ok (.iload 6, 2) := by decide +kernel
theorem dL_build_215 : decode cL_build 215 = .ok (.bipush 6, 2) := by decide +kernel
theorem dL_build_217 : decode cL_build 217 = .ok (.ishr, 1) := by decide +kernel
theorem dL_build_218 : decode cL_build 218 = .ok (.iload_n 3, 1) := by decide +kernel
theorem dL_build_219 : decode cL_build 219 = .ok (.invokestatic 9, 3) := by decide +kernel
theorem dL_build_222 : decode cL_build 222 = .ok (.istore 10, 2) := by decide +kernel
theorem dL_build_224 : decode cL_build 224 = .ok (.aload_n 2, 1) := by decide +kernel
theorem dL_build_225 : decode cL_build 225 = .ok (.getfield 15, 3) := by decide +kernel
theorem dL_build_228 : decode cL_build 228 = .ok (.iload 7, 2) := by decide +kernel
theorem dL_build_230 : decode cL_build 230 = .ok (.aaload, 1) := by decide +kernel
theorem dL_build_231 : decode cL_build 231 = .ok (.iload 8, 2) := by decide +kernel
theorem dL_build_233 : decode cL_build 233 = .ok (.iconst 5, 1) := by decide +kernel
theorem dL_build_234 : decode cL_build 234 = .ok (.newarray .int, 2) := by decide +kernel
theorem dL_build_236 : decode cL_build 236 = .ok (.dup, 1) := by decide +kernel
theorem dL_build_237 : decode cL_build 237 = .ok (.iconst 0, 1) := by decide +kernel
theorem dL_build_238 : decode cL_build 238 = .ok (.iload 10, 2) := by decide +kernel
theorem dL_build_240 : decode cL_build 240 = .ok (.iastore, 1) := by decide +kernel
theorem dL_build_241 : decode cL_build 241 = .ok (.dup, 1) := by decide +kernel
theorem dL_build_242 : decode cL_build 242 = .ok (.iconst 1, 1) := by decide +kernel
theorem dL_build_243 : decode cL_build 243 = .ok (.iload 9, 2) := by decide +kernel
theorem dL_build_245 : decode cL_build 245 = .ok (.iastore, 1) := by decide +kernel
theorem dL_build_246 : decode cL_build 246 = .ok (.dup, 1) := by decide +kernel
theorem dL_build_247 : decode cL_build 247 = .ok (.iconst 2, 1) := by decide +kernel
theorem dL_build_248 : decode cL_build 248 = .ok (.iload 9, 2) := by decide +kernel
theorem dL_build_250 : decode cL_build 250 = .ok (.iastore, 1) := by decide +kernel
theorem dL_build_251 : decode cL_build 251 = .ok (.dup, 1) := by decide +kernel
theorem dL_build_252 : decode cL_build 252 = .ok (.iconst 3, 1) := by decide +kernel
theorem dL_build_253 : decode cL_build 253 = .ok (.iconst 0, 1) := by decide +kernel
theorem dL_build_254 : decode cL_build 254 = .ok (.iastore, 1) := by decide +kernel
theorem dL_build_255 : decode cL_build 255 = .ok (.dup, 1) := by decide +kernel
theorem dL_build_256 : decode cL_build 256 = .ok (.iconst 4, 1) := by decide +kernel
theorem dL_build_257 : decode cL_build 257 = .ok (.iconst 0, 1) := by decide +kernel
theorem dL_build_258 : decode cL_build 258 = .ok (.iastore, 1) := by decide +kernel
theorem dL_build_259 : decode cL_build 259 = .ok (.aastore, 1) := by decide +kernel
theorem dL_build_260 : decode cL_build 260 = .ok (.aload_n 0, 1) := by decide +kernel
theorem dL_build_261 : decode cL_build 261 = .ok (.iload 7, 2) := by decide +kernel
theorem dL_build_263 : decode cL_build 263 = .ok (.iload 8, 2) := by decide +kernel
theorem dL_build_265 : decode cL_build 265 = .ok (.iload 10, 2) := by decide +kernel
theorem dL_build_267 : decode cL_build 267 = .ok (.iload 9, 2) := by decide +kernel
theorem dL_build_269 : decode cL_build 269 = .ok (.invokevirtual 29, 3) := by decide +kernel
theorem dL_build_272 : decode cL_build 272 = .ok (.aload_n 2, 1) := by decide +kernel
theorem dL_build_273 : decode cL_build 273 = .ok (.invokevirtual 25, 3) := by decide +kernel
theorem dL_build_276 : decode cL_build 276 = .ok (.iconst 0, 1) := by decide +kernel
theorem dL_build_277 : decode cL_build 277 = .ok (.iaload, 1) := by decide +kernel
theorem dL_build_278 : decode cL_build 278 = .ok (.if_icmp .eq 5, 3) := by decide +kernel
theorem dL_build_281 : decode cL_build 281 = .ok (.aconst_null, 1) := by decide +kernel
theorem dL_build_282 : decode cL_build 282 = .ok (.areturn, 1) := by decide +kernel
theorem dL_build_283 : decode cL_build 283 = .ok (.iinc 5 1, 3) := by decide +kernel
theorem dL_build_286 : decode cL_build 286 = .ok (.goto (-157), 3) := by decide +kernel
theorem dL_build_289 : decode cL_build 289 = .ok (.aload_n 2, 1) := by decide +kernel
theorem dL_build_290 : decode cL_build 290 = .ok (.areturn, 1) := by decide +kernel
theorem dL_law_0 : decode cL_law 0 = .ok (.new 30, 3) := by decide +kernel
theorem dL_law_3 : decode cL_law 3 = .ok (.dup, 1) := by decide +kernel
theorem dL_law_4 : decode cL_law 4 = .ok (.invokespecial 94, 3) := by decide +kernel
theorem dL_law_7 : decode cL_law 7 = .ok (.astore_n 1, 1) := by decide +kernel
theorem dL_law_8 : decode cL_law 8 = .ok (.aload_n 1, 1) := by decide +kernel
theorem dL_law_9 : decode cL_law 9 = .ok (.aload_n 0, 1) := by decide +kernel
theorem dL_law_10 : decode cL_law 10 = .ok (.invokestatic 95, 3) := by decide +kernel
theorem dL_law_13 : decode cL_law 13 = .ok (.astore_n 2, 1) := by decide +kernel
theorem dL_law_14 : decode cL_law 14 = .ok (.aload_n 2, 1) := by decide +kernel
theorem dL_law_15 : decode cL_law 15 = .ok (.ifnonnull 5, 3) := by decide +kernel
theorem dL_law_18 : decode cL_law 18 = .ok (.iconst 0, 1) := by decide +kernel
theorem dL_law_19 : decode cL_law 19 = .ok (.ireturn, 1) := by decide +kernel
theorem dL_law_20 : decode cL_law 20 = .ok (.iconst 0, 1) := by decide +kernel
theorem dL_law_21 : decode cL_law 21 = .ok (.istore_n 3, 1) := by decide +kernel
theorem dL_law_22 : decode cL_law 22 = .ok (.iload_n 3, 1) := by decide +kernel
theorem dL_law_23 : decode cL_law 23 = .ok (.bipush 12, 2) := by decide +kernel
theorem dL_law_25 : decode cL_law 25 = .ok (.if_icmp .ge 1424, 3) := by decide +kernel
theorem dL_law_28 : decode cL_law 28 = .ok (.aload_n 0, 1) := by decide +kernel
theorem dL_law_29 : decode cL_law 29 = .ok (.iload_n 3, 1) := by decide +kernel
theorem dL_law_30 : decode cL_law 30 = .ok (.invokestatic 87, 3) := by decide +kernel
theorem dL_law_33 : decode cL_law 33 = .ok (.iconst 2, 1) := by decide +kernel
theorem dL_law_34 : decode cL_law 34 = .ok (.ishr, 1) := by decide +kernel
theorem dL_law_35 : decode cL_law 35 = .ok (.bipush 53, 2) := by decide +kernel
theorem dL_law_37 : decode cL_law 37 = .ok (.iload_n 3, 1) := by decide +kernel
theorem dL_law_38 : decode cL_law 38 = .ok (.imul, 1) := by decide +kernel
theorem dL_law_39 : decode cL_law 39 = .ok (.iadd, 1) := by decide +kernel
theorem dL_law_40 : decode cL_law 40 = .ok (.istore 4, 2) := by decide +kernel
theorem dL_law_42 : decode cL_law 42 = .ok (.iconst 0, 1) := by decide +kernel
theorem dL_law_43 : decode cL_law 43 = .ok (.istore 5, 2) := by decide +kernel
theorem dL_law_45 : decode cL_law 45 = .ok (.iload 5, 2) := by decide +kernel
theorem dL_law_47 : decode cL_law 47 = .ok (.iconst 3, 1) := by decide +kernel
theorem dL_law_48 : decode cL_law 48 = .ok (.if_icmp .ge 32, 3) := by decide +kernel
theorem dL_law_51 : decode cL_law 51 = .ok (.aload_n 1, 1) := by decide +kernel
theorem dL_law_52 : decode cL_law 52 = .ok (.aload_n 2, 1) := by decide +kernel
theorem dL_law_53 : decode cL_law 53 = .ok (.iload 4, 2) := by decide +kernel
theorem dL_law_55 : decode cL_law 55 = .ok (.iconst 3, 1) := by decide +kernel
theorem dL_law_56 : decode cL_law 56 = .ok (.iload 5, 2) := by decide +kernel
theorem dL_law_58 : decode cL_law 58 = .ok (.imul, 1) := by decide +kernel
theorem dL_law_59 : decode cL_law 59 = .ok (.ishr, 1) := by decide +kernel
theorem dL_law_60 : decode cL_law 60 = .ok (.bipush 29, 2) := by decide +kernel
theorem dL_law_62 : decode cL_law 62 = .ok (.iload 5, 2) := by decide +kernel
theorem dL_law_64 : decode cL_law 64 = .ok (.imul, 1) := by decide +kernel
theorem dL_law_65 : decode cL_law 65 = .ok (.iadd, 1) := by decide +kernel
theorem dL_law_66 : decode cL_law 66 = .ok (.invokestatic 99, 3) := by decide +kernel
theorem dL_law_69 : decode cL_law 69 = .ok (.ifCond .ne 5, 3) := by decide +kernel
theorem dL_law_72 : decode cL_law 72 = .ok (.iconst 0, 1) := by decide +kernel
theorem dL_law_73 : decode cL_law 73 = .ok (.ireturn, 1) := by decide +kernel
theorem dL_law_74 : decode cL_law 74 = .ok (.iinc 5 1, 3) := by decide +kernel
theorem dL_law_77 : decode cL_law 77 = .ok (.goto (-32), 3) := by decide +kernel
theorem dL_law_80 : decode cL_law 80 = .ok (.aload_n 1, 1) := by decide +kernel
theorem dL_law_81 : decode cL_law 81 = .ok (.invokevirtual 103, 3) := by decide +kernel
theorem dL_law_84 : decode cL_law 84 = .ok (.lstore 5, 2) := by decide +kernel
theorem dL_law_86 : decode cL_law 86 = .ok (.bipush 40, 2) := by decide +kernel
theorem dL_law_88 : decode cL_law 88 = .ok (.bipush 8, 2) := by decide +kernel
theorem dL_law_90 : decode cL_law 90 = .ok (.multianewarray 107 2, 4) := by decide +kernel
theorem dL_law_94 : decode cL_law 94 = .ok (.astore 7, 2) := by decide +kernel
theorem dL_law_96 : decode cL_law 96 = .ok (.iconst 0, 1) := by decide +kernel
theorem dL_law_97 : decode cL_law 97 = .ok (.istore 8, 2) := by decide +kernel
theorem dL_law_99 : decode cL_law 99 = .ok (.iconst 0, 1) := by decide +kernel
theorem dL_law_100 : decode cL_law 100 = .ok (.istore 9, 2) := by decide +kernel
theorem dL_law_102 : decode cL_law 102 = .ok (.iconst 0, 1) := by decide +kernel
theorem dL_law_103 : decode cL_law 103 = .ok (.istore 10, 2) := by decide +kernel
theorem dL_law_105 : decode cL_law 105 = .ok (.iconst 0, 1) := by decide +kernel
theorem dL_law_106 : decode cL_law 106 = .ok (.istore 11, 2) := by decide +kernel
theorem dL_law_108 : decode cL_law 108 = .ok (.iload 11, 2) := by decide +kernel
theorem dL_law_110 : decode cL_law 110 = .ok (.bipush 40, 2) := by decide +kernel
theorem dL_law_112 : decode cL_law 112 = .ok (.if_icmp .ge 279, 3) := by decide +kernel
theorem dL_law_115 : decode cL_law 115 = .ok (.iconst 0, 1) := by decide +kernel
theorem dL_law_116 : decode cL_law 116 = .ok (.istore 12, 2) := by decide +kernel
theorem dL_law_118 : decode cL_law 118 = .ok (.iload 12, 2) := by decide +kernel
theorem dL_law_120 : decode cL_law 120 = .ok (.bipush 8, 2) := by decide +kernel
theorem dL_law_122 : decode cL_law 122 = .ok (.if_icmp .ge 33, 3) := by decide +kernel
theorem dL_law_125 : decode cL_law 125 = .ok (.aload 7, 2) := by decide +kernel
theorem dL_law_127 : decode cL_law 127 = .ok (.iload 11, 2) := by decide +kernel
theorem dL_law_129 : decode cL_law 129 = .ok (.aaload, 1) := by decide +kernel
theorem dL_law_130 : decode cL_law 130 = .ok (.iload 12, 2) := by decide +kernel
theorem dL_law_132 : decode cL_law 132 = .ok (.aload_n 1, 1) := by decide +kernel
theorem dL_law_133 : decode cL_law 133 = .ok (.iload 11, 2) := by decide +kernel
theorem dL_law_135 : decode cL_law 135 = .ok (.bipush 8, 2) := by decide +kernel
theorem dL_law_137 : decode cL_law 137 = .ok (.idiv, 1) := by decide +kernel
theorem dL_law_138 : decode cL_law 138 = .ok (.iload 11, 2) := by decide +kernel
theorem dL_law_140 : decode cL_law 140 = .ok (.bipush 8, 2) := by decide +kernel
theorem dL_law_142 : decode cL_law 142 = .ok (.irem, 1) := by decide +kernel
theorem dL_law_143 : decode cL_law 143 = .ok (.iload 12, 2) := by decide +kernel
theorem dL_law_145 : decode cL_law 145 = .ok (.invokevirtual 108, 3) := by decide +kernel
theorem dL_law_148 : decode cL_law 148 = .ok (.iastore, 1) := by decide +kernel
theorem dL_law_149 : decode cL_law 149 = .ok (.iinc 12 1, 3) := by decide +kernel
theorem dL_law_152 : decode cL_law 152 = .ok (.goto (-34), 3) := by decide +kernel
theorem dL_law_155 : decode cL_law 155 = .ok (.aload 7, 2) := by decide +kernel
theorem dL_law_157 : decode cL_law 157 = .ok (.iload 11, 2) := by decide +kernel
theorem dL_law_159 : decode cL_law 159 = .ok (.aaload, 1) := by decide +kernel
theorem dL_law_160 : decode cL_law 160 = .ok (.astore 12, 2) := by decide +kernel
theorem dL_law_162 : decode cL_law 162 = .ok (.aload 12, 2) := by decide +kernel
theorem dL_law_164 : decode cL_law 164 = .ok (.iconst 0, 1) := by decide +kernel
theorem dL_law_165 : decode cL_law 165 = .ok (.iaload, 1) := by decide +kernel
theorem dL_law_166 : decode cL_law 166 = .ok (.ifCond .ge 6, 3) := by decide +kernel
theorem dL_law_169 : decode cL_law 169 = .ok (.goto 216, 3) := by decide +kernel
theorem dL_law_172 : decode cL_law 172 = .ok (.iinc 8 1, 3) := by decide +kernel
theorem dL_law_175 : decode cL_law 175 = .ok (.iload 9, 2) := by decide +kernel
theorem dL_law_177 : decode cL_law 177 = .ok (.aload 12, 2) := by decide +kernel
theorem dL_law_179 : decode cL_law 179 = .ok (.iconst 5, 1) := by decide +kernel
theorem dL_law_180 : decode cL_law 180 = .ok (.iaload, 1) := by decide +kernel
theorem dL_law_181 : decode cL_law 181 = .ok (.ifCond .le 7, 3) := by decide +kernel
theorem dL_law_184 : decode cL_law 184 = .ok (.iconst 1, 1) := by decide +kernel
theorem dL_law_185 : decode cL_law 185 = .ok (.goto 4, 3) := by decide +kernel
theorem dL_law_188 : decode cL_law 188 = .ok (.iconst 0, 1) := by decide +kernel
theorem dL_law_189 : decode cL_law 189 = .ok (.iadd, 1) := by decide +kernel
theorem dL_law_190 : decode cL_law 190 = .ok (.istore 9, 2) := by decide +kernel
theorem dL_law_192 : decode cL_law 192 = .ok (.iload 10, 2) := by decide +kernel
theorem dL_law_194 : decode cL_law 194 = .ok (.aload 12, 2) := by decide +kernel
theorem dL_law_196 : decode cL_law 196 = .ok (.iconst 3, 1) := by decide +kernel
theorem dL_law_197 : decode cL_law 197 = .ok (.iaload, 1) := by decide +kernel
theorem dL_law_198 : decode cL_law 198 = .ok (.iadd, 1) := by decide +kernel
theorem dL_law_199 : decode cL_law 199 = .ok (.istore 10, 2) := by decide +kernel
theorem dL_law_201 : decode cL_law 201 = .ok (.aload 12, 2) := by decide +kernel
theorem dL_law_203 : decode cL_law 203 = .ok (.iconst 1, 1) := by decide +kernel
theorem dL_law_204 : decode cL_law 204 = .ok (.iaload, 1) := by decide +kernel
theorem dL_law_205 : decode cL_law 205 = .ok (.ifCond .lt 107, 3) := by decide +kernel
theorem dL_law_208 : decode cL_law 208 = .ok (.aload 12, 2) := by decide +kernel
theorem dL_law_210 : decode cL_law 210 = .ok (.iconst 1, 1) := by decide +kernel
theorem dL_law_211 : decode cL_law 211 = .ok (.iaload, 1) := by decide +kernel
theorem dL_law_212 : decode cL_law 212 = .ok (.bipush 100, 2) := by decide +kernel
theorem dL_law_214 : decode cL_law 214 = .ok (.if_icmp .gt 98, 3) := by decide +kernel
theorem dL_law_217 : decode cL_law 217 = .ok (.aload 12, 2) := by decide +kernel
theorem dL_law_219 : decode cL_law 219 = .ok (.iconst 2, 1) := by decide +kernel
theorem dL_law_220 : decode cL_law 220 = .ok (.iaload, 1) := by decide +kernel
theorem dL_law_221 : decode cL_law 221 = .ok (.ifCond .lt 91, 3) := by decide +kernel
theorem dL_law_224 : decode cL_law 224 = .ok (.aload 12, 2) := by decide +kernel
theorem dL_law_226 : decode cL_law 226 = .ok (.iconst 2, 1) := by decide +kernel
theorem dL_law_227 : decode cL_law 227 = .ok (.iaload, 1) := by decide +kernel
theorem dL_law_228 : decode cL_law 228 = .ok (.bipush 100, 2) := by decide +kernel
theorem dL_law_230 : decode cL_law 230 = .ok (.if_icmp .gt 82, 3) := by decide +kernel
theorem dL_law_233 : decode cL_law 233 = .ok (.aload 12, 2) := by decide +kernel
theorem dL_law_235 : decode cL_law 235 = .ok (.iconst 3, 1) := by decide +kernel
theorem dL_law_236 : decode cL_law 236 = .ok (.iaload, 1) := by decide +kernel
theorem dL_law_237 : decode cL_law 237 = .ok (.aload 12, 2) := by decide +kernel
theorem dL_law_239 : decode cL_law 239 = .ok (.iconst 1, 1) := by decide +kernel
theorem dL_law_240 : decode cL_law 240 = .ok (.iaload, 1) := by decide +kernel
theorem dL_law_241 : decode cL_law 241 = .ok (.aload 12, 2) := by decide +kernel
theorem dL_law_243 : decode cL_law 243 = .ok (.iconst 2, 1) := by decide +kernel
theorem dL_law_244 : decode cL_law 244 = .ok (.iaload, 1) := by decide +kernel
theorem dL_law_245 : decode cL_law 245 = .ok (.iadd, 1) := by decide +kernel
theorem dL_law_246 : decode cL_law 246 = .ok (.iconst 2, 1) := by decide +kernel
theorem dL_law_247 : decode cL_law 247 = .ok (.idiv, 1) := by decide +kernel
theorem dL_law_248 : decode cL_law 248 = .ok (.if_icmp .ne 64, 3) := by decide +kernel
theorem dL_law_251 : decode cL_law 251 = .ok (.aload 12, 2) := by decide +kernel
theorem dL_law_253 : decode cL_law 253 = .ok (.iconst 4, 1) := by decide +kernel
theorem dL_law_254 : decode cL_law 254 = .ok (.iaload, 1) := by decide +kernel
theorem dL_law_255 : decode cL_law 255 = .ok (.ifCond .lt 57, 3) := by decide +kernel
theorem dL_law_258 : decode cL_law 258 = .ok (.aload 12, 2) := by decide +kernel
theorem dL_law_260 : decode cL_law 260 = .ok (.iconst 5, 1) := by decide +kernel
theorem dL_law_261 : decode cL_law 261 = .ok (.iaload, 1) := by decide +kernel
theorem dL_law_262 : decode cL_law 262 = .ok (.ifCond .lt 50, 3) := by decide +kernel
theorem dL_law_265 : decode cL_law 265 = .ok (.aload 12, 2) := by decide +kernel
theorem dL_law_267 : decode cL_law 267 = .ok (.iconst 5, 1) := by decide +kernel
theorem dL_law_268 : decode cL_law 268 = .ok (.iaload, 1) := by decide +kernel
theorem dL_law_269 : decode cL_law 269 = .ok (.bipush 9, 2) := by decide +kernel
theorem dL_law_271 : decode cL_law 271 = .ok (.if_icmp .gt 41, 3) := by decide +kernel
theorem dL_law_274 : decode cL_law 274 = .ok (.aload 12, 2) := by decide +kernel
theorem dL_law_276 : decode cL_law 276 = .ok (.bipush 6, 2) := by decide +kernel
theorem dL_law_278 : decode cL_law 278 = .ok (.iaload, 1) := by decide +kernel
theorem dL_law_279 : decode cL_law 279 = .ok (.ifCond .lt 33, 3) := by decide +kernel
theorem dL_law_282 : decode cL_law 282 = .ok (.aload 12, 2) := by decide +kernel
theorem dL_law_284 : decode cL_law 284 = .ok (.bipush 6, 2) := by decide +kernel
theorem dL_law_286 : decode cL_law 286 = .ok (.iaload, 1) := by decide +kernel
theorem dL_law_287 : decode cL_law 287 = .ok (.iconst 2, 1) := by decide +kernel
theorem dL_law_288 : decode cL_law 288 = .ok (.if_icmp .gt 24, 3) := by decide +kernel
theorem dL_law_291 : decode cL_law 291 = .ok (.aload 12, 2) := by decide +kernel
theorem dL_law_293 : decode cL_law 293 = .ok (.bipush 7, 2) := by decide +kernel
theorem dL_law_295 : decode cL_law 295 = .ok (.iaload, 1) := by decide +kernel
theorem dL_law_296 : decode cL_law 296 = .ok (.ifCond .lt 16, 3) := by decide +kernel
theorem dL_law_299 : decode cL_law 299 = .ok (.aload 12, 2) := by decide +kernel
theorem dL_law_301 : decode cL_law 301 = .ok (.bipush 7, 2) := by decide +kernel
theorem dL_law_303 : decode cL_law 303 = .ok (.iaload, 1) := by decide +kernel
theorem dL_law_304 : decode cL_law 304 = .ok (.aload 12, 2) := by decide +kernel
theorem dL_law_306 : decode cL_law 306 = .ok (.bipush 6, 2) := by decide +kernel
theorem dL_law_308 : decode cL_law 308 = .ok (.iaload, 1) := by decide +kernel
theorem dL_law_309 : decode cL_law 309 = .ok (.if_icmp .le 5, 3) := by decide +kernel
theorem dL_law_312 : decode cL_law 312 = .ok (.iconst 0, 1) := by decide +kernel
theorem dL_law_313 : decode cL_law 313 = .ok (.ireturn, 1) := by decide +kernel
theorem dL_law_314 : decode cL_law 314 = .ok (.iload 11, 2) := by decide +kernel
theorem dL_law_316 : decode cL_law 316 = .ok (.bipush 8, 2) := by decide +kernel
theorem dL_law_318 : decode cL_law 318 = .ok (.irem, 1) := by decide +kernel
theorem dL_law_319 : decode cL_law 319 = .ok (.bipush 7, 2) := by decide +kernel
theorem dL_law_321 : decode cL_law 321 = .ok (.if_icmp .ge 64, 3) := by decide +kernel
theorem dL_law_324 : decode cL_law 324 = .ok (.aload 12, 2) := by decide +kernel
theorem dL_law_326 : decode cL_law 326 = .ok (.bipush 6, 2) := by decide +kernel
theorem dL_law_328 : decode cL_law 328 = .ok (.iaload, 1) := by decide +kernel
theorem dL_law_329 : decode cL_law 329 = .ok (.iconst 1, 1) := by decide +kernel
theorem dL_law_330 : decode cL_law 330 = .ok (.if_icmp .ne 55, 3) := by decide +kernel
theorem dL_law_333 : decode cL_law 333 = .ok (.aload_n 1, 1) := by decide +kernel
theorem dL_law_334 : decode cL_law 334 = .ok (.iload 11, 2) := by decide +kernel
theorem dL_law_336 : decode cL_law 336 = .ok (.bipush 8, 2) := by decide +kernel
theorem dL_law_338 : decode cL_law 338 = .ok (.idiv, 1) := by decide +kernel
theorem dL_law_339 : decode cL_law 339 = .ok (.iload 11, 2) := by decide +kernel
theorem dL_law_341 : decode cL_law 341 = .ok (.bipush 8, 2) := by decide +kernel
theorem dL_law_343 : decode cL_law 343 = .ok (.irem, 1) := by decide +kernel
theorem dL_law_344 : decode cL_law 344 = .ok (.iconst 1, 1) := by decide +kernel
theorem dL_law_345 : decode cL_law 345 = .ok (.iadd, 1) := by decide +kernel
theorem dL_law_346 : decode cL_law 346 = .ok (.bipush 6, 2) := by decide +kernel
theorem dL_law_348 : decode cL_law 348 = .ok (.invokevirtual 108, 3) := by decide +kernel
theorem dL_law_351 : decode cL_law 351 = .ok (.iconst 1, 1) := by decide +kernel
theorem dL_law_352 : decode cL_law 352 = .ok (.if_icmp .ne 33, 3) := by decide +kernel
theorem dL_law_355 : decode cL_law 355 = .ok (.aload 12, 2) := by decide +kernel
theorem dL_law_357 : decode cL_law 357 = .ok (.bipush 7, 2) := by decide +kernel
theorem dL_law_359 : decode cL_law 359 = .ok (.iaload, 1) := by decide +kernel
theorem dL_law_360 : decode cL_law 360 = .ok (.aload_n 1, 1) := by decide +kernel
theorem dL_law_361 : decode cL_law 361 = .ok (.iload 11, 2) := by decide +kernel
theorem dL_law_363 : decode cL_law 363 = .ok (.bipush 8, 2) := by decide +kernel
theorem dL_law_365 : decode cL_law 365 = .ok (.idiv, 1) := by decide +kernel
theorem dL_law_366 : decode cL_law 366 = .ok (.iload 11, 2) := by decide +kernel
theorem dL_law_368 : decode cL_law 368 = .ok (.bipush 8, 2) := by decide +kernel
theorem dL_law_370 : decode cL_law 370 = .ok (.irem, 1) := by decide +kernel
theorem dL_law_371 : decode cL_law 371 = .ok (.iconst 1, 1) := by decide +kernel
theorem dL_law_372 : decode cL_law 372 = .ok (.iadd, 1) := by decide +kernel
theorem dL_law_373 : decode cL_law 373 = .ok (.bipush 7, 2) := by decide +kernel
theorem dL_law_375 : decode cL_law 375 = .ok (.invokevirtual 108, 3) := by decide +kernel
theorem dL_law_378 : decode cL_law 378 = .ok (.iadd, 1) := by decide +kernel
theorem dL_law_379 : decode cL_law 379 = .ok (.iconst 1, 1) := by decide +kernel
theorem dL_law_380 : decode cL_law 380 = .ok (.if_icmp .le 5, 3) := by decide +kernel
theorem dL_law_383 : decode cL_law 383 = .ok (.iconst 0, 1) := by decide +kernel
theorem dL_law_384 : decode cL_law 384 = .ok (.ireturn, 1) := by decide +kernel
theorem dL_law_385 : decode cL_law 385 = .ok (.iinc 11 1, 3) := by decide +kernel
theorem dL_law_388 : decode cL_law 388 = .ok (.goto (-280), 3) := by decide +kernel
theorem dL_law_391 : decode cL_law 391 = .ok (.iload 8, 2) := by decide +kernel
theorem dL_law_393 : decode cL_law 393 = .ok (.aload_n 1, 1) := by decide +kernel
theorem dL_law_394 : decode cL_law 394 = .ok (.iconst 2, 1) := by decide +kernel
theorem dL_law_395 : decode cL_law 395 = .ok (.invokevirtual 111, 3) := by decide +kernel
theorem dL_law_398 : decode cL_law 398 = .ok (.if_icmp .ne 48, 3) := by decide +kernel
theorem dL_law_401 : decode cL_law 401 = .ok (.iload 9, 2) := by decide +kernel
theorem dL_law_403 : decode cL_law 403 = .ok (.aload_n 1, 1) := by decide +kernel
theorem dL_law_404 : decode cL_law 404 = .ok (.iconst 3, 1) := by decide +kernel
theorem dL_law_405 : decode cL_law 405 = .ok (.invokevirtual 111, 3) := by decide +kernel
theorem dL_law_408 : decode cL_law 408 = .ok (.if_icmp .ne 38, 3) := by decide +kernel
theorem dL_law_411 : decode cL_law 411 = .ok (.iload 10, 2) := by decide +kernel
theorem dL_law_413 : decode cL_law 413 = .ok (.aload_n 1, 1) := by decide +kernel
theorem dL_law_414 : decode cL_law 414 = .ok (.bipush 8, 2) := by decide +kernel
theorem dL_law_416 : decode cL_law 416 = .ok (.invokevirtual 111, 3) := by decide +kernel
theorem dL_law_419 : decode cL_law 419 = .ok (.if_icmp .ne 27, 3) := by decide +kernel
theorem dL_law_422 : decode cL_law 422 = .ok (.aload_n 1, 1) := by decide +kernel
theorem dL_law_423 : decode cL_law 423 = .ok (.invokevirtual 114, 3) := by decide +kernel
theorem dL_law_426 : decode cL_law 426 = .ok (.iload 8, 2) := by decide +kernel
theorem dL_law_428 : decode cL_law 428 = .ok (.ifCond .ne 7, 3) := by decide +kernel
theorem dL_law_431 : decode cL_law 431 = .ok (.dconst 0, 1) := by decide +kernel
theorem dL_law_432 : decode cL_law 432 = .ok (.goto 10, 3) := by decide +kernel
theorem dL_law_435 : decode cL_law 435 = .ok (.iload 10, 2) := by decide +kernel
theorem dL_law_437 : decode cL_law 437 = .ok (.i2d, 1) := by decide +kernel
theorem dL_law_438 : decode cL_law 438 = .ok (.iload 8, 2) := by decide +kernel
theorem dL_law_440 : decode cL_law 440 = .ok (.i2d, 1) := by decide +kernel
theorem dL_law_441 : decode cL_law 441 = .ok (.ddiv, 1) := by decide +kernel
theorem dL_law_442 : decode cL_law 442 = .ok (.dcmp .l, 1) := by decide +kernel
theorem dL_law_443 : decode cL_law 443 = .ok (.ifCond .eq 5, 3) := by decide +kernel
theorem dL_law_446 : decode cL_law 446 = .ok (.iconst 0, 1) := by decide +kernel
theorem dL_law_447 : decode cL_law 447 = .ok (.ireturn, 1) := by decide +kernel
theorem dL_law_448 : decode cL_law 448 = .ok (.iconst 0, 1) := by decide +kernel
theorem dL_law_449 : decode cL_law 449 = .ok (.istore 11, 2) := by decide +kernel
theorem dL_law_451 : decode cL_law 451 = .ok (.iconst 0, 1) := by decide +kernel
theorem dL_law_452 : decode cL_law 452 = .ok (.istore 12, 2) := by decide +kernel
theorem dL_law_454 : decode cL_law 454 = .ok (.iconst 0, 1) := by decide +kernel
theorem dL_law_455 : decode cL_law 455 = .ok (.istore 13, 2) := by decide +kernel
theorem dL_law_457 : decode cL_law 457 = .ok (.iload 13, 2) := by decide +kernel
theorem dL_law_459 : decode cL_law 459 = .ok (.aload_n 1, 1) := by decide +kernel
theorem dL_law_460 : decode cL_law 460 = .ok (.iconst 1, 1) := by decide +kernel
theorem dL_law_461 : decode cL_law 461 = .ok (.invokevirtual 111, 3) := by decide +kernel
theorem dL_law_464 : decode cL_law 464 = .ok (.if_icmp .ge 75, 3) := by decide +kernel
theorem dL_law_467 : decode cL_law 467 = .ok (.iload 11, 2) := by decide +kernel
theorem dL_law_469 : decode cL_law 469 = .ok (.aload_n 1, 1) := by decide +kernel
theorem dL_law_470 : decode cL_law 470 = .ok (.iload 13, 2) := by decide +kernel
theorem dL_law_472 : decode cL_law 472 = .ok (.iconst 2, 1) := by decide +kernel
theorem dL_law_473 : decode cL_law 473 = .ok (.invokevirtual 118, 3) := by decide +kernel
theorem dL_law_476 : decode cL_law 476 = .ok (.iadd, 1) := by decide +kernel
theorem dL_law_477 : decode cL_law 477 = .ok (.istore 11, 2) := by decide +kernel
theorem dL_law_479 : decode cL_law 479 = .ok (.iload 12, 2) := by decide +kernel
theorem dL_law_481 : decode cL_law 481 = .ok (.aload_n 1, 1) := by decide +kernel
theorem dL_law_482 : decode cL_law 482 = .ok (.iload 13, 2) := by decide +kernel
theorem dL_law_484 : decode cL_law 484 = .ok (.iconst 3, 1) := by decide +kernel
theorem dL_law_485 : decode cL_law 485 = .ok (.invokevirtual 118, 3) := by decide +kernel
theorem dL_law_488 : decode cL_law 488 = .ok (.iadd, 1) := by decide +kernel
theorem dL_law_489 : decode cL_law 489 = .ok (.istore 12, 2) := by decide +kernel
theorem dL_law_491 : decode cL_law 491 = .ok (.aload_n 1, 1) := by decide +kernel
theorem dL_law_492 : decode cL_law 492 = .ok (.iload 13, 2) := by decide +kernel
theorem dL_law_494 : decode cL_law 494 = .ok (.iconst 2, 1) := by decide +kernel
theorem dL_law_495 : decode cL_law 495 = .ok (.invokevirtual 118, 3) := by decide +kernel
theorem dL_law_498 : decode cL_law 498 = .ok (.aload_n 1, 1) := by decide +kernel
theorem dL_law_499 : decode cL_law 499 = .ok (.iload 13, 2) := by decide +kernel
theorem dL_law_501 : decode cL_law 501 = .ok (.iconst 3, 1) := by decide +kernel
theorem dL_law_502 : decode cL_law 502 = .ok (.invokevirtual 118, 3) := by decide +kernel
theorem dL_law_505 : decode cL_law 505 = .ok (.if_icmp .ne 7, 3) := by decide +kernel
theorem dL_law_508 : decode cL_law 508 = .ok (.iconst 1, 1) := by decide +kernel
theorem dL_law_509 : decode cL_law 509 = .ok (.goto 4, 3) := by decide +kernel
theorem dL_law_512 : decode cL_law 512 = .ok (.iconst 0, 1) := by decide +kernel
theorem dL_law_513 : decode cL_law 513 = .ok (.aload_n 1, 1) := by decide +kernel
theorem dL_law_514 : decode cL_law 514 = .ok (.iload 13, 2) := by decide +kernel
theorem dL_law_516 : decode cL_law 516 = .ok (.iconst 4, 1) := by decide +kernel
theorem dL_law_517 : decode cL_law 517 = .ok (.invokevirtual 118, 3) := by decide +kernel
theorem dL_law_520 : decode cL_law 520 = .ok (.ifCond .ge 7, 3) := by decide +kernel
theorem dL_law_523 : decode cL_law 523 = .ok (.iconst 1, 1) := by decide +kernel
theorem dL_law_524 : decode cL_law 524 = .ok (.goto 4, 3) := by decide +kernel
theorem dL_law_527 : decode cL_law 527 = .ok (.iconst 0, 1) := by decide +kernel
theorem dL_law_528 : decode cL_law 528 = .ok (.if_icmp .eq 5, 3) := by decide +kernel
theorem dL_law_531 : decode cL_law 531 = .ok (.iconst 0, 1) := by decide +kernel
theorem dL_law_532 : decode cL_law 532 = .ok (.ireturn, 1) := by decide +kernel
theorem dL_law_533 : decode cL_law 533 = .ok (.iinc 13 1, 3) := by decide +kernel
theorem dL_law_536 : decode cL_law 536 = .ok (.goto (-79), 3) := by decide +kernel
theorem dL_law_539 : decode cL_law 539 = .ok (.iload 11, 2) := by decide +kernel
theorem dL_law_541 : decode cL_law 541 = .ok (.iload 8, 2) := by decide +kernel
theorem dL_law_543 : decode cL_law 543 = .ok (.if_icmp .ne 45, 3) := by decide +kernel
theorem dL_law_546 : decode cL_law 546 = .ok (.iload 12, 2) := by decide +kernel
theorem dL_law_548 : decode cL_law 548 = .ok (.iload 9, 2) := by decide +kernel
theorem dL_law_550 : decode cL_law 550 = .ok (.if_icmp .ne 38, 3) := by decide +kernel
theorem dL_law_553 : decode cL_law 553 = .ok (.aload_n 1, 1) := by decide +kernel
theorem dL_law_554 : decode cL_law 554 = .ok (.iconst 3, 1) := by decide +kernel
theorem dL_law_555 : decode cL_law 555 = .ok (.iconst 2, 1) := by decide +kernel
theorem dL_law_556 : decode cL_law 556 = .ok (.bipush 8, 2) := by decide +kernel
theorem dL_law_558 : decode cL_law 558 = .ok (.invokevirtual 121, 3) := by decide +kernel
theorem dL_law_561 : decode cL_law 561 = .ok (.iload 10, 2) := by decide +kernel
theorem dL_law_563 : decode cL_law 563 = .ok (.if_icmp .gt 25, 3) := by decide +kernel
theorem dL_law_566 : decode cL_law 566 = .ok (.aload_n 1, 1) := by decide +kernel
theorem dL_law_567 : decode cL_law 567 = .ok (.iconst 3, 1) := by decide +kernel
theorem dL_law_568 : decode cL_law 568 = .ok (.iconst 2, 1) := by decide +kernel
theorem dL_law_569 : decode cL_law 569 = .ok (.iconst 3, 1) := by decide +kernel
theorem dL_law_570 : decode cL_law 570 = .ok (.invokevirtual 121, 3) := by decide +kernel
theorem dL_law_573 : decode cL_law 573 = .ok (.iload 9, 2) := by decide +kernel
theorem dL_law_575 : decode cL_law 575 = .ok (.if_icmp .lt 13, 3) := by decide +kernel
theorem dL_law_578 : decode cL_law 578 = .ok (.aload_n 1, 1) := by decide +kernel
theorem dL_law_579 : decode cL_law 579 = .ok (.invokevirtual 103, 3) := by decide +kernel
theorem dL_law_582 : decode cL_law 582 = .ok (.lload 5, 2) := by decide +kernel
theorem dL_law_584 : decode cL_law 584 = .ok (.lcmp, 1) := by decide +kernel
theorem dL_law_585 : decode cL_law 585 = .ok (.ifCond .eq 5, 3) := by decide +kernel
theorem dL_law_588 : decode cL_law 588 = .ok (.iconst 0, 1) := by decide +kernel
theorem dL_law_589 : decode cL_law 589 = .ok (.ireturn, 1) := by decide +kernel
theorem dL_law_590 : decode cL_law 590 = .ok (.iload 4, 2) := by decide +kernel
theorem dL_law_592 : decode cL_law 592 = .ok (.iconst 4, 1) := by decide +kernel
theorem dL_law_593 : decode cL_law 593 = .ok (.ishr, 1) := by decide +kernel
theorem dL_law_594 : decode cL_law 594 = .ok (.iconst 5, 1) := by decide +kernel
theorem dL_law_595 : decode cL_law 595 = .ok (.invokestatic 9, 3) := by decide +kernel
theorem dL_law_598 : decode cL_law 598 = .ok (.istore 13, 2) := by decide +kernel
theorem dL_law_600 : decode cL_law 600 = .ok (.aload_n 1, 1) := by decide +kernel
theorem dL_law_601 : decode cL_law 601 = .ok (.iload 13, 2) := by decide +kernel
theorem dL_law_603 : decode cL_law 603 = .ok (.invokevirtual 55, 3) := by decide +kernel
theorem dL_law_606 : decode cL_law 606 = .ok (.aload_n 1, 1) := by decide +kernel
theorem dL_law_607 : decode cL_law 607 = .ok (.iload 13, 2) := by decide +kernel
theorem dL_law_609 : decode cL_law 609 = .ok (.invokevirtual 55, 3) := by decide +kernel
theorem dL_law_612 : decode cL_law 612 = .ok (.if_icmp .ne 13, 3) := by decide +kernel
theorem dL_law_615 : decode cL_law 615 = .ok (.aload_n 1, 1) := by decide +kernel
theorem dL_law_616 : decode cL_law 616 = .ok (.invokevirtual 103, 3) := by decide +kernel
theorem dL_law_619 : decode cL_law 619 = .ok (.lload 5, 2) := by decide +kernel
theorem dL_law_621 : decode cL_law 621 = .ok (.lcmp, 1) := by decide +kernel
theorem dL_law_622 : decode cL_law 622 = .ok (.ifCond .eq 5, 3) := by decide +kernel
theorem dL_law_625 : decode cL_law 625 = .ok (.iconst 0, 1) := by decide +kernel
theorem dL_law_626 : decode cL_law 626 = .ok (.ireturn, 1) := by decide +kernel
theorem dL_law_627 : decode cL_law 627 = .ok (.iload 4, 2) := by decide +kernel
theorem dL_law_629 : decode cL_law 629 = .ok (.iconst 5, 1) := by decide +kernel
theorem dL_law_630 : decode cL_law 630 = .ok (.ishr, 1) := by decide +kernel
theorem dL_law_631 : decode cL_law 631 = .ok (.bipush 40, 2) := by decide +kernel
theorem dL_law_633 : decode cL_law 633 = .ok (.invokestatic 9, 3) := by decide +kernel
theorem dL_law_636 : decode cL_law 636 = .ok (.istore 14, 2) := by decide +kernel
theorem dL_law_638 : decode cL_law 638 = .ok (.iload 4, 2) := by decide +kernel
theorem dL_law_640 : decode cL_law 640 = .ok (.iconst 3, 1) := by decide +kernel
theorem dL_law_641 : decode cL_law 641 = .ok (.ishr, 1) := by decide +kernel
theorem dL_law_642 : decode cL_law 642 = .ok (.bipush 40, 2) := by decide +kernel
theorem dL_law_644 : decode cL_law 644 = .ok (.invokestatic 9, 3) := by decide +kernel
theorem dL_law_647 : decode cL_law 647 = .ok (.istore 15, 2) := by decide +kernel
theorem dL_law_649 : decode cL_law 649 = .ok (.aload 7, 2) := by decide +kernel
theorem dL_law_651 : decode cL_law 651 = .ok (.iload 14, 2) := by decide +kernel
theorem dL_law_653 : decode cL_law 653 = .ok (.aaload, 1) := by decide +kernel
theorem dL_law_654 : decode cL_law 654 = .ok (.iconst 0, 1) := by decide +kernel
theorem dL_law_655 : decode cL_law 655 = .ok (.iaload, 1) := by decide +kernel
theorem dL_law_656 : decode cL_law 656 = .ok (.ifCond .lt 176, 3) := by decide +kernel
theorem dL_law_659 : decode cL_law 659 = .ok (.aload 7, 2) := by decide +kernel
theorem dL_law_661 : decode cL_law 661 = .ok (.iload 15, 2) := by decide +kernel
theorem dL_law_663 : decode cL_law 663 = .ok (.aaload, 1) := by decide +kernel
theorem dL_law_664 : decode cL_law 664 = .ok (.iconst 0, 1) := by decide +kernel
theorem dL_law_665 : decode cL_law 665 = .ok (.iaload, 1) := by decide +kernel
theorem dL_law_666 : decode cL_law 666 = .ok (.ifCond .ge 166, 3) := by decide +kernel
theorem dL_law_669 : decode cL_law 669 = .ok (.aload_n 1, 1) := by decide +kernel
theorem dL_law_670 : decode cL_law 670 = .ok (.iload 14, 2) := by decide +kernel
theorem dL_law_672 : decode cL_law 672 = .ok (.bipush 8, 2) := by decide +kernel
theorem dL_law_674 : decode cL_law 674 = .ok (.idiv, 1) := by decide +kernel
theorem dL_law_675 : decode cL_law 675 = .ok (.iload 14, 2) := by decide +kernel
theorem dL_law_677 : decode cL_law 677 = .ok (.bipush 8, 2) := by decide +kernel
theorem dL_law_679 : decode cL_law 679 = .ok (.irem, 1) := by decide +kernel
theorem dL_law_680 : decode cL_law 680 = .ok (.iload 15, 2) := by decide +kernel
theorem dL_law_682 : decode cL_law 682 = .ok (.bipush 8, 2) := by decide +kernel
theorem dL_law_684 : decode cL_law 684 = .ok (.idiv, 1) := by decide +kernel
theorem dL_law_685 : decode cL_law 685 = .ok (.iload 15, 2) := by decide +kernel
theorem dL_law_687 : decode cL_law 687 = .ok (.bipush 8, 2) := by decide +kernel
theorem dL_law_689 : decode cL_law 689 = .ok (.irem, 1) := by decide +kernel
theorem dL_law_690 : decode cL_law 690 = .ok (.invokevirtual 48, 3) := by decide +kernel
theorem dL_law_693 : decode cL_law 693 = .ok (.istore 16, 2) := by decide +kernel
theorem dL_law_695 : decode cL_law 695 = .ok (.iload 16, 2) := by decide +kernel
theorem dL_law_697 : decode cL_law 697 = .ok (.aload_n 1, 1) := by decide +kernel
theorem dL_law_698 : decode cL_law 698 = .ok (.iload 15, 2) := by decide +kernel
theorem dL_law_700 : decode cL_law 700 = .ok (.bipush 8, 2) := by decide +kernel
theorem dL_law_702 : decode cL_law 702 = .ok (.idiv, 1) := by decide +kernel
theorem dL_law_703 : decode cL_law 703 = .ok (.iload 15, 2) := by decide +kernel
theorem dL_law_705 : decode cL_law 705 = .ok (.bipush 8, 2) := by decide +kernel
theorem dL_law_707 : decode cL_law 707 = .ok (.irem, 1) := by decide +kernel
theorem dL_law_708 : decode cL_law 708 = .ok (.bipush 6, 2) := by decide +kernel
theorem dL_law_710 : decode cL_law 710 = .ok (.invokevirtual 108, 3) := by decide +kernel
theorem dL_law_713 : decode cL_law 713 = .ok (.if_icmp .ne 117, 3) := by decide +kernel
theorem dL_law_716 : decode cL_law 716 = .ok (.aload_n 1, 1) := by decide +kernel
theorem dL_law_717 : decode cL_law 717 = .ok (.iload 14, 2) := by decide +kernel
theorem dL_law_719 : decode cL_law 719 = .ok (.bipush 8, 2) := by decide +kernel
theorem dL_law_721 : decode cL_law 721 = .ok (.idiv, 1) := by decide +kernel
theorem dL_law_722 : decode cL_law 722 = .ok (.iload 14, 2) := by decide +kernel
theorem dL_law_724 : decode cL_law 724 = .ok (.bipush 8, 2) := by decide +kernel
theorem dL_law_726 : decode cL_law 726 = .ok (.irem, 1) := by decide +kernel
theorem dL_law_727 : decode cL_law 727 = .ok (.iconst 0, 1) := by decide +kernel
theorem dL_law_728 : decode cL_law 728 = .ok (.invokevirtual 108, 3) := by decide +kernel
theorem dL_law_731 : decode cL_law 731 = .ok (.iconst (-1), 1) := by decide +kernel
theorem dL_law_732 : decode cL_law 732 = .ok (.if_icmp .ne 98, 3) := by decide +kernel
theorem dL_law_735 : decode cL_law 735 = .ok (.aload_n 1, 1) := by decide +kernel
theorem dL_law_736 : decode cL_law 736 = .ok (.iload 15, 2) := by decide +kernel
theorem dL_law_738 : decode cL_law 738 = .ok (.bipush 8, 2) := by decide +kernel
theorem dL_law_740 : decode cL_law 740 = .ok (.idiv, 1) := by decide +kernel
theorem dL_law_741 : decode cL_law 741 = .ok (.iload 15, 2) := by decide +kernel
theorem dL_law_743 : decode cL_law 743 = .ok (.bipush 8, 2) := by decide +kernel
theorem dL_law_745 : decode cL_law 745 = .ok (.irem, 1) := by decide +kernel
theorem dL_law_746 : decode cL_law 746 = .ok (.iconst 1, 1) := by decide +kernel
theorem dL_law_747 : decode cL_law 747 = .ok (.invokevirtual 108, 3) := by decide +kernel
theorem dL_law_750 : decode cL_law 750 = .ok (.aload 7, 2) := by decide +kernel
theorem dL_law_752 : decode cL_law 752 = .ok (.iload 14, 2) := by decide +kernel
theorem dL_law_754 : decode cL_law 754 = .ok (.aaload, 1) := by decide +kernel
theorem dL_law_755 : decode cL_law 755 = .ok (.iconst 1, 1) := by decide +kernel
theorem dL_law_756 : decode cL_law 756 = .ok (.iaload, 1) := by decide +kernel
theorem dL_law_757 : decode cL_law 757 = .ok (.if_icmp .ne 73, 3) := by decide +kernel
theorem dL_law_760 : decode cL_law 760 = .ok (.aload_n 1, 1) := by decide +kernel
theorem dL_law_761 : decode cL_law 761 = .ok (.iload 15, 2) := by decide +kernel
theorem dL_law_763 : decode cL_law 763 = .ok (.bipush 8, 2) := by decide +kernel
theorem dL_law_765 : decode cL_law 765 = .ok (.idiv, 1) := by decide +kernel
theorem dL_law_766 : decode cL_law 766 = .ok (.iload 15, 2) := by decide +kernel
theorem dL_law_768 : decode cL_law 768 = .ok (.bipush 8, 2) := by decide +kernel
theorem dL_law_770 : decode cL_law 770 = .ok (.irem, 1) := by decide +kernel
theorem dL_law_771 : decode cL_law 771 = .ok (.iconst 5, 1) := by decide +kernel
theorem dL_law_772 : decode cL_law 772 = .ok (.invokevirtual 108, 3) := by decide +kernel
theorem dL_law_775 : decode cL_law 775 = .ok (.aload 7, 2) := by decide +kernel
theorem dL_law_777 : decode cL_law 777 = .ok (.iload 14, 2) := by decide +kernel
theorem dL_law_779 : decode cL_law 779 = .ok (.aaload, 1) := by decide +kernel
theorem dL_law_780 : decode cL_law 780 = .ok (.iconst 5, 1) := by decide +kernel
theorem dL_law_781 : decode cL_law 781 = .ok (.iaload, 1) := by decide +kernel
theorem dL_law_782 : decode cL_law 782 = .ok (.if_icmp .ne 48, 3) := by decide +kernel
theorem dL_law_785 : decode cL_law 785 = .ok (.aload_n 1, 1) := by decide +kernel
theorem dL_law_786 : decode cL_law 786 = .ok (.iload 15, 2) := by decide +kernel
theorem dL_law_788 : decode cL_law 788 = .ok (.bipush 8, 2) := by decide +kernel
theorem dL_law_790 : decode cL_law 790 = .ok (.idiv, 1) := by decide +kernel
theorem dL_law_791 : decode cL_law 791 = .ok (.iload 15, 2) := by decide +kernel
theorem dL_law_793 : decode cL_law 793 = .ok (.bipush 8, 2) := by decide +kernel
theorem dL_law_795 : decode cL_law 795 = .ok (.irem, 1) := by decide +kernel
theorem dL_law_796 : decode cL_law 796 = .ok (.iload 14, 2) := by decide +kernel
theorem dL_law_798 : decode cL_law 798 = .ok (.bipush 8, 2) := by decide +kernel
theorem dL_law_800 : decode cL_law 800 = .ok (.idiv, 1) := by decide +kernel
theorem dL_law_801 : decode cL_law 801 = .ok (.iload 14, 2) := by decide +kernel
theorem dL_law_803 : decode cL_law 803 = .ok (.bipush 8, 2) := by decide +kernel
theorem dL_law_805 : decode cL_law 805 = .ok (.irem, 1) := by decide +kernel
theorem dL_law_806 : decode cL_law 806 = .ok (.invokevirtual 48, 3) := by decide +kernel
theorem dL_law_809 : decode cL_law 809 = .ok (.aload 7, 2) := by decide +kernel
theorem dL_law_811 : decode cL_law 811 = .ok (.iload 14, 2) := by decide +kernel
theorem dL_law_813 : decode cL_law 813 = .ok (.aaload, 1) := by decide +kernel
theorem dL_law_814 : decode cL_law 814 = .ok (.bipush 6, 2) := by decide +kernel
theorem dL_law_816 : decode cL_law 816 = .ok (.iaload, 1) := by decide +kernel
theorem dL_law_817 : decode cL_law 817 = .ok (.if_icmp .ne 13, 3) := by decide +kernel
theorem dL_law_820 : decode cL_law 820 = .ok (.aload_n 1, 1) := by decide +kernel
theorem dL_law_821 : decode cL_law 821 = .ok (.invokevirtual 103, 3) := by decide +kernel
theorem dL_law_824 : decode cL_law 824 = .ok (.lload 5, 2) := by decide +kernel
theorem dL_law_826 : decode cL_law 826 = .ok (.lcmp, 1) := by decide +kernel
theorem dL_law_827 : decode cL_law 827 = .ok (.ifCond .eq 5, 3) := by decide +kernel
theorem dL_law_830 : decode cL_law 830 = .ok (.iconst 0, 1) := by decide +kernel
theorem dL_law_831 : decode cL_law 831 = .ok (.ireturn, 1) := by decide +kernel
theorem dL_law_832 : decode cL_law 832 = .ok (.iload 4, 2) := by decide +kernel
theorem dL_law_834 : decode cL_law 834 = .ok (.bipush 6, 2) := by decide +kernel
theorem dL_law_836 : decode cL_law 836 = .ok (.ishr, 1) := by decide +kernel
theorem dL_law_837 : decode cL_law 837 = .ok (.bipush 10, 2) := by decide +kernel
theorem dL_law_839 : decode cL_law 839 = .ok (.invokestatic 9, 3) := by decide +kernel
theorem dL_law_842 : decode cL_law 842 = .ok (.istore 16, 2) := by decide +kernel
theorem dL_law_844 : decode cL_law 844 = .ok (.aload_n 1, 1) := by decide +kernel
theorem dL_law_845 : decode cL_law 845 = .ok (.iconst 1, 1) := by decide +kernel
theorem dL_law_846 : decode cL_law 846 = .ok (.iload 16, 2) := by decide +kernel
theorem dL_law_848 : decode cL_law 848 = .ok (.iconst 3, 1) := by decide +kernel
theorem dL_law_849 : decode cL_law 849 = .ok (.invokevirtual 121, 3) := by decide +kernel
theorem dL_law_852 : decode cL_law 852 = .ok (.istore 17, 2) := by decide +kernel
theorem dL_law_854 : decode cL_law 854 = .ok (.aload_n 1, 1) := by decide +kernel
theorem dL_law_855 : decode cL_law 855 = .ok (.iconst 1, 1) := by decide +kernel
theorem dL_law_856 : decode cL_law 856 = .ok (.iload 16, 2) := by decide +kernel
theorem dL_law_858 : decode cL_law 858 = .ok (.invokevirtual 83, 3) := by decide +kernel
theorem dL_law_861 : decode cL_law 861 = .ok (.iload 17, 2) := by decide +kernel
theorem dL_law_863 : decode cL_law 863 = .ok (.if_icmp .eq 5, 3) := by decide +kernel
theorem dL_law_866 : decode cL_law 866 = .ok (.iconst 0, 1) := by decide +kernel
theorem dL_law_867 : decode cL_law 867 = .ok (.ireturn, 1) := by decide +kernel
theorem dL_law_868 : decode cL_law 868 = .ok (.aload_n 2, 1) := by decide +kernel
theorem dL_law_869 : decode cL_law 869 = .ok (.iload 16, 2) := by decide +kernel
theorem dL_law_871 : decode cL_law 871 = .ok (.invokevirtual 80, 3) := by decide +kernel
theorem dL_law_874 : decode cL_law 874 = .ok (.iconst 0, 1) := by decide +kernel
theorem dL_law_875 : decode cL_law 875 = .ok (.istore 18, 2) := by decide +kernel
theorem dL_law_877 : decode cL_law 877 = .ok (.iload 18, 2) := by decide +kernel
theorem dL_law_879 : decode cL_law 879 = .ok (.bipush 40, 2) := by decide +kernel
theorem dL_law_881 : decode cL_law 881 = .ok (.if_icmp .ge 287, 3) := by decide +kernel
theorem dL_law_884 : decode cL_law 884 = .ok (.aload 7, 2) := by decide +kernel
theorem dL_law_886 : decode cL_law 886 = .ok (.iload 18, 2) := by decide +kernel
theorem dL_law_888 : decode cL_law 888 = .ok (.aaload, 1) := by decide +kernel
theorem dL_law_889 : decode cL_law 889 = .ok (.astore 19, 2) := by decide +kernel
theorem dL_law_891 : decode cL_law 891 = .ok (.bipush 6, 2) := by decide +kernel
theorem dL_law_893 : decode cL_law 893 = .ok (.newarray .int, 2) := by decide +kernel
theorem dL_law_895 : decode cL_law 895 = .ok (.astore 20, 2) := by decide +kernel
theorem dL_law_897 : decode cL_law 897 = .ok (.iconst 0, 1) := by decide +kernel
theorem dL_law_898 : decode cL_law 898 = .ok (.istore 21, 2) := by decide +kernel
theorem dL_law_900 : decode cL_law 900 = .ok (.iload 21, 2) := by decide +kernel
theorem dL_law_902 : decode cL_law 902 = .ok (.bipush 6, 2) := by decide +kernel
theorem dL_law_904 : decode cL_law 904 = .ok (.if_icmp .ge 30, 3) := by decide +kernel
theorem dL_law_907 : decode cL_law 907 = .ok (.aload 20, 2) := by decide +kernel
theorem dL_law_909 : decode cL_law 909 = .ok (.iload 21, 2) := by decide +kernel
theorem dL_law_911 : decode cL_law 911 = .ok (.aload_n 1, 1) := by decide +kernel
theorem dL_law_912 : decode cL_law 912 = .ok (.iload 18, 2) := by decide +kernel
theorem dL_law_914 : decode cL_law 914 = .ok (.bipush 8, 2) := by decide +kernel
theorem dL_law_916 : decode cL_law 916 = .ok (.idiv, 1) := by decide +kernel
theorem dL_law_917 : decode cL_law 917 = .ok (.iload 18, 2) := by decide +kernel
theorem dL_law_919 : decode cL_law 919 = .ok (.bipush 8, 2) := by decide +kernel
theorem dL_law_921 : decode cL_law 921 = .ok (.irem, 1) := by decide +kernel
theorem dL_law_922 : decode cL_law 922 = .ok (.iload 21, 2) := by decide +kernel
theorem dL_law_924 : decode cL_law 924 = .ok (.invokevirtual 108, 3) := by decide +kernel
theorem dL_law_927 : decode cL_law 927 = .ok (.iastore, 1) := by decide +kernel
theorem dL_law_928 : decode cL_law 928 = .ok (.iinc 21 1, 3) := by decide +kernel
theorem dL_law_931 : decode cL_law 931 = .ok (.goto (-31), 3) := by decide +kernel
theorem dL_law_934 : decode cL_law 934 = .ok (.aload 20, 2) := by decide +kernel
theorem dL_law_936 : decode cL_law 936 = .ok (.iconst 0, 1) := by decide +kernel
theorem dL_law_937 : decode cL_law 937 = .ok (.iaload, 1) := by decide +kernel
theorem dL_law_938 : decode cL_law 938 = .ok (.aload 19, 2) := by decide +kernel
theorem dL_law_940 : decode cL_law 940 = .ok (.iconst 0, 1) := by decide +kernel
theorem dL_law_941 : decode cL_law 941 = .ok (.iaload, 1) := by decide +kernel
theorem dL_law_942 : decode cL_law 942 = .ok (.if_icmp .eq 5, 3) := by decide +kernel
theorem dL_law_945 : decode cL_law 945 = .ok (.iconst 0, 1) := by decide +kernel
theorem dL_law_946 : decode cL_law 946 = .ok (.ireturn, 1) := by decide +kernel
theorem dL_law_947 : decode cL_law 947 = .ok (.aload 19, 2) := by decide +kernel
theorem dL_law_949 : decode cL_law 949 = .ok (.iconst 0, 1) := by decide +kernel
theorem dL_law_950 : decode cL_law 950 = .ok (.iaload, 1) := by decide +kernel
theorem dL_law_951 : decode cL_law 951 = .ok (.ifCond .ge 6, 3) := by decide +kernel
theorem dL_law_954 : decode cL_law 954 = .ok (.goto 208, 3) := by decide +kernel
theorem dL_law_957 : decode cL_law 957 = .ok (.iload 18, 2) := by decide +kernel
theorem dL_law_959 : decode cL_law 959 = .ok (.bipush 8, 2) := by decide +kernel
theorem dL_law_961 : decode cL_law 961 = .ok (.irem, 1) := by decide +kernel
theorem dL_law_962 : decode cL_law 962 = .ok (.ifCond .le 16, 3) := by decide +kernel
theorem dL_law_965 : decode cL_law 965 = .ok (.aload 7, 2) := by decide +kernel
theorem dL_law_967 : decode cL_law 967 = .ok (.iload 18, 2) := by decide +kernel
theorem dL_law_969 : decode cL_law 969 = .ok (.iconst 1, 1) := by decide +kernel
theorem dL_law_970 : decode cL_law 970 = .ok (.isub, 1) := by decide +kernel
theorem dL_law_971 : decode cL_law 971 = .ok (.aaload, 1) := by decide +kernel
theorem dL_law_972 : decode cL_law 972 = .ok (.iconst 5, 1) := by decide +kernel
theorem dL_law_973 : decode cL_law 973 = .ok (.iaload, 1) := by decide +kernel
theorem dL_law_974 : decode cL_law 974 = .ok (.iconst 2, 1) := by decide +kernel
theorem dL_law_975 : decode cL_law 975 = .ok (.if_icmp .gt 26, 3) := by decide +kernel
theorem dL_law_978 : decode cL_law 978 = .ok (.iload 18, 2) := by decide +kernel
theorem dL_law_980 : decode cL_law 980 = .ok (.bipush 8, 2) := by decide +kernel
theorem dL_law_982 : decode cL_law 982 = .ok (.irem, 1) := by decide +kernel
theorem dL_law_983 : decode cL_law 983 = .ok (.bipush 7, 2) := by decide +kernel
theorem dL_law_985 : decode cL_law 985 = .ok (.if_icmp .ge 20, 3) := by decide +kernel
theorem dL_law_988 : decode cL_law 988 = .ok (.aload 7, 2) := by decide +kernel
theorem dL_law_990 : decode cL_law 990 = .ok (.iload 18, 2) := by decide +kernel
theorem dL_law_992 : decode cL_law 992 = .ok (.iconst 1, 1) := by decide +kernel
theorem dL_law_993 : decode cL_law 993 = .ok (.iadd, 1) := by decide +kernel
theorem dL_law_994 : decode cL_law 994 = .ok (.aaload, 1) := by decide +kernel
theorem dL_law_995 : decode cL_law 995 = .ok (.iconst 5, 1) := by decide +kernel
theorem dL_law_996 : decode cL_law 996 = .ok (.iaload, 1) := by decide +kernel
theorem dL_law_997 : decode cL_law 997 = .ok (.iconst 2, 1) := by decide +kernel
theorem dL_law_998 : decode cL_law 998 = .ok (.if_icmp .le 7, 3) := by decide +kernel
theorem dL_law_1001 : decode cL_law 1001 = .ok (.iconst 1, 1) := by decide +kernel
theorem dL_law_1002 : decode cL_law 1002 = .ok (.goto 4, 3) := by decide +kernel
theorem dL_law_1005 : decode cL_law 1005 = .ok (.iconst 0, 1) := by decide +kernel
theorem dL_law_1006 : decode cL_law 1006 = .ok (.istore 21, 2) := by decide +kernel
theorem dL_law_1008 : decode cL_law 1008 = .ok (.aload 20, 2) := by decide +kernel
theorem dL_law_1010 : decode cL_law 1010 = .ok (.iconst 1, 1) := by decide +kernel
theorem dL_law_1011 : decode cL_law 1011 = .ok (.iaload, 1) := by decide +kernel
theorem dL_law_1012 : decode cL_law 1012 = .ok (.aload 19, 2) := by decide +kernel
theorem dL_law_1014 : decode cL_law 1014 = .ok (.iconst 1, 1) := by decide +kernel
theorem dL_law_1015 : decode cL_law 1015 = .ok (.iaload, 1) := by decide +kernel
theorem dL_law_1016 : decode cL_law 1016 = .ok (.if_icmp .gt 144, 3) := by decide +kernel
theorem dL_law_1019 : decode cL_law 1019 = .ok (.aload 20, 2) := by decide +kernel
theorem dL_law_1021 : decode cL_law 1021 = .ok (.iconst 2, 1) := by decide +kernel
theorem dL_law_1022 : decode cL_law 1022 = .ok (.iaload, 1) := by decide +kernel
theorem dL_law_1023 : decode cL_law 1023 = .ok (.aload 19, 2) := by decide +kernel
theorem dL_law_1025 : decode cL_law 1025 = .ok (.iconst 2, 1) := by decide +kernel
theorem dL_law_1026 : decode cL_law 1026 = .ok (.iaload, 1) := by decide +kernel
theorem dL_law_1027 : decode cL_law 1027 = .ok (.if_icmp .gt 133, 3) := by decide +kernel
theorem dL_law_1030 : decode cL_law 1030 = .ok (.aload 20, 2) := by decide +kernel
theorem dL_law_1032 : decode cL_law 1032 = .ok (.iconst 5, 1) := by decide +kernel
theorem dL_law_1033 : decode cL_law 1033 = .ok (.iaload, 1) := by decide +kernel
theorem dL_law_1034 : decode cL_law 1034 = .ok (.aload 19, 2) := by decide +kernel
theorem dL_law_1036 : decode cL_law 1036 = .ok (.iconst 5, 1) := by decide +kernel
theorem dL_law_1037 : decode cL_law 1037 = .ok (.iaload, 1) := by decide +kernel
theorem dL_law_1038 : decode cL_law 1038 = .ok (.if_icmp .lt 122, 3) := by decide +kernel
theorem dL_law_1041 : decode cL_law 1041 = .ok (.aload 20, 2) := by decide +kernel
theorem dL_law_1043 : decode cL_law 1043 = .ok (.iconst 5, 1) := by decide +kernel
theorem dL_law_1044 : decode cL_law 1044 = .ok (.iaload, 1) := by decide +kernel
theorem dL_law_1045 : decode cL_law 1045 = .ok (.aload 19, 2) := by decide +kernel
theorem dL_law_1047 : decode cL_law 1047 = .ok (.iconst 5, 1) := by decide +kernel
theorem dL_law_1048 : decode cL_law 1048 = .ok (.iaload, 1) := by decide +kernel
theorem dL_law_1049 : decode cL_law 1049 = .ok (.iconst 1, 1) := by decide +kernel
theorem dL_law_1050 : decode cL_law 1050 = .ok (.iadd, 1) := by decide +kernel
theorem dL_law_1051 : decode cL_law 1051 = .ok (.if_icmp .gt 109, 3) := by decide +kernel
theorem dL_law_1054 : decode cL_law 1054 = .ok (.aload 20, 2) := by decide +kernel
theorem dL_law_1056 : decode cL_law 1056 = .ok (.iconst 4, 1) := by decide +kernel
theorem dL_law_1057 : decode cL_law 1057 = .ok (.iaload, 1) := by decide +kernel
theorem dL_law_1058 : decode cL_law 1058 = .ok (.ifCond .eq 16, 3) := by decide +kernel
theorem dL_law_1061 : decode cL_law 1061 = .ok (.aload 20, 2) := by decide +kernel
theorem dL_law_1063 : decode cL_law 1063 = .ok (.iconst 4, 1) := by decide +kernel
theorem dL_law_1064 : decode cL_law 1064 = .ok (.iaload, 1) := by decide +kernel
theorem dL_law_1065 : decode cL_law 1065 = .ok (.aload 19, 2) := by decide +kernel
theorem dL_law_1067 : decode cL_law 1067 = .ok (.iconst 4, 1) := by decide +kernel
theorem dL_law_1068 : decode cL_law 1068 = .ok (.iaload, 1) := by decide +kernel
theorem dL_law_1069 : decode cL_law 1069 = .ok (.iconst 1, 1) := by decide +kernel
theorem dL_law_1070 : decode cL_law 1070 = .ok (.iadd, 1) := by decide +kernel
theorem dL_law_1071 : decode cL_law 1071 = .ok (.if_icmp .ne 89, 3) := by decide +kernel
theorem dL_law_1074 : decode cL_law 1074 = .ok (.aload 20, 2) := by decide +kernel
theorem dL_law_1076 : decode cL_law 1076 = .ok (.iconst 5, 1) := by decide +kernel
theorem dL_law_1077 : decode cL_law 1077 = .ok (.iaload, 1) := by decide +kernel
theorem dL_law_1078 : decode cL_law 1078 = .ok (.aload 19, 2) := by decide +kernel
theorem dL_law_1080 : decode cL_law 1080 = .ok (.iconst 5, 1) := by decide +kernel
theorem dL_law_1081 : decode cL_law 1081 = .ok (.iaload, 1) := by decide +kernel
theorem dL_law_1082 : decode cL_law 1082 = .ok (.if_icmp .le 23, 3) := by decide +kernel
theorem dL_law_1085 : decode cL_law 1085 = .ok (.aload 20, 2) := by decide +kernel
theorem dL_law_1087 : decode cL_law 1087 = .ok (.iconst 4, 1) := by decide +kernel
theorem dL_law_1088 : decode cL_law 1088 = .ok (.iaload, 1) := by decide +kernel
theorem dL_law_1089 : decode cL_law 1089 = .ok (.iconst 3, 1) := by decide +kernel
theorem dL_law_1090 : decode cL_law 1090 = .ok (.if_icmp .ge 15, 3) := by decide +kernel
theorem dL_law_1093 : decode cL_law 1093 = .ok (.aload 19, 2) := by decide +kernel
theorem dL_law_1095 : decode cL_law 1095 = .ok (.iconst 5, 1) := by decide +kernel
theorem dL_law_1096 : decode cL_law 1096 = .ok (.iaload, 1) := by decide +kernel
theorem dL_law_1097 : decode cL_law 1097 = .ok (.ifCond .ne 63, 3) := by decide +kernel
theorem dL_law_1100 : decode cL_law 1100 = .ok (.iload 21, 2) := by decide +kernel
theorem dL_law_1102 : decode cL_law 1102 = .ok (.ifCond .eq 58, 3) := by decide +kernel
theorem dL_law_1105 : decode cL_law 1105 = .ok (.aload 19, 2) := by decide +kernel
theorem dL_law_1107 : decode cL_law 1107 = .ok (.iconst 5, 1) := by decide +kernel
theorem dL_law_1108 : decode cL_law 1108 = .ok (.iaload, 1) := by decide +kernel
theorem dL_law_1109 : decode cL_law 1109 = .ok (.ifCond .ne 15, 3) := by decide +kernel
theorem dL_law_1112 : decode cL_law 1112 = .ok (.iload 21, 2) := by decide +kernel
theorem dL_law_1114 : decode cL_law 1114 = .ok (.ifCond .eq 10, 3) := by decide +kernel
theorem dL_law_1117 : decode cL_law 1117 = .ok (.aload 20, 2) := by decide +kernel
theorem dL_law_1119 : decode cL_law 1119 = .ok (.iconst 5, 1) := by decide +kernel
theorem dL_law_1120 : decode cL_law 1120 = .ok (.iaload, 1) := by decide +kernel
theorem dL_law_1121 : decode cL_law 1121 = .ok (.ifCond .eq 39, 3) := by decide +kernel
theorem dL_law_1124 : decode cL_law 1124 = .ok (.aload 20, 2) := by decide +kernel
theorem dL_law_1126 : decode cL_law 1126 = .ok (.iconst 4, 1) := by decide +kernel
theorem dL_law_1127 : decode cL_law 1127 = .ok (.iaload, 1) := by decide +kernel
theorem dL_law_1128 : decode cL_law 1128 = .ok (.ifCond .le 7, 3) := by decide +kernel
theorem dL_law_1131 : decode cL_law 1131 = .ok (.iconst 1, 1) := by decide +kernel
theorem dL_law_1132 : decode cL_law 1132 = .ok (.goto 4, 3) := by decide +kernel
theorem dL_law_1135 : decode cL_law 1135 = .ok (.iconst 0, 1) := by decide +kernel
theorem dL_law_1136 : decode cL_law 1136 = .ok (.aload 20, 2) := by decide +kernel
theorem dL_law_1138 : decode cL_law 1138 = .ok (.iconst 3, 1) := by decide +kernel
theorem dL_law_1139 : decode cL_law 1139 = .ok (.iaload, 1) := by decide +kernel
theorem dL_law_1140 : decode cL_law 1140 = .ok (.aload_n 1, 1) := by decide +kernel
theorem dL_law_1141 : decode cL_law 1141 = .ok (.aload 19, 2) := by decide +kernel
theorem dL_law_1143 : decode cL_law 1143 = .ok (.iconst 0, 1) := by decide +kernel
theorem dL_law_1144 : decode cL_law 1144 = .ok (.iaload, 1) := by decide +kernel
theorem dL_law_1145 : decode cL_law 1145 = .ok (.iconst 1, 1) := by decide +kernel
theorem dL_law_1146 : decode cL_law 1146 = .ok (.invokevirtual 118, 3) := by decide +kernel
theorem dL_law_1149 : decode cL_law 1149 = .ok (.if_icmp .le 7, 3) := by decide +kernel
theorem dL_law_1152 : decode cL_law 1152 = .ok (.iconst 1, 1) := by decide +kernel
theorem dL_law_1153 : decode cL_law 1153 = .ok (.goto 4, 3) := by decide +kernel
theorem dL_law_1156 : decode cL_law 1156 = .ok (.iconst 0, 1) := by decide +kernel
theorem dL_law_1157 : decode cL_law 1157 = .ok (.if_icmp .eq 5, 3) := by decide +kernel
theorem dL_law_1160 : decode cL_law 1160 = .ok (.iconst 0, 1) := by decide +kernel
theorem dL_law_1161 : decode cL_law 1161 = .ok (.ireturn, 1) := by decide +kernel
theorem dL_law_1162 : decode cL_law 1162 = .ok (.iinc 18 1, 3) := by decide +kernel
theorem dL_law_1165 : decode cL_law 1165 = .ok (.goto (-288), 3) := by decide +kernel
theorem dL_law_1168 : decode cL_law 1168 = .ok (.aload_n 1, 1) := by decide +kernel
theorem dL_law_1169 : decode cL_law 1169 = .ok (.invokevirtual 103, 3) := by decide +kernel
theorem dL_law_1172 : decode cL_law 1172 = .ok (.lstore 5, 2) := by decide +kernel
theorem dL_law_1174 : decode cL_law 1174 = .ok (.iconst 0, 1) := by decide +kernel
theorem dL_law_1175 : decode cL_law 1175 = .ok (.istore 18, 2) := by decide +kernel
theorem dL_law_1177 : decode cL_law 1177 = .ok (.iconst 0, 1) := by decide +kernel
theorem dL_law_1178 : decode cL_law 1178 = .ok (.istore 19, 2) := by decide +kernel
theorem dL_law_1180 : decode cL_law 1180 = .ok (.iconst 0, 1) := by decide +kernel
theorem dL_law_1181 : decode cL_law 1181 = .ok (.istore 20, 2) := by decide +kernel
theorem dL_law_1183 : decode cL_law 1183 = .ok (.iload 20, 2) := by decide +kernel
theorem dL_law_1185 : decode cL_law 1185 = .ok (.aload_n 1, 1) := by decide +kernel
theorem dL_law_1186 : decode cL_law 1186 = .ok (.iconst 4, 1) := by decide +kernel
theorem dL_law_1187 : decode cL_law 1187 = .ok (.invokevirtual 111, 3) := by decide +kernel
theorem dL_law_1190 : decode cL_law 1190 = .ok (.if_icmp .ge 95, 3) := by decide +kernel
theorem dL_law_1193 : decode cL_law 1193 = .ok (.iload 18, 2) := by decide +kernel
theorem dL_law_1195 : decode cL_law 1195 = .ok (.aload_n 1, 1) := by decide +kernel
theorem dL_law_1196 : decode cL_law 1196 = .ok (.iload 20, 2) := by decide +kernel
theorem dL_law_1198 : decode cL_law 1198 = .ok (.iconst 1, 1) := by decide +kernel
theorem dL_law_1199 : decode cL_law 1199 = .ok (.invokevirtual 124, 3) := by decide +kernel
theorem dL_law_1202 : decode cL_law 1202 = .ok (.aload_n 1, 1) := by decide +kernel
theorem dL_law_1203 : decode cL_law 1203 = .ok (.iload 20, 2) := by decide +kernel
theorem dL_law_1205 : decode cL_law 1205 = .ok (.iconst 3, 1) := by decide +kernel
theorem dL_law_1206 : decode cL_law 1206 = .ok (.invokevirtual 124, 3) := by decide +kernel
theorem dL_law_1209 : decode cL_law 1209 = .ok (.isub, 1) := by decide +kernel
theorem dL_law_1210 : decode cL_law 1210 = .ok (.iadd, 1) := by decide +kernel
theorem dL_law_1211 : decode cL_law 1211 = .ok (.istore 18, 2) := by decide +kernel
theorem dL_law_1213 : decode cL_law 1213 = .ok (.iload 19, 2) := by decide +kernel
theorem dL_law_1215 : decode cL_law 1215 = .ok (.aload_n 1, 1) := by decide +kernel
theorem dL_law_1216 : decode cL_law 1216 = .ok (.iload 20, 2) := by decide +kernel
theorem dL_law_1218 : decode cL_law 1218 = .ok (.iconst 4, 1) := by decide +kernel
theorem dL_law_1219 : decode cL_law 1219 = .ok (.invokevirtual 124, 3) := by decide +kernel
theorem dL_law_1222 : decode cL_law 1222 = .ok (.iadd, 1) := by decide +kernel
theorem dL_law_1223 : decode cL_law 1223 = .ok (.istore 19, 2) := by decide +kernel
theorem dL_law_1225 : decode cL_law 1225 = .ok (.aload_n 1, 1) := by decide +kernel
theorem dL_law_1226 : decode cL_law 1226 = .ok (.iload 20, 2) := by decide +kernel
theorem dL_law_1228 : decode cL_law 1228 = .ok (.iconst 3, 1) := by decide +kernel
theorem dL_law_1229 : decode cL_law 1229 = .ok (.invokevirtual 124, 3) := by decide +kernel
theorem dL_law_1232 : decode cL_law 1232 = .ok (.aload_n 1, 1) := by decide +kernel
theorem dL_law_1233 : decode cL_law 1233 = .ok (.iload 20, 2) := by decide +kernel
theorem dL_law_1235 : decode cL_law 1235 = .ok (.iconst 1, 1) := by decide +kernel
theorem dL_law_1236 : decode cL_law 1236 = .ok (.invokevirtual 124, 3) := by decide +kernel
theorem dL_law_1239 : decode cL_law 1239 = .ok (.if_icmp .gt 38, 3) := by decide +kernel
theorem dL_law_1242 : decode cL_law 1242 = .ok (.aload_n 1, 1) := by decide +kernel
theorem dL_law_1243 : decode cL_law 1243 = .ok (.iload 20, 2) := by decide +kernel
theorem dL_law_1245 : decode cL_law 1245 = .ok (.iconst 4, 1) := by decide +kernel
theorem dL_law_1246 : decode cL_law 1246 = .ok (.invokevirtual 124, 3) := by decide +kernel
theorem dL_law_1249 : decode cL_law 1249 = .ok (.aload_n 1, 1) := by decide +kernel
theorem dL_law_1250 : decode cL_law 1250 = .ok (.aload_n 1, 1) := by decide +kernel
theorem dL_law_1251 : decode cL_law 1251 = .ok (.iload 20, 2) := by decide +kernel
theorem dL_law_1253 : decode cL_law 1253 = .ok (.iconst 0, 1) := by decide +kernel
theorem dL_law_1254 : decode cL_law 1254 = .ok (.invokevirtual 124, 3) := by decide +kernel
theorem dL_law_1257 : decode cL_law 1257 = .ok (.iconst 2, 1) := by decide +kernel
theorem dL_law_1258 : decode cL_law 1258 = .ok (.invokevirtual 118, 3) := by decide +kernel
theorem dL_law_1261 : decode cL_law 1261 = .ok (.aload_n 1, 1) := by decide +kernel
theorem dL_law_1262 : decode cL_law 1262 = .ok (.aload_n 1, 1) := by decide +kernel
theorem dL_law_1263 : decode cL_law 1263 = .ok (.iload 20, 2) := by decide +kernel
theorem dL_law_1265 : decode cL_law 1265 = .ok (.iconst 0, 1) := by decide +kernel
theorem dL_law_1266 : decode cL_law 1266 = .ok (.invokevirtual 124, 3) := by decide +kernel
theorem dL_law_1269 : decode cL_law 1269 = .ok (.iconst 3, 1) := by decide +kernel
theorem dL_law_1270 : decode cL_law 1270 = .ok (.invokevirtual 118, 3) := by decide +kernel
theorem dL_law_1273 : decode cL_law 1273 = .ok (.isub, 1) := by decide +kernel
theorem dL_law_1274 : decode cL_law 1274 = .ok (.if_icmp .le 5, 3) := by decide +kernel
theorem dL_law_1277 : decode cL_law 1277 = .ok (.iconst 0, 1) := by decide +kernel
theorem dL_law_1278 : decode cL_law 1278 = .ok (.ireturn, 1) := by decide +kernel
theorem dL_law_1279 : decode cL_law 1279 = .ok (.iinc 20 1, 3) := by decide +kernel
theorem dL_law_1282 : decode cL_law 1282 = .ok (.goto (-99), 3) := by decide +kernel
theorem dL_law_1285 : decode cL_law 1285 = .ok (.aload_n 1, 1) := by decide +kernel
theorem dL_law_1286 : decode cL_law 1286 = .ok (.iconst 2, 1) := by decide +kernel
theorem dL_law_1287 : decode cL_law 1287 = .ok (.invokevirtual 111, 3) := by decide +kernel
theorem dL_law_1290 : decode cL_law 1290 = .ok (.istore 20, 2) := by decide +kernel
theorem dL_law_1292 : decode cL_law 1292 = .ok (.aload_n 1, 1) := by decide +kernel
theorem dL_law_1293 : decode cL_law 1293 = .ok (.bipush 6, 2) := by decide +kernel
theorem dL_law_1295 : decode cL_law 1295 = .ok (.invokevirtual 111, 3) := by decide +kernel
theorem dL_law_1298 : decode cL_law 1298 = .ok (.istore 21, 2) := by decide +kernel
theorem dL_law_1300 : decode cL_law 1300 = .ok (.iload 4, 2) := by decide +kernel
theorem dL_law_1302 : decode cL_law 1302 = .ok (.bipush 7, 2) := by decide +kernel
theorem dL_law_1304 : decode cL_law 1304 = .ok (.ishr, 1) := by decide +kernel
theorem dL_law_1305 : decode cL_law 1305 = .ok (.iconst 3, 1) := by decide +kernel
theorem dL_law_1306 : decode cL_law 1306 = .ok (.invokestatic 9, 3) := by decide +kernel
theorem dL_law_1309 : decode cL_law 1309 = .ok (.ifCond .le 6, 3) := by decide +kernel
theorem dL_law_1312 : decode cL_law 1312 = .ok (.goto 131, 3) := by decide +kernel
theorem dL_law_1315 : decode cL_law 1315 = .ok (.aload_n 1, 1) := by decide +kernel
theorem dL_law_1316 : decode cL_law 1316 = .ok (.invokevirtual 75, 3) := by decide +kernel
theorem dL_law_1319 : decode cL_law 1319 = .ok (.istore 22, 2) := by decide +kernel
theorem dL_law_1321 : decode cL_law 1321 = .ok (.aload_n 2, 1) := by decide +kernel
theorem dL_law_1322 : decode cL_law 1322 = .ok (.invokevirtual 79, 3) := by decide +kernel
theorem dL_law_1325 : decode cL_law 1325 = .ok (.iload 22, 2) := by decide +kernel
theorem dL_law_1327 : decode cL_law 1327 = .ok (.if_icmp .ne 66, 3) := by decide +kernel
theorem dL_law_1330 : decode cL_law 1330 = .ok (.iload 22, 2) := by decide +kernel
theorem dL_law_1332 : decode cL_law 1332 = .ok (.iload 18, 2) := by decide +kernel
theorem dL_law_1334 : decode cL_law 1334 = .ok (.if_icmp .gt 59, 3) := by decide +kernel
theorem dL_law_1337 : decode cL_law 1337 = .ok (.iload 22, 2) := by decide +kernel
theorem dL_law_1339 : decode cL_law 1339 = .ok (.iload 19, 2) := by decide +kernel
theorem dL_law_1341 : decode cL_law 1341 = .ok (.if_icmp .gt 52, 3) := by decide +kernel
theorem dL_law_1344 : decode cL_law 1344 = .ok (.aload_n 1, 1) := by decide +kernel
theorem dL_law_1345 : decode cL_law 1345 = .ok (.iconst 2, 1) := by decide +kernel
theorem dL_law_1346 : decode cL_law 1346 = .ok (.invokevirtual 111, 3) := by decide +kernel
theorem dL_law_1349 : decode cL_law 1349 = .ok (.iload 20, 2) := by decide +kernel
theorem dL_law_1351 : decode cL_law 1351 = .ok (.iload 22, 2) := by decide +kernel
theorem dL_law_1353 : decode cL_law 1353 = .ok (.isub, 1) := by decide +kernel
theorem dL_law_1354 : decode cL_law 1354 = .ok (.if_icmp .ne 39, 3) := by decide +kernel
theorem dL_law_1357 : decode cL_law 1357 = .ok (.aload_n 1, 1) := by decide +kernel
theorem dL_law_1358 : decode cL_law 1358 = .ok (.bipush 6, 2) := by decide +kernel
theorem dL_law_1360 : decode cL_law 1360 = .ok (.invokevirtual 111, 3) := by decide +kernel
theorem dL_law_1363 : decode cL_law 1363 = .ok (.iload 21, 2) := by decide +kernel
theorem dL_law_1365 : decode cL_law 1365 = .ok (.iload 22, 2) := by decide +kernel
theorem dL_law_1367 : decode cL_law 1367 = .ok (.iadd, 1) := by decide +kernel
theorem dL_law_1368 : decode cL_law 1368 = .ok (.if_icmp .ne 25, 3) := by decide +kernel
theorem dL_law_1371 : decode cL_law 1371 = .ok (.aload_n 1, 1) := by decide +kernel
theorem dL_law_1372 : decode cL_law 1372 = .ok (.invokevirtual 75, 3) := by decide +kernel
theorem dL_law_1375 : decode cL_law 1375 = .ok (.ifCond .ne 18, 3) := by decide +kernel
theorem dL_law_1378 : decode cL_law 1378 = .ok (.iload 22, 2) := by decide +kernel
theorem dL_law_1380 : decode cL_law 1380 = .ok (.ifCond .ne 15, 3) := by decide +kernel
theorem dL_law_1383 : decode cL_law 1383 = .ok (.aload_n 1, 1) := by decide +kernel
theorem dL_law_1384 : decode cL_law 1384 = .ok (.invokevirtual 103, 3) := by decide +kernel
theorem dL_law_1387 : decode cL_law 1387 = .ok (.lload 5, 2) := by decide +kernel
theorem dL_law_1389 : decode cL_law 1389 = .ok (.lcmp, 1) := by decide +kernel
theorem dL_law_1390 : decode cL_law 1390 = .ok (.ifCond .eq 5, 3) := by decide +kernel
theorem dL_law_1393 : decode cL_law 1393 = .ok (.iconst 0, 1) := by decide +kernel
theorem dL_law_1394 : decode cL_law 1394 = .ok (.ireturn, 1) := by decide +kernel
theorem dL_law_1395 : decode cL_law 1395 = .ok (.iconst 0, 1) := by decide +kernel
theorem dL_law_1396 : decode cL_law 1396 = .ok (.istore 23, 2) := by decide +kernel
theorem dL_law_1398 : decode cL_law 1398 = .ok (.iload 23, 2) := by decide +kernel
theorem dL_law_1400 : decode cL_law 1400 = .ok (.aload_n 1, 1) := by decide +kernel
theorem dL_law_1401 : decode cL_law 1401 = .ok (.iconst 4, 1) := by decide +kernel
theorem dL_law_1402 : decode cL_law 1402 = .ok (.invokevirtual 111, 3) := by decide +kernel
theorem dL_law_1405 : decode cL_law 1405 = .ok (.if_icmp .ge 38, 3) := by decide +kernel
theorem dL_law_1408 : decode cL_law 1408 = .ok (.aload_n 1, 1) := by decide +kernel
theorem dL_law_1409 : decode cL_law 1409 = .ok (.iload 23, 2) := by decide +kernel
theorem dL_law_1411 : decode cL_law 1411 = .ok (.iconst 3, 1) := by decide +kernel
theorem dL_law_1412 : decode cL_law 1412 = .ok (.invokevirtual 124, 3) := by decide +kernel
theorem dL_law_1415 : decode cL_law 1415 = .ok (.aload_n 1, 1) := by decide +kernel
theorem dL_law_1416 : decode cL_law 1416 = .ok (.iload 23, 2) := by decide +kernel
theorem dL_law_1418 : decode cL_law 1418 = .ok (.iconst 1, 1) := by decide +kernel
theorem dL_law_1419 : decode cL_law 1419 = .ok (.invokevirtual 124, 3) := by decide +kernel
theorem dL_law_1422 : decode cL_law 1422 = .ok (.if_icmp .ge 15, 3) := by decide +kernel
theorem dL_law_1425 : decode cL_law 1425 = .ok (.aload_n 1, 1) := by decide +kernel
theorem dL_law_1426 : decode cL_law 1426 = .ok (.iload 23, 2) := by decide +kernel
theorem dL_law_1428 : decode cL_law 1428 = .ok (.iconst 4, 1) := by decide +kernel
theorem dL_law_1429 : decode cL_law 1429 = .ok (.invokevirtual 124, 3) := by decide +kernel
theorem dL_law_1432 : decode cL_law 1432 = .ok (.ifCond .le 5, 3) := by decide +kernel
theorem dL_law_1435 : decode cL_law 1435 = .ok (.iconst 0, 1) := by decide +kernel
theorem dL_law_1436 : decode cL_law 1436 = .ok (.ireturn, 1) := by decide +kernel
theorem dL_law_1437 : decode cL_law 1437 = .ok (.iinc 23 1, 3) := by decide +kernel
theorem dL_law_1440 : decode cL_law 1440 = .ok (.goto (-42), 3) := by decide +kernel
theorem dL_law_1443 : decode cL_law 1443 = .ok (.iinc 3 1, 3) := by decide +kernel
theorem dL_law_1446 : decode cL_law 1446 = .ok (.goto (-1424), 3) := by decide +kernel
theorem dL_law_1449 : decode cL_law 1449 = .ok (.aload_n 2, 1) := by decide +kernel
theorem dL_law_1450 : decode cL_law 1450 = .ok (.aload_n 1, 1) := by decide +kernel
theorem dL_law_1451 : decode cL_law 1451 = .ok (.invokevirtual 127, 3) := by decide +kernel
theorem dL_law_1454 : decode cL_law 1454 = .ok (.ireturn, 1) := by decide +kernel
