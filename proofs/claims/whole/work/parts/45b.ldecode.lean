theorem d_L_law_0 : decode code 0 = .ok (.new 7, 3) := by decide +kernel
theorem d_L_law_3 : decode code 3 = .ok (.dup, 1) := by decide +kernel
theorem d_L_law_4 : decode code 4 = .ok (.invokespecial 9, 3) := by decide +kernel
theorem d_L_law_7 : decode code 7 = .ok (.astore_n 1, 1) := by decide +kernel
theorem d_L_law_8 : decode code 8 = .ok (.new 10, 3) := by decide +kernel
theorem d_L_law_11 : decode code 11 = .ok (.dup, 1) := by decide +kernel
theorem d_L_law_12 : decode code 12 = .ok (.invokespecial 12, 3) := by decide +kernel
theorem d_L_law_15 : decode code 15 = .ok (.astore_n 2, 1) := by decide +kernel
theorem d_L_law_16 : decode code 16 = .ok (.iconst 0, 1) := by decide +kernel
theorem d_L_law_17 : decode code 17 = .ok (.istore_n 3, 1) := by decide +kernel
theorem d_L_law_18 : decode code 18 = .ok (.iload_n 3, 1) := by decide +kernel
theorem d_L_law_19 : decode code 19 = .ok (.aload_n 0, 1) := by decide +kernel
theorem d_L_law_20 : decode code 20 = .ok (.arraylength, 1) := by decide +kernel
theorem d_L_law_21 : decode code 21 = .ok (.bipush 6, 2) := by decide +kernel
theorem d_L_law_23 : decode code 23 = .ok (.isub, 1) := by decide +kernel
theorem d_L_law_24 : decode code 24 = .ok (.if_icmp .gt 451, 3) := by decide +kernel
theorem d_L_law_27 : decode code 27 = .ok (.aload_n 0, 1) := by decide +kernel
theorem d_L_law_28 : decode code 28 = .ok (.iload_n 3, 1) := by decide +kernel
theorem d_L_law_29 : decode code 29 = .ok (.iaload, 1) := by decide +kernel
theorem d_L_law_30 : decode code 30 = .ok (.bipush 15, 2) := by decide +kernel
theorem d_L_law_32 : decode code 32 = .ok (.iand, 1) := by decide +kernel
theorem d_L_law_33 : decode code 33 = .ok (.tableswitch 436 0 12 #[67, 130, 153, 176, 199, 212, 235, 268, 301, 324, 347, 370, 403], 67) := by decide +kernel
theorem d_L_law_100 : decode code 100 = .ok (.aload_n 1, 1) := by decide +kernel
theorem d_L_law_101 : decode code 101 = .ok (.aload_n 0, 1) := by decide +kernel
theorem d_L_law_102 : decode code 102 = .ok (.iload_n 3, 1) := by decide +kernel
theorem d_L_law_103 : decode code 103 = .ok (.iconst 1, 1) := by decide +kernel
theorem d_L_law_104 : decode code 104 = .ok (.iadd, 1) := by decide +kernel
theorem d_L_law_105 : decode code 105 = .ok (.iaload, 1) := by decide +kernel
theorem d_L_law_106 : decode code 106 = .ok (.aload_n 0, 1) := by decide +kernel
theorem d_L_law_107 : decode code 107 = .ok (.iload_n 3, 1) := by decide +kernel
theorem d_L_law_108 : decode code 108 = .ok (.iconst 2, 1) := by decide +kernel
theorem d_L_law_109 : decode code 109 = .ok (.iadd, 1) := by decide +kernel
theorem d_L_law_110 : decode code 110 = .ok (.iaload, 1) := by decide +kernel
theorem d_L_law_111 : decode code 111 = .ok (.aload_n 0, 1) := by decide +kernel
theorem d_L_law_112 : decode code 112 = .ok (.iload_n 3, 1) := by decide +kernel
theorem d_L_law_113 : decode code 113 = .ok (.iconst 3, 1) := by decide +kernel
theorem d_L_law_114 : decode code 114 = .ok (.iadd, 1) := by decide +kernel
theorem d_L_law_115 : decode code 115 = .ok (.iaload, 1) := by decide +kernel
theorem d_L_law_116 : decode code 116 = .ok (.aload_n 0, 1) := by decide +kernel
theorem d_L_law_117 : decode code 117 = .ok (.iload_n 3, 1) := by decide +kernel
theorem d_L_law_118 : decode code 118 = .ok (.iconst 4, 1) := by decide +kernel
theorem d_L_law_119 : decode code 119 = .ok (.iadd, 1) := by decide +kernel
theorem d_L_law_120 : decode code 120 = .ok (.iaload, 1) := by decide +kernel
theorem d_L_law_121 : decode code 121 = .ok (.aload_n 0, 1) := by decide +kernel
theorem d_L_law_122 : decode code 122 = .ok (.iload_n 3, 1) := by decide +kernel
theorem d_L_law_123 : decode code 123 = .ok (.iconst 5, 1) := by decide +kernel
theorem d_L_law_124 : decode code 124 = .ok (.iadd, 1) := by decide +kernel
theorem d_L_law_125 : decode code 125 = .ok (.iaload, 1) := by decide +kernel
theorem d_L_law_126 : decode code 126 = .ok (.invokevirtual 13, 3) := by decide +kernel
theorem d_L_law_129 : decode code 129 = .ok (.aload_n 2, 1) := by decide +kernel
theorem d_L_law_130 : decode code 130 = .ok (.aload_n 0, 1) := by decide +kernel
theorem d_L_law_131 : decode code 131 = .ok (.iload_n 3, 1) := by decide +kernel
theorem d_L_law_132 : decode code 132 = .ok (.iconst 1, 1) := by decide +kernel
theorem d_L_law_133 : decode code 133 = .ok (.iadd, 1) := by decide +kernel
theorem d_L_law_134 : decode code 134 = .ok (.iaload, 1) := by decide +kernel
theorem d_L_law_135 : decode code 135 = .ok (.aload_n 0, 1) := by decide +kernel
theorem d_L_law_136 : decode code 136 = .ok (.iload_n 3, 1) := by decide +kernel
theorem d_L_law_137 : decode code 137 = .ok (.iconst 2, 1) := by decide +kernel
theorem d_L_law_138 : decode code 138 = .ok (.iadd, 1) := by decide +kernel
theorem d_L_law_139 : decode code 139 = .ok (.iaload, 1) := by decide +kernel
theorem d_L_law_140 : decode code 140 = .ok (.aload_n 0, 1) := by decide +kernel
theorem d_L_law_141 : decode code 141 = .ok (.iload_n 3, 1) := by decide +kernel
theorem d_L_law_142 : decode code 142 = .ok (.iconst 3, 1) := by decide +kernel
theorem d_L_law_143 : decode code 143 = .ok (.iadd, 1) := by decide +kernel
theorem d_L_law_144 : decode code 144 = .ok (.iaload, 1) := by decide +kernel
theorem d_L_law_145 : decode code 145 = .ok (.aload_n 0, 1) := by decide +kernel
theorem d_L_law_146 : decode code 146 = .ok (.iload_n 3, 1) := by decide +kernel
theorem d_L_law_147 : decode code 147 = .ok (.iconst 4, 1) := by decide +kernel
theorem d_L_law_148 : decode code 148 = .ok (.iadd, 1) := by decide +kernel
theorem d_L_law_149 : decode code 149 = .ok (.iaload, 1) := by decide +kernel
theorem d_L_law_150 : decode code 150 = .ok (.aload_n 0, 1) := by decide +kernel
theorem d_L_law_151 : decode code 151 = .ok (.iload_n 3, 1) := by decide +kernel
theorem d_L_law_152 : decode code 152 = .ok (.iconst 5, 1) := by decide +kernel
theorem d_L_law_153 : decode code 153 = .ok (.iadd, 1) := by decide +kernel
theorem d_L_law_154 : decode code 154 = .ok (.iaload, 1) := by decide +kernel
theorem d_L_law_155 : decode code 155 = .ok (.invokevirtual 17, 3) := by decide +kernel
theorem d_L_law_158 : decode code 158 = .ok (.if_icmp .eq 311, 3) := by decide +kernel
theorem d_L_law_161 : decode code 161 = .ok (.iconst 0, 1) := by decide +kernel
theorem d_L_law_162 : decode code 162 = .ok (.ireturn, 1) := by decide +kernel
theorem d_L_law_163 : decode code 163 = .ok (.aload_n 1, 1) := by decide +kernel
theorem d_L_law_164 : decode code 164 = .ok (.aload_n 0, 1) := by decide +kernel
theorem d_L_law_165 : decode code 165 = .ok (.iload_n 3, 1) := by decide +kernel
theorem d_L_law_166 : decode code 166 = .ok (.iconst 1, 1) := by decide +kernel
theorem d_L_law_167 : decode code 167 = .ok (.iadd, 1) := by decide +kernel
theorem d_L_law_168 : decode code 168 = .ok (.iaload, 1) := by decide +kernel
theorem d_L_law_169 : decode code 169 = .ok (.invokevirtual 18, 3) := by decide +kernel
theorem d_L_law_172 : decode code 172 = .ok (.aload_n 2, 1) := by decide +kernel
theorem d_L_law_173 : decode code 173 = .ok (.aload_n 0, 1) := by decide +kernel
theorem d_L_law_174 : decode code 174 = .ok (.iload_n 3, 1) := by decide +kernel
theorem d_L_law_175 : decode code 175 = .ok (.iconst 1, 1) := by decide +kernel
theorem d_L_law_176 : decode code 176 = .ok (.iadd, 1) := by decide +kernel
theorem d_L_law_177 : decode code 177 = .ok (.iaload, 1) := by decide +kernel
theorem d_L_law_178 : decode code 178 = .ok (.invokevirtual 22, 3) := by decide +kernel
theorem d_L_law_181 : decode code 181 = .ok (.if_icmp .eq 288, 3) := by decide +kernel
theorem d_L_law_184 : decode code 184 = .ok (.iconst 0, 1) := by decide +kernel
theorem d_L_law_185 : decode code 185 = .ok (.ireturn, 1) := by decide +kernel
theorem d_L_law_186 : decode code 186 = .ok (.aload_n 1, 1) := by decide +kernel
theorem d_L_law_187 : decode code 187 = .ok (.aload_n 0, 1) := by decide +kernel
theorem d_L_law_188 : decode code 188 = .ok (.iload_n 3, 1) := by decide +kernel
theorem d_L_law_189 : decode code 189 = .ok (.iconst 1, 1) := by decide +kernel
theorem d_L_law_190 : decode code 190 = .ok (.iadd, 1) := by decide +kernel
theorem d_L_law_191 : decode code 191 = .ok (.iaload, 1) := by decide +kernel
theorem d_L_law_192 : decode code 192 = .ok (.invokevirtual 23, 3) := by decide +kernel
theorem d_L_law_195 : decode code 195 = .ok (.aload_n 2, 1) := by decide +kernel
theorem d_L_law_196 : decode code 196 = .ok (.aload_n 0, 1) := by decide +kernel
theorem d_L_law_197 : decode code 197 = .ok (.iload_n 3, 1) := by decide +kernel
theorem d_L_law_198 : decode code 198 = .ok (.iconst 1, 1) := by decide +kernel
theorem d_L_law_199 : decode code 199 = .ok (.iadd, 1) := by decide +kernel
theorem d_L_law_200 : decode code 200 = .ok (.iaload, 1) := by decide +kernel
theorem d_L_law_201 : decode code 201 = .ok (.invokevirtual 26, 3) := by decide +kernel
theorem d_L_law_204 : decode code 204 = .ok (.if_icmp .eq 265, 3) := by decide +kernel
theorem d_L_law_207 : decode code 207 = .ok (.iconst 0, 1) := by decide +kernel
theorem d_L_law_208 : decode code 208 = .ok (.ireturn, 1) := by decide +kernel
theorem d_L_law_209 : decode code 209 = .ok (.aload_n 1, 1) := by decide +kernel
theorem d_L_law_210 : decode code 210 = .ok (.aload_n 0, 1) := by decide +kernel
theorem d_L_law_211 : decode code 211 = .ok (.iload_n 3, 1) := by decide +kernel
theorem d_L_law_212 : decode code 212 = .ok (.iconst 1, 1) := by decide +kernel
theorem d_L_law_213 : decode code 213 = .ok (.iadd, 1) := by decide +kernel
theorem d_L_law_214 : decode code 214 = .ok (.iaload, 1) := by decide +kernel
theorem d_L_law_215 : decode code 215 = .ok (.invokevirtual 27, 3) := by decide +kernel
theorem d_L_law_218 : decode code 218 = .ok (.aload_n 2, 1) := by decide +kernel
theorem d_L_law_219 : decode code 219 = .ok (.aload_n 0, 1) := by decide +kernel
theorem d_L_law_220 : decode code 220 = .ok (.iload_n 3, 1) := by decide +kernel
theorem d_L_law_221 : decode code 221 = .ok (.iconst 1, 1) := by decide +kernel
theorem d_L_law_222 : decode code 222 = .ok (.iadd, 1) := by decide +kernel
theorem d_L_law_223 : decode code 223 = .ok (.iaload, 1) := by decide +kernel
theorem d_L_law_224 : decode code 224 = .ok (.invokevirtual 31, 3) := by decide +kernel
theorem d_L_law_227 : decode code 227 = .ok (.if_icmp .eq 242, 3) := by decide +kernel
theorem d_L_law_230 : decode code 230 = .ok (.iconst 0, 1) := by decide +kernel
theorem d_L_law_231 : decode code 231 = .ok (.ireturn, 1) := by decide +kernel
theorem d_L_law_232 : decode code 232 = .ok (.aload_n 1, 1) := by decide +kernel
theorem d_L_law_233 : decode code 233 = .ok (.invokevirtual 32, 3) := by decide +kernel
theorem d_L_law_236 : decode code 236 = .ok (.aload_n 2, 1) := by decide +kernel
theorem d_L_law_237 : decode code 237 = .ok (.invokevirtual 36, 3) := by decide +kernel
theorem d_L_law_240 : decode code 240 = .ok (.if_icmp .eq 229, 3) := by decide +kernel
theorem d_L_law_243 : decode code 243 = .ok (.iconst 0, 1) := by decide +kernel
theorem d_L_law_244 : decode code 244 = .ok (.ireturn, 1) := by decide +kernel
theorem d_L_law_245 : decode code 245 = .ok (.aload_n 1, 1) := by decide +kernel
theorem d_L_law_246 : decode code 246 = .ok (.aload_n 0, 1) := by decide +kernel
theorem d_L_law_247 : decode code 247 = .ok (.iload_n 3, 1) := by decide +kernel
theorem d_L_law_248 : decode code 248 = .ok (.iconst 1, 1) := by decide +kernel
theorem d_L_law_249 : decode code 249 = .ok (.iadd, 1) := by decide +kernel
theorem d_L_law_250 : decode code 250 = .ok (.iaload, 1) := by decide +kernel
theorem d_L_law_251 : decode code 251 = .ok (.invokevirtual 37, 3) := by decide +kernel
theorem d_L_law_254 : decode code 254 = .ok (.aload_n 2, 1) := by decide +kernel
theorem d_L_law_255 : decode code 255 = .ok (.aload_n 0, 1) := by decide +kernel
theorem d_L_law_256 : decode code 256 = .ok (.iload_n 3, 1) := by decide +kernel
theorem d_L_law_257 : decode code 257 = .ok (.iconst 1, 1) := by decide +kernel
theorem d_L_law_258 : decode code 258 = .ok (.iadd, 1) := by decide +kernel
theorem d_L_law_259 : decode code 259 = .ok (.iaload, 1) := by decide +kernel
theorem d_L_law_260 : decode code 260 = .ok (.invokevirtual 40, 3) := by decide +kernel
theorem d_L_law_263 : decode code 263 = .ok (.if_icmp .eq 206, 3) := by decide +kernel
theorem d_L_law_266 : decode code 266 = .ok (.iconst 0, 1) := by decide +kernel
theorem d_L_law_267 : decode code 267 = .ok (.ireturn, 1) := by decide +kernel
theorem d_L_law_268 : decode code 268 = .ok (.aload_n 1, 1) := by decide +kernel
theorem d_L_law_269 : decode code 269 = .ok (.aload_n 0, 1) := by decide +kernel
theorem d_L_law_270 : decode code 270 = .ok (.iload_n 3, 1) := by decide +kernel
theorem d_L_law_271 : decode code 271 = .ok (.iconst 1, 1) := by decide +kernel
theorem d_L_law_272 : decode code 272 = .ok (.iadd, 1) := by decide +kernel
theorem d_L_law_273 : decode code 273 = .ok (.iaload, 1) := by decide +kernel
theorem d_L_law_274 : decode code 274 = .ok (.aload_n 0, 1) := by decide +kernel
theorem d_L_law_275 : decode code 275 = .ok (.iload_n 3, 1) := by decide +kernel
theorem d_L_law_276 : decode code 276 = .ok (.iconst 2, 1) := by decide +kernel
theorem d_L_law_277 : decode code 277 = .ok (.iadd, 1) := by decide +kernel
theorem d_L_law_278 : decode code 278 = .ok (.iaload, 1) := by decide +kernel
theorem d_L_law_279 : decode code 279 = .ok (.invokevirtual 41, 3) := by decide +kernel
theorem d_L_law_282 : decode code 282 = .ok (.aload_n 2, 1) := by decide +kernel
theorem d_L_law_283 : decode code 283 = .ok (.aload_n 0, 1) := by decide +kernel
theorem d_L_law_284 : decode code 284 = .ok (.iload_n 3, 1) := by decide +kernel
theorem d_L_law_285 : decode code 285 = .ok (.iconst 1, 1) := by decide +kernel
theorem d_L_law_286 : decode code 286 = .ok (.iadd, 1) := by decide +kernel
theorem d_L_law_287 : decode code 287 = .ok (.iaload, 1) := by decide +kernel
theorem d_L_law_288 : decode code 288 = .ok (.aload_n 0, 1) := by decide +kernel
theorem d_L_law_289 : decode code 289 = .ok (.iload_n 3, 1) := by decide +kernel
theorem d_L_law_290 : decode code 290 = .ok (.iconst 2, 1) := by decide +kernel
theorem d_L_law_291 : decode code 291 = .ok (.iadd, 1) := by decide +kernel
theorem d_L_law_292 : decode code 292 = .ok (.iaload, 1) := by decide +kernel
theorem d_L_law_293 : decode code 293 = .ok (.invokevirtual 45, 3) := by decide +kernel
theorem d_L_law_296 : decode code 296 = .ok (.if_icmp .eq 173, 3) := by decide +kernel
theorem d_L_law_299 : decode code 299 = .ok (.iconst 0, 1) := by decide +kernel
theorem d_L_law_300 : decode code 300 = .ok (.ireturn, 1) := by decide +kernel
theorem d_L_law_301 : decode code 301 = .ok (.aload_n 1, 1) := by decide +kernel
theorem d_L_law_302 : decode code 302 = .ok (.aload_n 0, 1) := by decide +kernel
theorem d_L_law_303 : decode code 303 = .ok (.iload_n 3, 1) := by decide +kernel
theorem d_L_law_304 : decode code 304 = .ok (.iconst 1, 1) := by decide +kernel
theorem d_L_law_305 : decode code 305 = .ok (.iadd, 1) := by decide +kernel
theorem d_L_law_306 : decode code 306 = .ok (.iaload, 1) := by decide +kernel
theorem d_L_law_307 : decode code 307 = .ok (.aload_n 0, 1) := by decide +kernel
theorem d_L_law_308 : decode code 308 = .ok (.iload_n 3, 1) := by decide +kernel
theorem d_L_law_309 : decode code 309 = .ok (.iconst 2, 1) := by decide +kernel
theorem d_L_law_310 : decode code 310 = .ok (.iadd, 1) := by decide +kernel
theorem d_L_law_311 : decode code 311 = .ok (.iaload, 1) := by decide +kernel
theorem d_L_law_312 : decode code 312 = .ok (.invokevirtual 46, 3) := by decide +kernel
theorem d_L_law_315 : decode code 315 = .ok (.aload_n 2, 1) := by decide +kernel
theorem d_L_law_316 : decode code 316 = .ok (.aload_n 0, 1) := by decide +kernel
theorem d_L_law_317 : decode code 317 = .ok (.iload_n 3, 1) := by decide +kernel
theorem d_L_law_318 : decode code 318 = .ok (.iconst 1, 1) := by decide +kernel
theorem d_L_law_319 : decode code 319 = .ok (.iadd, 1) := by decide +kernel
theorem d_L_law_320 : decode code 320 = .ok (.iaload, 1) := by decide +kernel
theorem d_L_law_321 : decode code 321 = .ok (.aload_n 0, 1) := by decide +kernel
theorem d_L_law_322 : decode code 322 = .ok (.iload_n 3, 1) := by decide +kernel
theorem d_L_law_323 : decode code 323 = .ok (.iconst 2, 1) := by decide +kernel
theorem d_L_law_324 : decode code 324 = .ok (.iadd, 1) := by decide +kernel
theorem d_L_law_325 : decode code 325 = .ok (.iaload, 1) := by decide +kernel
theorem d_L_law_326 : decode code 326 = .ok (.invokevirtual 50, 3) := by decide +kernel
theorem d_L_law_329 : decode code 329 = .ok (.if_icmp .eq 140, 3) := by decide +kernel
theorem d_L_law_332 : decode code 332 = .ok (.iconst 0, 1) := by decide +kernel
theorem d_L_law_333 : decode code 333 = .ok (.ireturn, 1) := by decide +kernel
theorem d_L_law_334 : decode code 334 = .ok (.aload_n 1, 1) := by decide +kernel
theorem d_L_law_335 : decode code 335 = .ok (.aload_n 0, 1) := by decide +kernel
theorem d_L_law_336 : decode code 336 = .ok (.iload_n 3, 1) := by decide +kernel
theorem d_L_law_337 : decode code 337 = .ok (.iconst 1, 1) := by decide +kernel
theorem d_L_law_338 : decode code 338 = .ok (.iadd, 1) := by decide +kernel
theorem d_L_law_339 : decode code 339 = .ok (.iaload, 1) := by decide +kernel
theorem d_L_law_340 : decode code 340 = .ok (.invokevirtual 51, 3) := by decide +kernel
theorem d_L_law_343 : decode code 343 = .ok (.aload_n 2, 1) := by decide +kernel
theorem d_L_law_344 : decode code 344 = .ok (.aload_n 0, 1) := by decide +kernel
theorem d_L_law_345 : decode code 345 = .ok (.iload_n 3, 1) := by decide +kernel
theorem d_L_law_346 : decode code 346 = .ok (.iconst 1, 1) := by decide +kernel
theorem d_L_law_347 : decode code 347 = .ok (.iadd, 1) := by decide +kernel
theorem d_L_law_348 : decode code 348 = .ok (.iaload, 1) := by decide +kernel
theorem d_L_law_349 : decode code 349 = .ok (.invokevirtual 54, 3) := by decide +kernel
theorem d_L_law_352 : decode code 352 = .ok (.if_icmp .eq 117, 3) := by decide +kernel
theorem d_L_law_355 : decode code 355 = .ok (.iconst 0, 1) := by decide +kernel
theorem d_L_law_356 : decode code 356 = .ok (.ireturn, 1) := by decide +kernel
theorem d_L_law_357 : decode code 357 = .ok (.aload_n 1, 1) := by decide +kernel
theorem d_L_law_358 : decode code 358 = .ok (.aload_n 0, 1) := by decide +kernel
theorem d_L_law_359 : decode code 359 = .ok (.iload_n 3, 1) := by decide +kernel
theorem d_L_law_360 : decode code 360 = .ok (.iconst 1, 1) := by decide +kernel
theorem d_L_law_361 : decode code 361 = .ok (.iadd, 1) := by decide +kernel
theorem d_L_law_362 : decode code 362 = .ok (.iaload, 1) := by decide +kernel
theorem d_L_law_363 : decode code 363 = .ok (.invokevirtual 55, 3) := by decide +kernel
theorem d_L_law_366 : decode code 366 = .ok (.aload_n 2, 1) := by decide +kernel
theorem d_L_law_367 : decode code 367 = .ok (.aload_n 0, 1) := by decide +kernel
theorem d_L_law_368 : decode code 368 = .ok (.iload_n 3, 1) := by decide +kernel
theorem d_L_law_369 : decode code 369 = .ok (.iconst 1, 1) := by decide +kernel
theorem d_L_law_370 : decode code 370 = .ok (.iadd, 1) := by decide +kernel
theorem d_L_law_371 : decode code 371 = .ok (.iaload, 1) := by decide +kernel
theorem d_L_law_372 : decode code 372 = .ok (.invokevirtual 58, 3) := by decide +kernel
theorem d_L_law_375 : decode code 375 = .ok (.if_icmp .eq 94, 3) := by decide +kernel
theorem d_L_law_378 : decode code 378 = .ok (.iconst 0, 1) := by decide +kernel
theorem d_L_law_379 : decode code 379 = .ok (.ireturn, 1) := by decide +kernel
theorem d_L_law_380 : decode code 380 = .ok (.aload_n 1, 1) := by decide +kernel
theorem d_L_law_381 : decode code 381 = .ok (.aload_n 0, 1) := by decide +kernel
theorem d_L_law_382 : decode code 382 = .ok (.iload_n 3, 1) := by decide +kernel
theorem d_L_law_383 : decode code 383 = .ok (.iconst 1, 1) := by decide +kernel
theorem d_L_law_384 : decode code 384 = .ok (.iadd, 1) := by decide +kernel
theorem d_L_law_385 : decode code 385 = .ok (.iaload, 1) := by decide +kernel
theorem d_L_law_386 : decode code 386 = .ok (.invokevirtual 59, 3) := by decide +kernel
theorem d_L_law_389 : decode code 389 = .ok (.aload_n 2, 1) := by decide +kernel
theorem d_L_law_390 : decode code 390 = .ok (.aload_n 0, 1) := by decide +kernel
theorem d_L_law_391 : decode code 391 = .ok (.iload_n 3, 1) := by decide +kernel
theorem d_L_law_392 : decode code 392 = .ok (.iconst 1, 1) := by decide +kernel
theorem d_L_law_393 : decode code 393 = .ok (.iadd, 1) := by decide +kernel
theorem d_L_law_394 : decode code 394 = .ok (.iaload, 1) := by decide +kernel
theorem d_L_law_395 : decode code 395 = .ok (.invokevirtual 62, 3) := by decide +kernel
theorem d_L_law_398 : decode code 398 = .ok (.if_icmp .eq 71, 3) := by decide +kernel
theorem d_L_law_401 : decode code 401 = .ok (.iconst 0, 1) := by decide +kernel
theorem d_L_law_402 : decode code 402 = .ok (.ireturn, 1) := by decide +kernel
theorem d_L_law_403 : decode code 403 = .ok (.aload_n 1, 1) := by decide +kernel
theorem d_L_law_404 : decode code 404 = .ok (.aload_n 0, 1) := by decide +kernel
theorem d_L_law_405 : decode code 405 = .ok (.iload_n 3, 1) := by decide +kernel
theorem d_L_law_406 : decode code 406 = .ok (.iconst 1, 1) := by decide +kernel
theorem d_L_law_407 : decode code 407 = .ok (.iadd, 1) := by decide +kernel
theorem d_L_law_408 : decode code 408 = .ok (.iaload, 1) := by decide +kernel
theorem d_L_law_409 : decode code 409 = .ok (.aload_n 0, 1) := by decide +kernel
theorem d_L_law_410 : decode code 410 = .ok (.iload_n 3, 1) := by decide +kernel
theorem d_L_law_411 : decode code 411 = .ok (.iconst 2, 1) := by decide +kernel
theorem d_L_law_412 : decode code 412 = .ok (.iadd, 1) := by decide +kernel
theorem d_L_law_413 : decode code 413 = .ok (.iaload, 1) := by decide +kernel
theorem d_L_law_414 : decode code 414 = .ok (.invokevirtual 63, 3) := by decide +kernel
theorem d_L_law_417 : decode code 417 = .ok (.aload_n 2, 1) := by decide +kernel
theorem d_L_law_418 : decode code 418 = .ok (.aload_n 0, 1) := by decide +kernel
theorem d_L_law_419 : decode code 419 = .ok (.iload_n 3, 1) := by decide +kernel
theorem d_L_law_420 : decode code 420 = .ok (.iconst 1, 1) := by decide +kernel
theorem d_L_law_421 : decode code 421 = .ok (.iadd, 1) := by decide +kernel
theorem d_L_law_422 : decode code 422 = .ok (.iaload, 1) := by decide +kernel
theorem d_L_law_423 : decode code 423 = .ok (.aload_n 0, 1) := by decide +kernel
theorem d_L_law_424 : decode code 424 = .ok (.iload_n 3, 1) := by decide +kernel
theorem d_L_law_425 : decode code 425 = .ok (.iconst 2, 1) := by decide +kernel
theorem d_L_law_426 : decode code 426 = .ok (.iadd, 1) := by decide +kernel
theorem d_L_law_427 : decode code 427 = .ok (.iaload, 1) := by decide +kernel
theorem d_L_law_428 : decode code 428 = .ok (.invokevirtual 66, 3) := by decide +kernel
theorem d_L_law_431 : decode code 431 = .ok (.if_icmp .eq 38, 3) := by decide +kernel
theorem d_L_law_434 : decode code 434 = .ok (.iconst 0, 1) := by decide +kernel
theorem d_L_law_435 : decode code 435 = .ok (.ireturn, 1) := by decide +kernel
theorem d_L_law_436 : decode code 436 = .ok (.aload_n 1, 1) := by decide +kernel
theorem d_L_law_437 : decode code 437 = .ok (.aload_n 0, 1) := by decide +kernel
theorem d_L_law_438 : decode code 438 = .ok (.iload_n 3, 1) := by decide +kernel
theorem d_L_law_439 : decode code 439 = .ok (.iconst 1, 1) := by decide +kernel
theorem d_L_law_440 : decode code 440 = .ok (.iadd, 1) := by decide +kernel
theorem d_L_law_441 : decode code 441 = .ok (.iaload, 1) := by decide +kernel
theorem d_L_law_442 : decode code 442 = .ok (.aload_n 0, 1) := by decide +kernel
theorem d_L_law_443 : decode code 443 = .ok (.iload_n 3, 1) := by decide +kernel
theorem d_L_law_444 : decode code 444 = .ok (.iconst 2, 1) := by decide +kernel
theorem d_L_law_445 : decode code 445 = .ok (.iadd, 1) := by decide +kernel
theorem d_L_law_446 : decode code 446 = .ok (.iaload, 1) := by decide +kernel
theorem d_L_law_447 : decode code 447 = .ok (.invokevirtual 67, 3) := by decide +kernel
theorem d_L_law_450 : decode code 450 = .ok (.aload_n 2, 1) := by decide +kernel
theorem d_L_law_451 : decode code 451 = .ok (.aload_n 0, 1) := by decide +kernel
theorem d_L_law_452 : decode code 452 = .ok (.iload_n 3, 1) := by decide +kernel
theorem d_L_law_453 : decode code 453 = .ok (.iconst 1, 1) := by decide +kernel
theorem d_L_law_454 : decode code 454 = .ok (.iadd, 1) := by decide +kernel
theorem d_L_law_455 : decode code 455 = .ok (.iaload, 1) := by decide +kernel
theorem d_L_law_456 : decode code 456 = .ok (.aload_n 0, 1) := by decide +kernel
theorem d_L_law_457 : decode code 457 = .ok (.iload_n 3, 1) := by decide +kernel
theorem d_L_law_458 : decode code 458 = .ok (.iconst 2, 1) := by decide +kernel
theorem d_L_law_459 : decode code 459 = .ok (.iadd, 1) := by decide +kernel
theorem d_L_law_460 : decode code 460 = .ok (.iaload, 1) := by decide +kernel
theorem d_L_law_461 : decode code 461 = .ok (.invokevirtual 70, 3) := by decide +kernel
theorem d_L_law_464 : decode code 464 = .ok (.if_icmp .eq 5, 3) := by decide +kernel
theorem d_L_law_467 : decode code 467 = .ok (.iconst 0, 1) := by decide +kernel
theorem d_L_law_468 : decode code 468 = .ok (.ireturn, 1) := by decide +kernel
theorem d_L_law_469 : decode code 469 = .ok (.iinc 3 6, 3) := by decide +kernel
theorem d_L_law_472 : decode code 472 = .ok (.goto (-454), 3) := by decide +kernel
theorem d_L_law_475 : decode code 475 = .ok (.iconst 1, 1) := by decide +kernel
theorem d_L_law_476 : decode code 476 = .ok (.ireturn, 1) := by decide +kernel
theorem bw_40 : (.classLink R_L 7 R_FT : Cond) ∈ ft_big := ft_in 40 (by decide +kernel) rfl
theorem bw_41 : (.instantiable R_FT 4 : Cond) ∈ ft_big := ft_in 41 (by decide +kernel) rfl
theorem bw_42 : (.methodLink R_L 9 y_FT_init : Cond) ∈ ft_big := ft_in 42 (by decide +kernel) rfl
theorem bw_43 : (.instanceMethod y_FT_init : Cond) ∈ ft_big := ft_in 43 (by decide +kernel) rfl
theorem bw_44 : (.code y_FT_init b_FT_init 1 none : Cond) ∈ ft_big := ft_in 44 rfl rfl
theorem bw_193 : (.methodLink R_L 13 y_FT_feed : Cond) ∈ ft_big := ft_in 193 (by decide +kernel) rfl
theorem bw_194 : (.instanceMethod y_FT_feed : Cond) ∈ ft_big := ft_in 194 (by decide +kernel) rfl
theorem bw_195 : (.selects R_FT y_FT_feed y_FT_feed : Cond) ∈ ft_big := ft_in 195 (by decide +kernel) rfl
theorem bw_196 : (.code y_FT_feed b_FT_feed 6 (some .boolean) : Cond) ∈ ft_big := ft_in 196 rfl rfl
theorem bw_205 : (.methodLink R_L 18 y_FT_end : Cond) ∈ ft_big := ft_in 205 (by decide +kernel) rfl
theorem bw_206 : (.instanceMethod y_FT_end : Cond) ∈ ft_big := ft_in 206 (by decide +kernel) rfl
theorem bw_207 : (.selects R_FT y_FT_end y_FT_end : Cond) ∈ ft_big := ft_in 207 (by decide +kernel) rfl
theorem bw_208 : (.code y_FT_end b_FT_end 2 (some .boolean) : Cond) ∈ ft_big := ft_in 208 rfl rfl
theorem bw_213 : (.methodLink R_L 23 y_FT_limit : Cond) ∈ ft_big := ft_in 213 (by decide +kernel) rfl
theorem bw_214 : (.instanceMethod y_FT_limit : Cond) ∈ ft_big := ft_in 214 (by decide +kernel) rfl
theorem bw_215 : (.selects R_FT y_FT_limit y_FT_limit : Cond) ∈ ft_big := ft_in 215 (by decide +kernel) rfl
theorem bw_216 : (.code y_FT_limit b_FT_limit 2 (some .boolean) : Cond) ∈ ft_big := ft_in 216 rfl rfl
theorem bw_217 : (.methodLink R_L 27 y_FT_tell : Cond) ∈ ft_big := ft_in 217 (by decide +kernel) rfl
theorem bw_218 : (.instanceMethod y_FT_tell : Cond) ∈ ft_big := ft_in 218 (by decide +kernel) rfl
theorem bw_219 : (.selects R_FT y_FT_tell y_FT_tell : Cond) ∈ ft_big := ft_in 219 (by decide +kernel) rfl
theorem bw_220 : (.code y_FT_tell b_FT_tell 4 (some .int) : Cond) ∈ ft_big := ft_in 220 rfl rfl
theorem bw_274 : (.methodLink R_L 32 y_FT_written : Cond) ∈ ft_big := ft_in 274 (by decide +kernel) rfl
theorem bw_275 : (.instanceMethod y_FT_written : Cond) ∈ ft_big := ft_in 275 (by decide +kernel) rfl
theorem bw_276 : (.selects R_FT y_FT_written y_FT_written : Cond) ∈ ft_big := ft_in 276 (by decide +kernel) rfl
theorem bw_277 : (.code y_FT_written b_FT_written 1 (some .int) : Cond) ∈ ft_big := ft_in 277 rfl rfl
theorem bw_278 : (.methodLink R_L 37 y_FT_writtenAt : Cond) ∈ ft_big := ft_in 278 (by decide +kernel) rfl
theorem bw_279 : (.instanceMethod y_FT_writtenAt : Cond) ∈ ft_big := ft_in 279 (by decide +kernel) rfl
theorem bw_280 : (.selects R_FT y_FT_writtenAt y_FT_writtenAt : Cond) ∈ ft_big := ft_in 280 (by decide +kernel) rfl
theorem bw_281 : (.code y_FT_writtenAt b_FT_writtenAt 2 (some .int) : Cond) ∈ ft_big := ft_in 281 rfl rfl
theorem bw_283 : (.methodLink R_L 41 y_FT_spoil : Cond) ∈ ft_big := ft_in 283 (by decide +kernel) rfl
theorem bw_284 : (.instanceMethod y_FT_spoil : Cond) ∈ ft_big := ft_in 284 (by decide +kernel) rfl
theorem bw_285 : (.selects R_FT y_FT_spoil y_FT_spoil : Cond) ∈ ft_big := ft_in 285 (by decide +kernel) rfl
theorem bw_286 : (.code y_FT_spoil b_FT_spoil 3 (some .boolean) : Cond) ∈ ft_big := ft_in 286 rfl rfl
theorem bw_291 : (.methodLink R_L 46 y_FT_come : Cond) ∈ ft_big := ft_in 291 (by decide +kernel) rfl
theorem bw_292 : (.instanceMethod y_FT_come : Cond) ∈ ft_big := ft_in 292 (by decide +kernel) rfl
theorem bw_293 : (.selects R_FT y_FT_come y_FT_come : Cond) ∈ ft_big := ft_in 293 (by decide +kernel) rfl
theorem bw_294 : (.code y_FT_come b_FT_come 4 (some .int) : Cond) ∈ ft_big := ft_in 294 rfl rfl
theorem bw_363 : (.methodLink R_L 51 y_FT_all : Cond) ∈ ft_big := ft_in 363 (by decide +kernel) rfl
theorem bw_364 : (.instanceMethod y_FT_all : Cond) ∈ ft_big := ft_in 364 (by decide +kernel) rfl
theorem bw_365 : (.selects R_FT y_FT_all y_FT_all : Cond) ∈ ft_big := ft_in 365 (by decide +kernel) rfl
set_option maxRecDepth 100000 in
theorem bw_366 : (.code y_FT_all b_FT_all 3 (some .int) : Cond) ∈ ft_big := ft_in 366 rfl rfl
theorem bw_371 : (.methodLink R_L 55 y_FT_raw : Cond) ∈ ft_big := ft_in 371 (by decide +kernel) rfl
theorem bw_372 : (.instanceMethod y_FT_raw : Cond) ∈ ft_big := ft_in 372 (by decide +kernel) rfl
theorem bw_373 : (.selects R_FT y_FT_raw y_FT_raw : Cond) ∈ ft_big := ft_in 373 (by decide +kernel) rfl
set_option maxRecDepth 100000 in
theorem bw_374 : (.code y_FT_raw b_FT_raw 3 (some .int) : Cond) ∈ ft_big := ft_in 374 rfl rfl
theorem bw_375 : (.methodLink R_L 59 y_FT_latest : Cond) ∈ ft_big := ft_in 375 (by decide +kernel) rfl
theorem bw_376 : (.instanceMethod y_FT_latest : Cond) ∈ ft_big := ft_in 376 (by decide +kernel) rfl
theorem bw_377 : (.selects R_FT y_FT_latest y_FT_latest : Cond) ∈ ft_big := ft_in 377 (by decide +kernel) rfl
set_option maxRecDepth 100000 in
theorem bw_378 : (.code y_FT_latest b_FT_latest 3 (some .int) : Cond) ∈ ft_big := ft_in 378 rfl rfl
theorem bw_386 : (.methodLink R_L 63 y_FT_latestAt : Cond) ∈ ft_big := ft_in 386 (by decide +kernel) rfl
theorem bw_387 : (.instanceMethod y_FT_latestAt : Cond) ∈ ft_big := ft_in 387 (by decide +kernel) rfl
theorem bw_388 : (.selects R_FT y_FT_latestAt y_FT_latestAt : Cond) ∈ ft_big := ft_in 388 (by decide +kernel) rfl
set_option maxRecDepth 100000 in
theorem bw_389 : (.code y_FT_latestAt b_FT_latestAt 4 (some .int) : Cond) ∈ ft_big := ft_in 389 rfl rfl
theorem bw_390 : (.methodLink R_L 67 y_FT_count : Cond) ∈ ft_big := ft_in 390 (by decide +kernel) rfl
theorem bw_391 : (.instanceMethod y_FT_count : Cond) ∈ ft_big := ft_in 391 (by decide +kernel) rfl
theorem bw_392 : (.selects R_FT y_FT_count y_FT_count : Cond) ∈ ft_big := ft_in 392 (by decide +kernel) rfl
set_option maxRecDepth 100000 in
theorem bw_393 : (.code y_FT_count b_FT_count 4 (some .int) : Cond) ∈ ft_big := ft_in 393 rfl rfl
theorem bw_401 : (.classLink R_L 10 R_M : Cond) ∈ ft_big := ft_in 401 (by decide +kernel) rfl
theorem bw_402 : (.instantiable R_M 21 : Cond) ∈ ft_big := ft_in 402 (by decide +kernel) rfl
theorem bw_403 : (.methodLink R_L 12 y_M_init : Cond) ∈ ft_big := ft_in 403 (by decide +kernel) rfl
theorem bw_404 : (.instanceMethod y_M_init : Cond) ∈ ft_big := ft_in 404 (by decide +kernel) rfl
set_option maxRecDepth 100000 in
theorem bw_405 : (.code y_M_init b_M_init 1 none : Cond) ∈ ft_big := ft_in 405 rfl rfl
theorem bw_472 : (.methodLink R_L 17 y_M_feed : Cond) ∈ ft_big := ft_in 472 (by decide +kernel) rfl
theorem bw_473 : (.instanceMethod y_M_feed : Cond) ∈ ft_big := ft_in 473 (by decide +kernel) rfl
theorem bw_474 : (.selects R_M y_M_feed y_M_feed : Cond) ∈ ft_big := ft_in 474 (by decide +kernel) rfl
set_option maxRecDepth 100000 in
theorem bw_475 : (.code y_M_feed b_M_feed 6 (some .boolean) : Cond) ∈ ft_big := ft_in 475 rfl rfl
theorem bw_480 : (.methodLink R_L 22 y_M_end : Cond) ∈ ft_big := ft_in 480 (by decide +kernel) rfl
theorem bw_481 : (.instanceMethod y_M_end : Cond) ∈ ft_big := ft_in 481 (by decide +kernel) rfl
theorem bw_482 : (.selects R_M y_M_end y_M_end : Cond) ∈ ft_big := ft_in 482 (by decide +kernel) rfl
set_option maxRecDepth 100000 in
theorem bw_483 : (.code y_M_end b_M_end 2 (some .boolean) : Cond) ∈ ft_big := ft_in 483 rfl rfl
theorem bw_484 : (.methodLink R_L 26 y_M_limit : Cond) ∈ ft_big := ft_in 484 (by decide +kernel) rfl
theorem bw_485 : (.instanceMethod y_M_limit : Cond) ∈ ft_big := ft_in 485 (by decide +kernel) rfl
theorem bw_486 : (.selects R_M y_M_limit y_M_limit : Cond) ∈ ft_big := ft_in 486 (by decide +kernel) rfl
set_option maxRecDepth 100000 in
theorem bw_487 : (.code y_M_limit b_M_limit 2 (some .boolean) : Cond) ∈ ft_big := ft_in 487 rfl rfl
theorem bw_488 : (.methodLink R_L 31 y_M_tell : Cond) ∈ ft_big := ft_in 488 (by decide +kernel) rfl
theorem bw_489 : (.instanceMethod y_M_tell : Cond) ∈ ft_big := ft_in 489 (by decide +kernel) rfl
theorem bw_490 : (.selects R_M y_M_tell y_M_tell : Cond) ∈ ft_big := ft_in 490 (by decide +kernel) rfl
set_option maxRecDepth 100000 in
theorem bw_491 : (.code y_M_tell b_M_tell 5 (some .int) : Cond) ∈ ft_big := ft_in 491 rfl rfl
theorem bw_516 : (.methodLink R_L 36 y_M_written : Cond) ∈ ft_big := ft_in 516 (by decide +kernel) rfl
theorem bw_517 : (.instanceMethod y_M_written : Cond) ∈ ft_big := ft_in 517 (by decide +kernel) rfl
theorem bw_518 : (.selects R_M y_M_written y_M_written : Cond) ∈ ft_big := ft_in 518 (by decide +kernel) rfl
set_option maxRecDepth 100000 in
theorem bw_519 : (.code y_M_written b_M_written 1 (some .int) : Cond) ∈ ft_big := ft_in 519 rfl rfl
theorem bw_520 : (.methodLink R_L 40 y_M_writtenAt : Cond) ∈ ft_big := ft_in 520 (by decide +kernel) rfl
theorem bw_521 : (.instanceMethod y_M_writtenAt : Cond) ∈ ft_big := ft_in 521 (by decide +kernel) rfl
theorem bw_522 : (.selects R_M y_M_writtenAt y_M_writtenAt : Cond) ∈ ft_big := ft_in 522 (by decide +kernel) rfl
set_option maxRecDepth 100000 in
theorem bw_523 : (.code y_M_writtenAt b_M_writtenAt 2 (some .int) : Cond) ∈ ft_big := ft_in 523 rfl rfl
theorem bw_524 : (.methodLink R_L 45 y_M_spoil : Cond) ∈ ft_big := ft_in 524 (by decide +kernel) rfl
theorem bw_525 : (.instanceMethod y_M_spoil : Cond) ∈ ft_big := ft_in 525 (by decide +kernel) rfl
theorem bw_526 : (.selects R_M y_M_spoil y_M_spoil : Cond) ∈ ft_big := ft_in 526 (by decide +kernel) rfl
set_option maxRecDepth 100000 in
theorem bw_527 : (.code y_M_spoil b_M_spoil 3 (some .boolean) : Cond) ∈ ft_big := ft_in 527 rfl rfl
theorem bw_528 : (.methodLink R_L 50 y_M_come : Cond) ∈ ft_big := ft_in 528 (by decide +kernel) rfl
theorem bw_529 : (.instanceMethod y_M_come : Cond) ∈ ft_big := ft_in 529 (by decide +kernel) rfl
theorem bw_530 : (.selects R_M y_M_come y_M_come : Cond) ∈ ft_big := ft_in 530 (by decide +kernel) rfl
set_option maxRecDepth 100000 in
theorem bw_531 : (.code y_M_come b_M_come 3 (some .int) : Cond) ∈ ft_big := ft_in 531 rfl rfl
theorem bw_564 : (.methodLink R_L 54 y_M_all : Cond) ∈ ft_big := ft_in 564 (by decide +kernel) rfl
theorem bw_565 : (.instanceMethod y_M_all : Cond) ∈ ft_big := ft_in 565 (by decide +kernel) rfl
theorem bw_566 : (.selects R_M y_M_all y_M_all : Cond) ∈ ft_big := ft_in 566 (by decide +kernel) rfl
set_option maxRecDepth 100000 in
theorem bw_567 : (.code y_M_all b_M_all 4 (some .int) : Cond) ∈ ft_big := ft_in 567 rfl rfl
theorem bw_568 : (.methodLink R_L 58 y_M_raw : Cond) ∈ ft_big := ft_in 568 (by decide +kernel) rfl
theorem bw_569 : (.instanceMethod y_M_raw : Cond) ∈ ft_big := ft_in 569 (by decide +kernel) rfl
theorem bw_570 : (.selects R_M y_M_raw y_M_raw : Cond) ∈ ft_big := ft_in 570 (by decide +kernel) rfl
set_option maxRecDepth 100000 in
theorem bw_571 : (.code y_M_raw b_M_raw 5 (some .int) : Cond) ∈ ft_big := ft_in 571 rfl rfl
theorem bw_572 : (.methodLink R_L 62 y_M_latest : Cond) ∈ ft_big := ft_in 572 (by decide +kernel) rfl
theorem bw_573 : (.instanceMethod y_M_latest : Cond) ∈ ft_big := ft_in 573 (by decide +kernel) rfl
theorem bw_574 : (.selects R_M y_M_latest y_M_latest : Cond) ∈ ft_big := ft_in 574 (by decide +kernel) rfl
set_option maxRecDepth 100000 in
theorem bw_575 : (.code y_M_latest b_M_latest 2 (some .int) : Cond) ∈ ft_big := ft_in 575 rfl rfl
theorem bw_576 : (.methodLink R_L 66 y_M_latestAt : Cond) ∈ ft_big := ft_in 576 (by decide +kernel) rfl
theorem bw_577 : (.instanceMethod y_M_latestAt : Cond) ∈ ft_big := ft_in 577 (by decide +kernel) rfl
theorem bw_578 : (.selects R_M y_M_latestAt y_M_latestAt : Cond) ∈ ft_big := ft_in 578 (by decide +kernel) rfl
set_option maxRecDepth 100000 in
theorem bw_579 : (.code y_M_latestAt b_M_latestAt 3 (some .int) : Cond) ∈ ft_big := ft_in 579 rfl rfl
theorem bw_580 : (.methodLink R_L 70 y_M_count : Cond) ∈ ft_big := ft_in 580 (by decide +kernel) rfl
theorem bw_581 : (.instanceMethod y_M_count : Cond) ∈ ft_big := ft_in 581 (by decide +kernel) rfl
theorem bw_582 : (.selects R_M y_M_count y_M_count : Cond) ∈ ft_big := ft_in 582 (by decide +kernel) rfl
set_option maxRecDepth 100000 in
theorem bw_583 : (.code y_M_count b_M_count 3 (some .int) : Cond) ∈ ft_big := ft_in 583 rfl rfl
