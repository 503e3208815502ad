theorem d_Lw_law_0 : decode code 0 = .ok (.new 7, 3) := by decide +kernel
theorem d_Lw_law_3 : decode code 3 = .ok (.dup, 1) := by decide +kernel
theorem d_Lw_law_4 : decode code 4 = .ok (.invokespecial 9, 3) := by decide +kernel
theorem d_Lw_law_7 : decode code 7 = .ok (.astore_n 1, 1) := by decide +kernel
theorem d_Lw_law_8 : decode code 8 = .ok (.new 10, 3) := by decide +kernel
theorem d_Lw_law_11 : decode code 11 = .ok (.dup, 1) := by decide +kernel
theorem d_Lw_law_12 : decode code 12 = .ok (.invokespecial 12, 3) := by decide +kernel
theorem d_Lw_law_15 : decode code 15 = .ok (.astore_n 2, 1) := by decide +kernel
theorem d_Lw_law_16 : decode code 16 = .ok (.iconst 0, 1) := by decide +kernel
theorem d_Lw_law_17 : decode code 17 = .ok (.istore_n 3, 1) := by decide +kernel
theorem d_Lw_law_18 : decode code 18 = .ok (.iload_n 3, 1) := by decide +kernel
theorem d_Lw_law_19 : decode code 19 = .ok (.aload_n 0, 1) := by decide +kernel
theorem d_Lw_law_20 : decode code 20 = .ok (.arraylength, 1) := by decide +kernel
theorem d_Lw_law_21 : decode code 21 = .ok (.iconst 4, 1) := by decide +kernel
theorem d_Lw_law_22 : decode code 22 = .ok (.isub, 1) := by decide +kernel
theorem d_Lw_law_23 : decode code 23 = .ok (.if_icmp .gt 506, 3) := by decide +kernel
theorem d_Lw_law_26 : decode code 26 = .ok (.aload_n 0, 1) := by decide +kernel
theorem d_Lw_law_27 : decode code 27 = .ok (.iload_n 3, 1) := by decide +kernel
theorem d_Lw_law_28 : decode code 28 = .ok (.iaload, 1) := by decide +kernel
theorem d_Lw_law_29 : decode code 29 = .ok (.bipush 15, 2) := by decide +kernel
theorem d_Lw_law_31 : decode code 31 = .ok (.iand, 1) := by decide +kernel
theorem d_Lw_law_32 : decode code 32 = .ok (.tableswitch 491 0 14 #[76, 139, 152, 175, 198, 221, 244, 267, 300, 323, 346, 379, 412, 445, 468], 76) := by decide +kernel
theorem d_Lw_law_108 : decode code 108 = .ok (.aload_n 1, 1) := by decide +kernel
theorem d_Lw_law_109 : decode code 109 = .ok (.aload_n 0, 1) := by decide +kernel
theorem d_Lw_law_110 : decode code 110 = .ok (.iload_n 3, 1) := by decide +kernel
theorem d_Lw_law_111 : decode code 111 = .ok (.iconst 1, 1) := by decide +kernel
theorem d_Lw_law_112 : decode code 112 = .ok (.iadd, 1) := by decide +kernel
theorem d_Lw_law_113 : decode code 113 = .ok (.iaload, 1) := by decide +kernel
theorem d_Lw_law_114 : decode code 114 = .ok (.i2l, 1) := by decide +kernel
theorem d_Lw_law_115 : decode code 115 = .ok (.bipush 32, 2) := by decide +kernel
theorem d_Lw_law_117 : decode code 117 = .ok (.lshl, 1) := by decide +kernel
theorem d_Lw_law_118 : decode code 118 = .ok (.aload_n 0, 1) := by decide +kernel
theorem d_Lw_law_119 : decode code 119 = .ok (.iload_n 3, 1) := by decide +kernel
theorem d_Lw_law_120 : decode code 120 = .ok (.iconst 2, 1) := by decide +kernel
theorem d_Lw_law_121 : decode code 121 = .ok (.iadd, 1) := by decide +kernel
theorem d_Lw_law_122 : decode code 122 = .ok (.iaload, 1) := by decide +kernel
theorem d_Lw_law_123 : decode code 123 = .ok (.i2l, 1) := by decide +kernel
theorem d_Lw_law_124 : decode code 124 = .ok (.ldc2_w 13, 3) := by decide +kernel
theorem d_Lw_law_127 : decode code 127 = .ok (.land, 1) := by decide +kernel
theorem d_Lw_law_128 : decode code 128 = .ok (.lor, 1) := by decide +kernel
theorem d_Lw_law_129 : decode code 129 = .ok (.aload_n 0, 1) := by decide +kernel
theorem d_Lw_law_130 : decode code 130 = .ok (.iload_n 3, 1) := by decide +kernel
theorem d_Lw_law_131 : decode code 131 = .ok (.iconst 3, 1) := by decide +kernel
theorem d_Lw_law_132 : decode code 132 = .ok (.iadd, 1) := by decide +kernel
theorem d_Lw_law_133 : decode code 133 = .ok (.iaload, 1) := by decide +kernel
theorem d_Lw_law_134 : decode code 134 = .ok (.invokevirtual 15, 3) := by decide +kernel
theorem d_Lw_law_137 : decode code 137 = .ok (.aload_n 2, 1) := by decide +kernel
theorem d_Lw_law_138 : decode code 138 = .ok (.aload_n 0, 1) := by decide +kernel
theorem d_Lw_law_139 : decode code 139 = .ok (.iload_n 3, 1) := by decide +kernel
theorem d_Lw_law_140 : decode code 140 = .ok (.iconst 1, 1) := by decide +kernel
theorem d_Lw_law_141 : decode code 141 = .ok (.iadd, 1) := by decide +kernel
theorem d_Lw_law_142 : decode code 142 = .ok (.iaload, 1) := by decide +kernel
theorem d_Lw_law_143 : decode code 143 = .ok (.i2l, 1) := by decide +kernel
theorem d_Lw_law_144 : decode code 144 = .ok (.bipush 32, 2) := by decide +kernel
theorem d_Lw_law_146 : decode code 146 = .ok (.lshl, 1) := by decide +kernel
theorem d_Lw_law_147 : decode code 147 = .ok (.aload_n 0, 1) := by decide +kernel
theorem d_Lw_law_148 : decode code 148 = .ok (.iload_n 3, 1) := by decide +kernel
theorem d_Lw_law_149 : decode code 149 = .ok (.iconst 2, 1) := by decide +kernel
theorem d_Lw_law_150 : decode code 150 = .ok (.iadd, 1) := by decide +kernel
theorem d_Lw_law_151 : decode code 151 = .ok (.iaload, 1) := by decide +kernel
theorem d_Lw_law_152 : decode code 152 = .ok (.i2l, 1) := by decide +kernel
theorem d_Lw_law_153 : decode code 153 = .ok (.ldc2_w 13, 3) := by decide +kernel
theorem d_Lw_law_156 : decode code 156 = .ok (.land, 1) := by decide +kernel
theorem d_Lw_law_157 : decode code 157 = .ok (.lor, 1) := by decide +kernel
theorem d_Lw_law_158 : decode code 158 = .ok (.aload_n 0, 1) := by decide +kernel
theorem d_Lw_law_159 : decode code 159 = .ok (.iload_n 3, 1) := by decide +kernel
theorem d_Lw_law_160 : decode code 160 = .ok (.iconst 3, 1) := by decide +kernel
theorem d_Lw_law_161 : decode code 161 = .ok (.iadd, 1) := by decide +kernel
theorem d_Lw_law_162 : decode code 162 = .ok (.iaload, 1) := by decide +kernel
theorem d_Lw_law_163 : decode code 163 = .ok (.invokevirtual 19, 3) := by decide +kernel
theorem d_Lw_law_166 : decode code 166 = .ok (.if_icmp .eq 357, 3) := by decide +kernel
theorem d_Lw_law_169 : decode code 169 = .ok (.iconst 0, 1) := by decide +kernel
theorem d_Lw_law_170 : decode code 170 = .ok (.ireturn, 1) := by decide +kernel
theorem d_Lw_law_171 : decode code 171 = .ok (.aload_n 1, 1) := by decide +kernel
theorem d_Lw_law_172 : decode code 172 = .ok (.invokevirtual 20, 3) := by decide +kernel
theorem d_Lw_law_175 : decode code 175 = .ok (.aload_n 2, 1) := by decide +kernel
theorem d_Lw_law_176 : decode code 176 = .ok (.invokevirtual 24, 3) := by decide +kernel
theorem d_Lw_law_179 : decode code 179 = .ok (.if_icmp .eq 344, 3) := by decide +kernel
theorem d_Lw_law_182 : decode code 182 = .ok (.iconst 0, 1) := by decide +kernel
theorem d_Lw_law_183 : decode code 183 = .ok (.ireturn, 1) := by decide +kernel
theorem d_Lw_law_184 : decode code 184 = .ok (.aload_n 1, 1) := by decide +kernel
theorem d_Lw_law_185 : decode code 185 = .ok (.aload_n 0, 1) := by decide +kernel
theorem d_Lw_law_186 : decode code 186 = .ok (.iload_n 3, 1) := by decide +kernel
theorem d_Lw_law_187 : decode code 187 = .ok (.iconst 1, 1) := by decide +kernel
theorem d_Lw_law_188 : decode code 188 = .ok (.iadd, 1) := by decide +kernel
theorem d_Lw_law_189 : decode code 189 = .ok (.iaload, 1) := by decide +kernel
theorem d_Lw_law_190 : decode code 190 = .ok (.invokevirtual 25, 3) := by decide +kernel
theorem d_Lw_law_193 : decode code 193 = .ok (.aload_n 2, 1) := by decide +kernel
theorem d_Lw_law_194 : decode code 194 = .ok (.aload_n 0, 1) := by decide +kernel
theorem d_Lw_law_195 : decode code 195 = .ok (.iload_n 3, 1) := by decide +kernel
theorem d_Lw_law_196 : decode code 196 = .ok (.iconst 1, 1) := by decide +kernel
theorem d_Lw_law_197 : decode code 197 = .ok (.iadd, 1) := by decide +kernel
theorem d_Lw_law_198 : decode code 198 = .ok (.iaload, 1) := by decide +kernel
theorem d_Lw_law_199 : decode code 199 = .ok (.invokevirtual 29, 3) := by decide +kernel
theorem d_Lw_law_202 : decode code 202 = .ok (.if_icmp .eq 321, 3) := by decide +kernel
theorem d_Lw_law_205 : decode code 205 = .ok (.iconst 0, 1) := by decide +kernel
theorem d_Lw_law_206 : decode code 206 = .ok (.ireturn, 1) := by decide +kernel
theorem d_Lw_law_207 : decode code 207 = .ok (.aload_n 1, 1) := by decide +kernel
theorem d_Lw_law_208 : decode code 208 = .ok (.aload_n 0, 1) := by decide +kernel
theorem d_Lw_law_209 : decode code 209 = .ok (.iload_n 3, 1) := by decide +kernel
theorem d_Lw_law_210 : decode code 210 = .ok (.iconst 1, 1) := by decide +kernel
theorem d_Lw_law_211 : decode code 211 = .ok (.iadd, 1) := by decide +kernel
theorem d_Lw_law_212 : decode code 212 = .ok (.iaload, 1) := by decide +kernel
theorem d_Lw_law_213 : decode code 213 = .ok (.invokevirtual 30, 3) := by decide +kernel
theorem d_Lw_law_216 : decode code 216 = .ok (.aload_n 2, 1) := by decide +kernel
theorem d_Lw_law_217 : decode code 217 = .ok (.aload_n 0, 1) := by decide +kernel
theorem d_Lw_law_218 : decode code 218 = .ok (.iload_n 3, 1) := by decide +kernel
theorem d_Lw_law_219 : decode code 219 = .ok (.iconst 1, 1) := by decide +kernel
theorem d_Lw_law_220 : decode code 220 = .ok (.iadd, 1) := by decide +kernel
theorem d_Lw_law_221 : decode code 221 = .ok (.iaload, 1) := by decide +kernel
theorem d_Lw_law_222 : decode code 222 = .ok (.invokevirtual 33, 3) := by decide +kernel
theorem d_Lw_law_225 : decode code 225 = .ok (.if_icmp .eq 298, 3) := by decide +kernel
theorem d_Lw_law_228 : decode code 228 = .ok (.iconst 0, 1) := by decide +kernel
theorem d_Lw_law_229 : decode code 229 = .ok (.ireturn, 1) := by decide +kernel
theorem d_Lw_law_230 : decode code 230 = .ok (.aload_n 1, 1) := by decide +kernel
theorem d_Lw_law_231 : decode code 231 = .ok (.aload_n 0, 1) := by decide +kernel
theorem d_Lw_law_232 : decode code 232 = .ok (.iload_n 3, 1) := by decide +kernel
theorem d_Lw_law_233 : decode code 233 = .ok (.iconst 1, 1) := by decide +kernel
theorem d_Lw_law_234 : decode code 234 = .ok (.iadd, 1) := by decide +kernel
theorem d_Lw_law_235 : decode code 235 = .ok (.iaload, 1) := by decide +kernel
theorem d_Lw_law_236 : decode code 236 = .ok (.invokevirtual 34, 3) := by decide +kernel
theorem d_Lw_law_239 : decode code 239 = .ok (.aload_n 2, 1) := by decide +kernel
theorem d_Lw_law_240 : decode code 240 = .ok (.aload_n 0, 1) := by decide +kernel
theorem d_Lw_law_241 : decode code 241 = .ok (.iload_n 3, 1) := by decide +kernel
theorem d_Lw_law_242 : decode code 242 = .ok (.iconst 1, 1) := by decide +kernel
theorem d_Lw_law_243 : decode code 243 = .ok (.iadd, 1) := by decide +kernel
theorem d_Lw_law_244 : decode code 244 = .ok (.iaload, 1) := by decide +kernel
theorem d_Lw_law_245 : decode code 245 = .ok (.invokevirtual 37, 3) := by decide +kernel
theorem d_Lw_law_248 : decode code 248 = .ok (.if_icmp .eq 275, 3) := by decide +kernel
theorem d_Lw_law_251 : decode code 251 = .ok (.iconst 0, 1) := by decide +kernel
theorem d_Lw_law_252 : decode code 252 = .ok (.ireturn, 1) := by decide +kernel
theorem d_Lw_law_253 : decode code 253 = .ok (.aload_n 1, 1) := by decide +kernel
theorem d_Lw_law_254 : decode code 254 = .ok (.aload_n 0, 1) := by decide +kernel
theorem d_Lw_law_255 : decode code 255 = .ok (.iload_n 3, 1) := by decide +kernel
theorem d_Lw_law_256 : decode code 256 = .ok (.iconst 1, 1) := by decide +kernel
theorem d_Lw_law_257 : decode code 257 = .ok (.iadd, 1) := by decide +kernel
theorem d_Lw_law_258 : decode code 258 = .ok (.iaload, 1) := by decide +kernel
theorem d_Lw_law_259 : decode code 259 = .ok (.invokevirtual 38, 3) := by decide +kernel
theorem d_Lw_law_262 : decode code 262 = .ok (.aload_n 2, 1) := by decide +kernel
theorem d_Lw_law_263 : decode code 263 = .ok (.aload_n 0, 1) := by decide +kernel
theorem d_Lw_law_264 : decode code 264 = .ok (.iload_n 3, 1) := by decide +kernel
theorem d_Lw_law_265 : decode code 265 = .ok (.iconst 1, 1) := by decide +kernel
theorem d_Lw_law_266 : decode code 266 = .ok (.iadd, 1) := by decide +kernel
theorem d_Lw_law_267 : decode code 267 = .ok (.iaload, 1) := by decide +kernel
theorem d_Lw_law_268 : decode code 268 = .ok (.invokevirtual 41, 3) := by decide +kernel
theorem d_Lw_law_271 : decode code 271 = .ok (.if_icmp .eq 252, 3) := by decide +kernel
theorem d_Lw_law_274 : decode code 274 = .ok (.iconst 0, 1) := by decide +kernel
theorem d_Lw_law_275 : decode code 275 = .ok (.ireturn, 1) := by decide +kernel
theorem d_Lw_law_276 : decode code 276 = .ok (.aload_n 1, 1) := by decide +kernel
theorem d_Lw_law_277 : decode code 277 = .ok (.aload_n 0, 1) := by decide +kernel
theorem d_Lw_law_278 : decode code 278 = .ok (.iload_n 3, 1) := by decide +kernel
theorem d_Lw_law_279 : decode code 279 = .ok (.iconst 1, 1) := by decide +kernel
theorem d_Lw_law_280 : decode code 280 = .ok (.iadd, 1) := by decide +kernel
theorem d_Lw_law_281 : decode code 281 = .ok (.iaload, 1) := by decide +kernel
theorem d_Lw_law_282 : decode code 282 = .ok (.invokevirtual 42, 3) := by decide +kernel
theorem d_Lw_law_285 : decode code 285 = .ok (.aload_n 2, 1) := by decide +kernel
theorem d_Lw_law_286 : decode code 286 = .ok (.aload_n 0, 1) := by decide +kernel
theorem d_Lw_law_287 : decode code 287 = .ok (.iload_n 3, 1) := by decide +kernel
theorem d_Lw_law_288 : decode code 288 = .ok (.iconst 1, 1) := by decide +kernel
theorem d_Lw_law_289 : decode code 289 = .ok (.iadd, 1) := by decide +kernel
theorem d_Lw_law_290 : decode code 290 = .ok (.iaload, 1) := by decide +kernel
theorem d_Lw_law_291 : decode code 291 = .ok (.invokevirtual 45, 3) := by decide +kernel
theorem d_Lw_law_294 : decode code 294 = .ok (.if_icmp .eq 229, 3) := by decide +kernel
theorem d_Lw_law_297 : decode code 297 = .ok (.iconst 0, 1) := by decide +kernel
theorem d_Lw_law_298 : decode code 298 = .ok (.ireturn, 1) := by decide +kernel
theorem d_Lw_law_299 : decode code 299 = .ok (.aload_n 1, 1) := by decide +kernel
theorem d_Lw_law_300 : decode code 300 = .ok (.aload_n 0, 1) := by decide +kernel
theorem d_Lw_law_301 : decode code 301 = .ok (.iload_n 3, 1) := by decide +kernel
theorem d_Lw_law_302 : decode code 302 = .ok (.iconst 1, 1) := by decide +kernel
theorem d_Lw_law_303 : decode code 303 = .ok (.iadd, 1) := by decide +kernel
theorem d_Lw_law_304 : decode code 304 = .ok (.iaload, 1) := by decide +kernel
theorem d_Lw_law_305 : decode code 305 = .ok (.aload_n 0, 1) := by decide +kernel
theorem d_Lw_law_306 : decode code 306 = .ok (.iload_n 3, 1) := by decide +kernel
theorem d_Lw_law_307 : decode code 307 = .ok (.iconst 2, 1) := by decide +kernel
theorem d_Lw_law_308 : decode code 308 = .ok (.iadd, 1) := by decide +kernel
theorem d_Lw_law_309 : decode code 309 = .ok (.iaload, 1) := by decide +kernel
theorem d_Lw_law_310 : decode code 310 = .ok (.invokevirtual 46, 3) := by decide +kernel
theorem d_Lw_law_313 : decode code 313 = .ok (.aload_n 2, 1) := by decide +kernel
theorem d_Lw_law_314 : decode code 314 = .ok (.aload_n 0, 1) := by decide +kernel
theorem d_Lw_law_315 : decode code 315 = .ok (.iload_n 3, 1) := by decide +kernel
theorem d_Lw_law_316 : decode code 316 = .ok (.iconst 1, 1) := by decide +kernel
theorem d_Lw_law_317 : decode code 317 = .ok (.iadd, 1) := by decide +kernel
theorem d_Lw_law_318 : decode code 318 = .ok (.iaload, 1) := by decide +kernel
theorem d_Lw_law_319 : decode code 319 = .ok (.aload_n 0, 1) := by decide +kernel
theorem d_Lw_law_320 : decode code 320 = .ok (.iload_n 3, 1) := by decide +kernel
theorem d_Lw_law_321 : decode code 321 = .ok (.iconst 2, 1) := by decide +kernel
theorem d_Lw_law_322 : decode code 322 = .ok (.iadd, 1) := by decide +kernel
theorem d_Lw_law_323 : decode code 323 = .ok (.iaload, 1) := by decide +kernel
theorem d_Lw_law_324 : decode code 324 = .ok (.invokevirtual 50, 3) := by decide +kernel
theorem d_Lw_law_327 : decode code 327 = .ok (.if_icmp .eq 196, 3) := by decide +kernel
theorem d_Lw_law_330 : decode code 330 = .ok (.iconst 0, 1) := by decide +kernel
theorem d_Lw_law_331 : decode code 331 = .ok (.ireturn, 1) := by decide +kernel
theorem d_Lw_law_332 : decode code 332 = .ok (.aload_n 1, 1) := by decide +kernel
theorem d_Lw_law_333 : decode code 333 = .ok (.aload_n 0, 1) := by decide +kernel
theorem d_Lw_law_334 : decode code 334 = .ok (.iload_n 3, 1) := by decide +kernel
theorem d_Lw_law_335 : decode code 335 = .ok (.iconst 1, 1) := by decide +kernel
theorem d_Lw_law_336 : decode code 336 = .ok (.iadd, 1) := by decide +kernel
theorem d_Lw_law_337 : decode code 337 = .ok (.iaload, 1) := by decide +kernel
theorem d_Lw_law_338 : decode code 338 = .ok (.invokevirtual 51, 3) := by decide +kernel
theorem d_Lw_law_341 : decode code 341 = .ok (.aload_n 2, 1) := by decide +kernel
theorem d_Lw_law_342 : decode code 342 = .ok (.aload_n 0, 1) := by decide +kernel
theorem d_Lw_law_343 : decode code 343 = .ok (.iload_n 3, 1) := by decide +kernel
theorem d_Lw_law_344 : decode code 344 = .ok (.iconst 1, 1) := by decide +kernel
theorem d_Lw_law_345 : decode code 345 = .ok (.iadd, 1) := by decide +kernel
theorem d_Lw_law_346 : decode code 346 = .ok (.iaload, 1) := by decide +kernel
theorem d_Lw_law_347 : decode code 347 = .ok (.invokevirtual 54, 3) := by decide +kernel
theorem d_Lw_law_350 : decode code 350 = .ok (.if_icmp .eq 173, 3) := by decide +kernel
theorem d_Lw_law_353 : decode code 353 = .ok (.iconst 0, 1) := by decide +kernel
theorem d_Lw_law_354 : decode code 354 = .ok (.ireturn, 1) := by decide +kernel
theorem d_Lw_law_355 : decode code 355 = .ok (.aload_n 1, 1) := by decide +kernel
theorem d_Lw_law_356 : decode code 356 = .ok (.aload_n 0, 1) := by decide +kernel
theorem d_Lw_law_357 : decode code 357 = .ok (.iload_n 3, 1) := by decide +kernel
theorem d_Lw_law_358 : decode code 358 = .ok (.iconst 1, 1) := by decide +kernel
theorem d_Lw_law_359 : decode code 359 = .ok (.iadd, 1) := by decide +kernel
theorem d_Lw_law_360 : decode code 360 = .ok (.iaload, 1) := by decide +kernel
theorem d_Lw_law_361 : decode code 361 = .ok (.invokevirtual 55, 3) := by decide +kernel
theorem d_Lw_law_364 : decode code 364 = .ok (.aload_n 2, 1) := by decide +kernel
theorem d_Lw_law_365 : decode code 365 = .ok (.aload_n 0, 1) := by decide +kernel
theorem d_Lw_law_366 : decode code 366 = .ok (.iload_n 3, 1) := by decide +kernel
theorem d_Lw_law_367 : decode code 367 = .ok (.iconst 1, 1) := by decide +kernel
theorem d_Lw_law_368 : decode code 368 = .ok (.iadd, 1) := by decide +kernel
theorem d_Lw_law_369 : decode code 369 = .ok (.iaload, 1) := by decide +kernel
theorem d_Lw_law_370 : decode code 370 = .ok (.invokevirtual 58, 3) := by decide +kernel
theorem d_Lw_law_373 : decode code 373 = .ok (.if_icmp .eq 150, 3) := by decide +kernel
theorem d_Lw_law_376 : decode code 376 = .ok (.iconst 0, 1) := by decide +kernel
theorem d_Lw_law_377 : decode code 377 = .ok (.ireturn, 1) := by decide +kernel
theorem d_Lw_law_378 : decode code 378 = .ok (.aload_n 1, 1) := by decide +kernel
theorem d_Lw_law_379 : decode code 379 = .ok (.aload_n 0, 1) := by decide +kernel
theorem d_Lw_law_380 : decode code 380 = .ok (.iload_n 3, 1) := by decide +kernel
theorem d_Lw_law_381 : decode code 381 = .ok (.iconst 1, 1) := by decide +kernel
theorem d_Lw_law_382 : decode code 382 = .ok (.iadd, 1) := by decide +kernel
theorem d_Lw_law_383 : decode code 383 = .ok (.iaload, 1) := by decide +kernel
theorem d_Lw_law_384 : decode code 384 = .ok (.aload_n 0, 1) := by decide +kernel
theorem d_Lw_law_385 : decode code 385 = .ok (.iload_n 3, 1) := by decide +kernel
theorem d_Lw_law_386 : decode code 386 = .ok (.iconst 2, 1) := by decide +kernel
theorem d_Lw_law_387 : decode code 387 = .ok (.iadd, 1) := by decide +kernel
theorem d_Lw_law_388 : decode code 388 = .ok (.iaload, 1) := by decide +kernel
theorem d_Lw_law_389 : decode code 389 = .ok (.invokevirtual 59, 3) := by decide +kernel
theorem d_Lw_law_392 : decode code 392 = .ok (.aload_n 2, 1) := by decide +kernel
theorem d_Lw_law_393 : decode code 393 = .ok (.aload_n 0, 1) := by decide +kernel
theorem d_Lw_law_394 : decode code 394 = .ok (.iload_n 3, 1) := by decide +kernel
theorem d_Lw_law_395 : decode code 395 = .ok (.iconst 1, 1) := by decide +kernel
theorem d_Lw_law_396 : decode code 396 = .ok (.iadd, 1) := by decide +kernel
theorem d_Lw_law_397 : decode code 397 = .ok (.iaload, 1) := by decide +kernel
theorem d_Lw_law_398 : decode code 398 = .ok (.aload_n 0, 1) := by decide +kernel
theorem d_Lw_law_399 : decode code 399 = .ok (.iload_n 3, 1) := by decide +kernel
theorem d_Lw_law_400 : decode code 400 = .ok (.iconst 2, 1) := by decide +kernel
theorem d_Lw_law_401 : decode code 401 = .ok (.iadd, 1) := by decide +kernel
theorem d_Lw_law_402 : decode code 402 = .ok (.iaload, 1) := by decide +kernel
theorem d_Lw_law_403 : decode code 403 = .ok (.invokevirtual 62, 3) := by decide +kernel
theorem d_Lw_law_406 : decode code 406 = .ok (.if_icmp .eq 117, 3) := by decide +kernel
theorem d_Lw_law_409 : decode code 409 = .ok (.iconst 0, 1) := by decide +kernel
theorem d_Lw_law_410 : decode code 410 = .ok (.ireturn, 1) := by decide +kernel
theorem d_Lw_law_411 : decode code 411 = .ok (.aload_n 1, 1) := by decide +kernel
theorem d_Lw_law_412 : decode code 412 = .ok (.aload_n 0, 1) := by decide +kernel
theorem d_Lw_law_413 : decode code 413 = .ok (.iload_n 3, 1) := by decide +kernel
theorem d_Lw_law_414 : decode code 414 = .ok (.iconst 1, 1) := by decide +kernel
theorem d_Lw_law_415 : decode code 415 = .ok (.iadd, 1) := by decide +kernel
theorem d_Lw_law_416 : decode code 416 = .ok (.iaload, 1) := by decide +kernel
theorem d_Lw_law_417 : decode code 417 = .ok (.aload_n 0, 1) := by decide +kernel
theorem d_Lw_law_418 : decode code 418 = .ok (.iload_n 3, 1) := by decide +kernel
theorem d_Lw_law_419 : decode code 419 = .ok (.iconst 2, 1) := by decide +kernel
theorem d_Lw_law_420 : decode code 420 = .ok (.iadd, 1) := by decide +kernel
theorem d_Lw_law_421 : decode code 421 = .ok (.iaload, 1) := by decide +kernel
theorem d_Lw_law_422 : decode code 422 = .ok (.invokevirtual 63, 3) := by decide +kernel
theorem d_Lw_law_425 : decode code 425 = .ok (.aload_n 2, 1) := by decide +kernel
theorem d_Lw_law_426 : decode code 426 = .ok (.aload_n 0, 1) := by decide +kernel
theorem d_Lw_law_427 : decode code 427 = .ok (.iload_n 3, 1) := by decide +kernel
theorem d_Lw_law_428 : decode code 428 = .ok (.iconst 1, 1) := by decide +kernel
theorem d_Lw_law_429 : decode code 429 = .ok (.iadd, 1) := by decide +kernel
theorem d_Lw_law_430 : decode code 430 = .ok (.iaload, 1) := by decide +kernel
theorem d_Lw_law_431 : decode code 431 = .ok (.aload_n 0, 1) := by decide +kernel
theorem d_Lw_law_432 : decode code 432 = .ok (.iload_n 3, 1) := by decide +kernel
theorem d_Lw_law_433 : decode code 433 = .ok (.iconst 2, 1) := by decide +kernel
theorem d_Lw_law_434 : decode code 434 = .ok (.iadd, 1) := by decide +kernel
theorem d_Lw_law_435 : decode code 435 = .ok (.iaload, 1) := by decide +kernel
theorem d_Lw_law_436 : decode code 436 = .ok (.invokevirtual 66, 3) := by decide +kernel
theorem d_Lw_law_439 : decode code 439 = .ok (.if_icmp .eq 84, 3) := by decide +kernel
theorem d_Lw_law_442 : decode code 442 = .ok (.iconst 0, 1) := by decide +kernel
theorem d_Lw_law_443 : decode code 443 = .ok (.ireturn, 1) := by decide +kernel
theorem d_Lw_law_444 : decode code 444 = .ok (.aload_n 1, 1) := by decide +kernel
theorem d_Lw_law_445 : decode code 445 = .ok (.aload_n 0, 1) := by decide +kernel
theorem d_Lw_law_446 : decode code 446 = .ok (.iload_n 3, 1) := by decide +kernel
theorem d_Lw_law_447 : decode code 447 = .ok (.iconst 1, 1) := by decide +kernel
theorem d_Lw_law_448 : decode code 448 = .ok (.iadd, 1) := by decide +kernel
theorem d_Lw_law_449 : decode code 449 = .ok (.iaload, 1) := by decide +kernel
theorem d_Lw_law_450 : decode code 450 = .ok (.aload_n 0, 1) := by decide +kernel
theorem d_Lw_law_451 : decode code 451 = .ok (.iload_n 3, 1) := by decide +kernel
theorem d_Lw_law_452 : decode code 452 = .ok (.iconst 2, 1) := by decide +kernel
theorem d_Lw_law_453 : decode code 453 = .ok (.iadd, 1) := by decide +kernel
theorem d_Lw_law_454 : decode code 454 = .ok (.iaload, 1) := by decide +kernel
theorem d_Lw_law_455 : decode code 455 = .ok (.invokevirtual 67, 3) := by decide +kernel
theorem d_Lw_law_458 : decode code 458 = .ok (.aload_n 2, 1) := by decide +kernel
theorem d_Lw_law_459 : decode code 459 = .ok (.aload_n 0, 1) := by decide +kernel
theorem d_Lw_law_460 : decode code 460 = .ok (.iload_n 3, 1) := by decide +kernel
theorem d_Lw_law_461 : decode code 461 = .ok (.iconst 1, 1) := by decide +kernel
theorem d_Lw_law_462 : decode code 462 = .ok (.iadd, 1) := by decide +kernel
theorem d_Lw_law_463 : decode code 463 = .ok (.iaload, 1) := by decide +kernel
theorem d_Lw_law_464 : decode code 464 = .ok (.aload_n 0, 1) := by decide +kernel
theorem d_Lw_law_465 : decode code 465 = .ok (.iload_n 3, 1) := by decide +kernel
theorem d_Lw_law_466 : decode code 466 = .ok (.iconst 2, 1) := by decide +kernel
theorem d_Lw_law_467 : decode code 467 = .ok (.iadd, 1) := by decide +kernel
theorem d_Lw_law_468 : decode code 468 = .ok (.iaload, 1) := by decide +kernel
theorem d_Lw_law_469 : decode code 469 = .ok (.invokevirtual 70, 3) := by decide +kernel
theorem d_Lw_law_472 : decode code 472 = .ok (.if_icmp .eq 51, 3) := by decide +kernel
theorem d_Lw_law_475 : decode code 475 = .ok (.iconst 0, 1) := by decide +kernel
theorem d_Lw_law_476 : decode code 476 = .ok (.ireturn, 1) := by decide +kernel
theorem d_Lw_law_477 : decode code 477 = .ok (.aload_n 1, 1) := by decide +kernel
theorem d_Lw_law_478 : decode code 478 = .ok (.aload_n 0, 1) := by decide +kernel
theorem d_Lw_law_479 : decode code 479 = .ok (.iload_n 3, 1) := by decide +kernel
theorem d_Lw_law_480 : decode code 480 = .ok (.iconst 1, 1) := by decide +kernel
theorem d_Lw_law_481 : decode code 481 = .ok (.iadd, 1) := by decide +kernel
theorem d_Lw_law_482 : decode code 482 = .ok (.iaload, 1) := by decide +kernel
theorem d_Lw_law_483 : decode code 483 = .ok (.invokevirtual 71, 3) := by decide +kernel
theorem d_Lw_law_486 : decode code 486 = .ok (.aload_n 2, 1) := by decide +kernel
theorem d_Lw_law_487 : decode code 487 = .ok (.aload_n 0, 1) := by decide +kernel
theorem d_Lw_law_488 : decode code 488 = .ok (.iload_n 3, 1) := by decide +kernel
theorem d_Lw_law_489 : decode code 489 = .ok (.iconst 1, 1) := by decide +kernel
theorem d_Lw_law_490 : decode code 490 = .ok (.iadd, 1) := by decide +kernel
theorem d_Lw_law_491 : decode code 491 = .ok (.iaload, 1) := by decide +kernel
theorem d_Lw_law_492 : decode code 492 = .ok (.invokevirtual 74, 3) := by decide +kernel
theorem d_Lw_law_495 : decode code 495 = .ok (.if_icmp .eq 28, 3) := by decide +kernel
theorem d_Lw_law_498 : decode code 498 = .ok (.iconst 0, 1) := by decide +kernel
theorem d_Lw_law_499 : decode code 499 = .ok (.ireturn, 1) := by decide +kernel
theorem d_Lw_law_500 : decode code 500 = .ok (.aload_n 1, 1) := by decide +kernel
theorem d_Lw_law_501 : decode code 501 = .ok (.aload_n 0, 1) := by decide +kernel
theorem d_Lw_law_502 : decode code 502 = .ok (.iload_n 3, 1) := by decide +kernel
theorem d_Lw_law_503 : decode code 503 = .ok (.iconst 1, 1) := by decide +kernel
theorem d_Lw_law_504 : decode code 504 = .ok (.iadd, 1) := by decide +kernel
theorem d_Lw_law_505 : decode code 505 = .ok (.iaload, 1) := by decide +kernel
theorem d_Lw_law_506 : decode code 506 = .ok (.invokevirtual 75, 3) := by decide +kernel
theorem d_Lw_law_509 : decode code 509 = .ok (.aload_n 2, 1) := by decide +kernel
theorem d_Lw_law_510 : decode code 510 = .ok (.aload_n 0, 1) := by decide +kernel
theorem d_Lw_law_511 : decode code 511 = .ok (.iload_n 3, 1) := by decide +kernel
theorem d_Lw_law_512 : decode code 512 = .ok (.iconst 1, 1) := by decide +kernel
theorem d_Lw_law_513 : decode code 513 = .ok (.iadd, 1) := by decide +kernel
theorem d_Lw_law_514 : decode code 514 = .ok (.iaload, 1) := by decide +kernel
theorem d_Lw_law_515 : decode code 515 = .ok (.invokevirtual 78, 3) := by decide +kernel
theorem d_Lw_law_518 : decode code 518 = .ok (.if_icmp .eq 5, 3) := by decide +kernel
theorem d_Lw_law_521 : decode code 521 = .ok (.iconst 0, 1) := by decide +kernel
theorem d_Lw_law_522 : decode code 522 = .ok (.ireturn, 1) := by decide +kernel
theorem d_Lw_law_523 : decode code 523 = .ok (.iinc 3 4, 3) := by decide +kernel
theorem d_Lw_law_526 : decode code 526 = .ok (.goto (-508), 3) := by decide +kernel
theorem d_Lw_law_529 : decode code 529 = .ok (.iconst 1, 1) := by decide +kernel
theorem d_Lw_law_530 : decode code 530 = .ok (.ireturn, 1) := by decide +kernel
