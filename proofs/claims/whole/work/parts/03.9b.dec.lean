/-! printed by wip/whole/gen3.py: what stands at each place of a method, and what the tables say there -/
-- 181 ImageFileLaw_law
theorem e181_0 : decode (px_cd 181) 0 = .ok (.new 7, 3) := by decide +kernel
theorem e181_3 : decode (px_cd 181) 3 = .ok (.dup, 1) := by decide +kernel
theorem e181_4 : decode (px_cd 181) 4 = .ok (.invokespecial 9, 3) := by decide +kernel
theorem e181_7 : decode (px_cd 181) 7 = .ok (.astore_n 1, 1) := by decide +kernel
theorem e181_8 : decode (px_cd 181) 8 = .ok (.new 10, 3) := by decide +kernel
theorem e181_11 : decode (px_cd 181) 11 = .ok (.dup, 1) := by decide +kernel
theorem e181_12 : decode (px_cd 181) 12 = .ok (.invokespecial 12, 3) := by decide +kernel
theorem e181_15 : decode (px_cd 181) 15 = .ok (.astore_n 2, 1) := by decide +kernel
theorem e181_16 : decode (px_cd 181) 16 = .ok (.iconst 0, 1) := by decide +kernel
theorem e181_17 : decode (px_cd 181) 17 = .ok (.istore_n 3, 1) := by decide +kernel
theorem e181_18 : decode (px_cd 181) 18 = .ok (.iload_n 3, 1) := by decide +kernel
theorem e181_19 : decode (px_cd 181) 19 = .ok (.aload_n 0, 1) := by decide +kernel
theorem e181_20 : decode (px_cd 181) 20 = .ok (.arraylength, 1) := by decide +kernel
theorem e181_21 : decode (px_cd 181) 21 = .ok (.iconst 5, 1) := by decide +kernel
theorem e181_22 : decode (px_cd 181) 22 = .ok (.isub, 1) := by decide +kernel
theorem e181_23 : decode (px_cd 181) 23 = .ok (.if_icmp .gt 742, 3) := by decide +kernel
theorem e181_26 : decode (px_cd 181) 26 = .ok (.aload_n 0, 1) := by decide +kernel
theorem e181_27 : decode (px_cd 181) 27 = .ok (.iload_n 3, 1) := by decide +kernel
theorem e181_28 : decode (px_cd 181) 28 = .ok (.iaload, 1) := by decide +kernel
theorem e181_29 : decode (px_cd 181) 29 = .ok (.bipush 31, 2) := by decide +kernel
theorem e181_31 : decode (px_cd 181) 31 = .ok (.iand, 1) := by decide +kernel
theorem e181_32 : decode (px_cd 181) 32 = .ok (.tableswitch 727 0 22 #[108, 119, 140, 163, 206, 229, 302, 351, 364, 377, 400, 463, 486, 519, 532, 545, 556, 589, 612, 635, 658, 681, 704], 108) := by decide +kernel
theorem e181_140 : decode (px_cd 181) 140 = .ok (.aload_n 1, 1) := by decide +kernel
theorem e181_141 : decode (px_cd 181) 141 = .ok (.invokevirtual 13, 3) := by decide +kernel
theorem e181_144 : decode (px_cd 181) 144 = .ok (.aload_n 2, 1) := by decide +kernel
theorem e181_145 : decode (px_cd 181) 145 = .ok (.invokevirtual 16, 3) := by decide +kernel
theorem e181_148 : decode (px_cd 181) 148 = .ok (.goto 611, 3) := by decide +kernel
theorem e181_151 : decode (px_cd 181) 151 = .ok (.aload_n 1, 1) := by decide +kernel
theorem e181_152 : decode (px_cd 181) 152 = .ok (.aload_n 0, 1) := by decide +kernel
theorem e181_153 : decode (px_cd 181) 153 = .ok (.iload_n 3, 1) := by decide +kernel
theorem e181_154 : decode (px_cd 181) 154 = .ok (.iconst 1, 1) := by decide +kernel
theorem e181_155 : decode (px_cd 181) 155 = .ok (.iadd, 1) := by decide +kernel
theorem e181_156 : decode (px_cd 181) 156 = .ok (.iaload, 1) := by decide +kernel
theorem e181_157 : decode (px_cd 181) 157 = .ok (.invokevirtual 17, 3) := by decide +kernel
theorem e181_160 : decode (px_cd 181) 160 = .ok (.aload_n 2, 1) := by decide +kernel
theorem e181_161 : decode (px_cd 181) 161 = .ok (.aload_n 0, 1) := by decide +kernel
theorem e181_162 : decode (px_cd 181) 162 = .ok (.iload_n 3, 1) := by decide +kernel
theorem e181_163 : decode (px_cd 181) 163 = .ok (.iconst 1, 1) := by decide +kernel
theorem e181_164 : decode (px_cd 181) 164 = .ok (.iadd, 1) := by decide +kernel
theorem e181_165 : decode (px_cd 181) 165 = .ok (.iaload, 1) := by decide +kernel
theorem e181_166 : decode (px_cd 181) 166 = .ok (.invokevirtual 21, 3) := by decide +kernel
theorem e181_169 : decode (px_cd 181) 169 = .ok (.goto 590, 3) := by decide +kernel
theorem e181_172 : decode (px_cd 181) 172 = .ok (.aload_n 1, 1) := by decide +kernel
theorem e181_173 : decode (px_cd 181) 173 = .ok (.aload_n 0, 1) := by decide +kernel
theorem e181_174 : decode (px_cd 181) 174 = .ok (.iload_n 3, 1) := by decide +kernel
theorem e181_175 : decode (px_cd 181) 175 = .ok (.iconst 1, 1) := by decide +kernel
theorem e181_176 : decode (px_cd 181) 176 = .ok (.iadd, 1) := by decide +kernel
theorem e181_177 : decode (px_cd 181) 177 = .ok (.iaload, 1) := by decide +kernel
theorem e181_178 : decode (px_cd 181) 178 = .ok (.invokevirtual 22, 3) := by decide +kernel
theorem e181_181 : decode (px_cd 181) 181 = .ok (.aload_n 2, 1) := by decide +kernel
theorem e181_182 : decode (px_cd 181) 182 = .ok (.aload_n 0, 1) := by decide +kernel
theorem e181_183 : decode (px_cd 181) 183 = .ok (.iload_n 3, 1) := by decide +kernel
theorem e181_184 : decode (px_cd 181) 184 = .ok (.iconst 1, 1) := by decide +kernel
theorem e181_185 : decode (px_cd 181) 185 = .ok (.iadd, 1) := by decide +kernel
theorem e181_186 : decode (px_cd 181) 186 = .ok (.iaload, 1) := by decide +kernel
theorem e181_187 : decode (px_cd 181) 187 = .ok (.invokevirtual 26, 3) := by decide +kernel
theorem e181_190 : decode (px_cd 181) 190 = .ok (.if_icmp .eq 569, 3) := by decide +kernel
theorem e181_193 : decode (px_cd 181) 193 = .ok (.iconst 0, 1) := by decide +kernel
theorem e181_194 : decode (px_cd 181) 194 = .ok (.ireturn, 1) := by decide +kernel
theorem e181_195 : decode (px_cd 181) 195 = .ok (.aload_n 1, 1) := by decide +kernel
theorem e181_196 : decode (px_cd 181) 196 = .ok (.aload_n 0, 1) := by decide +kernel
theorem e181_197 : decode (px_cd 181) 197 = .ok (.iload_n 3, 1) := by decide +kernel
theorem e181_198 : decode (px_cd 181) 198 = .ok (.iconst 1, 1) := by decide +kernel
theorem e181_199 : decode (px_cd 181) 199 = .ok (.iadd, 1) := by decide +kernel
theorem e181_200 : decode (px_cd 181) 200 = .ok (.iaload, 1) := by decide +kernel
theorem e181_201 : decode (px_cd 181) 201 = .ok (.aload_n 0, 1) := by decide +kernel
theorem e181_202 : decode (px_cd 181) 202 = .ok (.iload_n 3, 1) := by decide +kernel
theorem e181_203 : decode (px_cd 181) 203 = .ok (.iconst 2, 1) := by decide +kernel
theorem e181_204 : decode (px_cd 181) 204 = .ok (.iadd, 1) := by decide +kernel
theorem e181_205 : decode (px_cd 181) 205 = .ok (.iaload, 1) := by decide +kernel
theorem e181_206 : decode (px_cd 181) 206 = .ok (.aload_n 0, 1) := by decide +kernel
theorem e181_207 : decode (px_cd 181) 207 = .ok (.iload_n 3, 1) := by decide +kernel
theorem e181_208 : decode (px_cd 181) 208 = .ok (.iconst 3, 1) := by decide +kernel
theorem e181_209 : decode (px_cd 181) 209 = .ok (.iadd, 1) := by decide +kernel
theorem e181_210 : decode (px_cd 181) 210 = .ok (.iaload, 1) := by decide +kernel
theorem e181_211 : decode (px_cd 181) 211 = .ok (.invokevirtual 27, 3) := by decide +kernel
theorem e181_214 : decode (px_cd 181) 214 = .ok (.aload_n 2, 1) := by decide +kernel
theorem e181_215 : decode (px_cd 181) 215 = .ok (.aload_n 0, 1) := by decide +kernel
theorem e181_216 : decode (px_cd 181) 216 = .ok (.iload_n 3, 1) := by decide +kernel
theorem e181_217 : decode (px_cd 181) 217 = .ok (.iconst 1, 1) := by decide +kernel
theorem e181_218 : decode (px_cd 181) 218 = .ok (.iadd, 1) := by decide +kernel
theorem e181_219 : decode (px_cd 181) 219 = .ok (.iaload, 1) := by decide +kernel
theorem e181_220 : decode (px_cd 181) 220 = .ok (.aload_n 0, 1) := by decide +kernel
theorem e181_221 : decode (px_cd 181) 221 = .ok (.iload_n 3, 1) := by decide +kernel
theorem e181_222 : decode (px_cd 181) 222 = .ok (.iconst 2, 1) := by decide +kernel
theorem e181_223 : decode (px_cd 181) 223 = .ok (.iadd, 1) := by decide +kernel
theorem e181_224 : decode (px_cd 181) 224 = .ok (.iaload, 1) := by decide +kernel
theorem e181_225 : decode (px_cd 181) 225 = .ok (.aload_n 0, 1) := by decide +kernel
theorem e181_226 : decode (px_cd 181) 226 = .ok (.iload_n 3, 1) := by decide +kernel
theorem e181_227 : decode (px_cd 181) 227 = .ok (.iconst 3, 1) := by decide +kernel
theorem e181_228 : decode (px_cd 181) 228 = .ok (.iadd, 1) := by decide +kernel
theorem e181_229 : decode (px_cd 181) 229 = .ok (.iaload, 1) := by decide +kernel
theorem e181_230 : decode (px_cd 181) 230 = .ok (.invokevirtual 31, 3) := by decide +kernel
theorem e181_233 : decode (px_cd 181) 233 = .ok (.if_icmp .eq 526, 3) := by decide +kernel
theorem e181_236 : decode (px_cd 181) 236 = .ok (.iconst 0, 1) := by decide +kernel
theorem e181_237 : decode (px_cd 181) 237 = .ok (.ireturn, 1) := by decide +kernel
theorem e181_238 : decode (px_cd 181) 238 = .ok (.aload_n 1, 1) := by decide +kernel
theorem e181_239 : decode (px_cd 181) 239 = .ok (.aload_n 0, 1) := by decide +kernel
theorem e181_240 : decode (px_cd 181) 240 = .ok (.iload_n 3, 1) := by decide +kernel
theorem e181_241 : decode (px_cd 181) 241 = .ok (.iconst 1, 1) := by decide +kernel
theorem e181_242 : decode (px_cd 181) 242 = .ok (.iadd, 1) := by decide +kernel
theorem e181_243 : decode (px_cd 181) 243 = .ok (.iaload, 1) := by decide +kernel
theorem e181_244 : decode (px_cd 181) 244 = .ok (.invokevirtual 32, 3) := by decide +kernel
theorem e181_247 : decode (px_cd 181) 247 = .ok (.aload_n 2, 1) := by decide +kernel
theorem e181_248 : decode (px_cd 181) 248 = .ok (.aload_n 0, 1) := by decide +kernel
theorem e181_249 : decode (px_cd 181) 249 = .ok (.iload_n 3, 1) := by decide +kernel
theorem e181_250 : decode (px_cd 181) 250 = .ok (.iconst 1, 1) := by decide +kernel
theorem e181_251 : decode (px_cd 181) 251 = .ok (.iadd, 1) := by decide +kernel
theorem e181_252 : decode (px_cd 181) 252 = .ok (.iaload, 1) := by decide +kernel
theorem e181_253 : decode (px_cd 181) 253 = .ok (.invokevirtual 35, 3) := by decide +kernel
theorem e181_256 : decode (px_cd 181) 256 = .ok (.if_icmp .eq 503, 3) := by decide +kernel
theorem e181_259 : decode (px_cd 181) 259 = .ok (.iconst 0, 1) := by decide +kernel
theorem e181_260 : decode (px_cd 181) 260 = .ok (.ireturn, 1) := by decide +kernel
theorem e181_261 : decode (px_cd 181) 261 = .ok (.aload_n 1, 1) := by decide +kernel
theorem e181_262 : decode (px_cd 181) 262 = .ok (.aload_n 0, 1) := by decide +kernel
theorem e181_263 : decode (px_cd 181) 263 = .ok (.iload_n 3, 1) := by decide +kernel
theorem e181_264 : decode (px_cd 181) 264 = .ok (.iconst 1, 1) := by decide +kernel
theorem e181_265 : decode (px_cd 181) 265 = .ok (.iadd, 1) := by decide +kernel
theorem e181_266 : decode (px_cd 181) 266 = .ok (.iaload, 1) := by decide +kernel
theorem e181_267 : decode (px_cd 181) 267 = .ok (.aload_n 0, 1) := by decide +kernel
theorem e181_268 : decode (px_cd 181) 268 = .ok (.iload_n 3, 1) := by decide +kernel
theorem e181_269 : decode (px_cd 181) 269 = .ok (.iconst 2, 1) := by decide +kernel
theorem e181_270 : decode (px_cd 181) 270 = .ok (.iadd, 1) := by decide +kernel
theorem e181_271 : decode (px_cd 181) 271 = .ok (.iaload, 1) := by decide +kernel
theorem e181_272 : decode (px_cd 181) 272 = .ok (.aload_n 0, 1) := by decide +kernel
theorem e181_273 : decode (px_cd 181) 273 = .ok (.iload_n 3, 1) := by decide +kernel
theorem e181_274 : decode (px_cd 181) 274 = .ok (.iconst 3, 1) := by decide +kernel
theorem e181_275 : decode (px_cd 181) 275 = .ok (.iadd, 1) := by decide +kernel
theorem e181_276 : decode (px_cd 181) 276 = .ok (.iaload, 1) := by decide +kernel
theorem e181_277 : decode (px_cd 181) 277 = .ok (.i2l, 1) := by decide +kernel
theorem e181_278 : decode (px_cd 181) 278 = .ok (.bipush 32, 2) := by decide +kernel
theorem e181_280 : decode (px_cd 181) 280 = .ok (.lshl, 1) := by decide +kernel
theorem e181_281 : decode (px_cd 181) 281 = .ok (.aload_n 0, 1) := by decide +kernel
theorem e181_282 : decode (px_cd 181) 282 = .ok (.iload_n 3, 1) := by decide +kernel
theorem e181_283 : decode (px_cd 181) 283 = .ok (.iconst 4, 1) := by decide +kernel
theorem e181_284 : decode (px_cd 181) 284 = .ok (.iadd, 1) := by decide +kernel
theorem e181_285 : decode (px_cd 181) 285 = .ok (.iaload, 1) := by decide +kernel
theorem e181_286 : decode (px_cd 181) 286 = .ok (.i2l, 1) := by decide +kernel
theorem e181_287 : decode (px_cd 181) 287 = .ok (.ldc2_w 36, 3) := by decide +kernel
theorem e181_290 : decode (px_cd 181) 290 = .ok (.land, 1) := by decide +kernel
theorem e181_291 : decode (px_cd 181) 291 = .ok (.lor, 1) := by decide +kernel
theorem e181_292 : decode (px_cd 181) 292 = .ok (.invokevirtual 38, 3) := by decide +kernel
theorem e181_295 : decode (px_cd 181) 295 = .ok (.aload_n 2, 1) := by decide +kernel
theorem e181_296 : decode (px_cd 181) 296 = .ok (.aload_n 0, 1) := by decide +kernel
theorem e181_297 : decode (px_cd 181) 297 = .ok (.iload_n 3, 1) := by decide +kernel
theorem e181_298 : decode (px_cd 181) 298 = .ok (.iconst 1, 1) := by decide +kernel
theorem e181_299 : decode (px_cd 181) 299 = .ok (.iadd, 1) := by decide +kernel
theorem e181_300 : decode (px_cd 181) 300 = .ok (.iaload, 1) := by decide +kernel
theorem e181_301 : decode (px_cd 181) 301 = .ok (.aload_n 0, 1) := by decide +kernel
theorem e181_302 : decode (px_cd 181) 302 = .ok (.iload_n 3, 1) := by decide +kernel
theorem e181_303 : decode (px_cd 181) 303 = .ok (.iconst 2, 1) := by decide +kernel
theorem e181_304 : decode (px_cd 181) 304 = .ok (.iadd, 1) := by decide +kernel
theorem e181_305 : decode (px_cd 181) 305 = .ok (.iaload, 1) := by decide +kernel
theorem e181_306 : decode (px_cd 181) 306 = .ok (.aload_n 0, 1) := by decide +kernel
theorem e181_307 : decode (px_cd 181) 307 = .ok (.iload_n 3, 1) := by decide +kernel
theorem e181_308 : decode (px_cd 181) 308 = .ok (.iconst 3, 1) := by decide +kernel
theorem e181_309 : decode (px_cd 181) 309 = .ok (.iadd, 1) := by decide +kernel
theorem e181_310 : decode (px_cd 181) 310 = .ok (.iaload, 1) := by decide +kernel
theorem e181_311 : decode (px_cd 181) 311 = .ok (.i2l, 1) := by decide +kernel
theorem e181_312 : decode (px_cd 181) 312 = .ok (.bipush 32, 2) := by decide +kernel
theorem e181_314 : decode (px_cd 181) 314 = .ok (.lshl, 1) := by decide +kernel
theorem e181_315 : decode (px_cd 181) 315 = .ok (.aload_n 0, 1) := by decide +kernel
theorem e181_316 : decode (px_cd 181) 316 = .ok (.iload_n 3, 1) := by decide +kernel
theorem e181_317 : decode (px_cd 181) 317 = .ok (.iconst 4, 1) := by decide +kernel
theorem e181_318 : decode (px_cd 181) 318 = .ok (.iadd, 1) := by decide +kernel
theorem e181_319 : decode (px_cd 181) 319 = .ok (.iaload, 1) := by decide +kernel
theorem e181_320 : decode (px_cd 181) 320 = .ok (.i2l, 1) := by decide +kernel
theorem e181_321 : decode (px_cd 181) 321 = .ok (.ldc2_w 36, 3) := by decide +kernel
theorem e181_324 : decode (px_cd 181) 324 = .ok (.land, 1) := by decide +kernel
theorem e181_325 : decode (px_cd 181) 325 = .ok (.lor, 1) := by decide +kernel
theorem e181_326 : decode (px_cd 181) 326 = .ok (.invokevirtual 42, 3) := by decide +kernel
theorem e181_329 : decode (px_cd 181) 329 = .ok (.if_icmp .eq 430, 3) := by decide +kernel
theorem e181_332 : decode (px_cd 181) 332 = .ok (.iconst 0, 1) := by decide +kernel
theorem e181_333 : decode (px_cd 181) 333 = .ok (.ireturn, 1) := by decide +kernel
theorem e181_334 : decode (px_cd 181) 334 = .ok (.aload_n 1, 1) := by decide +kernel
theorem e181_335 : decode (px_cd 181) 335 = .ok (.aload_n 0, 1) := by decide +kernel
theorem e181_336 : decode (px_cd 181) 336 = .ok (.iload_n 3, 1) := by decide +kernel
theorem e181_337 : decode (px_cd 181) 337 = .ok (.iconst 1, 1) := by decide +kernel
theorem e181_338 : decode (px_cd 181) 338 = .ok (.iadd, 1) := by decide +kernel
theorem e181_339 : decode (px_cd 181) 339 = .ok (.iaload, 1) := by decide +kernel
theorem e181_340 : decode (px_cd 181) 340 = .ok (.aload_n 0, 1) := by decide +kernel
theorem e181_341 : decode (px_cd 181) 341 = .ok (.iload_n 3, 1) := by decide +kernel
theorem e181_342 : decode (px_cd 181) 342 = .ok (.iconst 2, 1) := by decide +kernel
theorem e181_343 : decode (px_cd 181) 343 = .ok (.iadd, 1) := by decide +kernel
theorem e181_344 : decode (px_cd 181) 344 = .ok (.iaload, 1) := by decide +kernel
theorem e181_345 : decode (px_cd 181) 345 = .ok (.ifCond .eq 7, 3) := by decide +kernel
theorem e181_348 : decode (px_cd 181) 348 = .ok (.iconst 1, 1) := by decide +kernel
theorem e181_349 : decode (px_cd 181) 349 = .ok (.goto 4, 3) := by decide +kernel
theorem e181_352 : decode (px_cd 181) 352 = .ok (.iconst 0, 1) := by decide +kernel
theorem e181_353 : decode (px_cd 181) 353 = .ok (.invokevirtual 43, 3) := by decide +kernel
theorem e181_356 : decode (px_cd 181) 356 = .ok (.aload_n 2, 1) := by decide +kernel
theorem e181_357 : decode (px_cd 181) 357 = .ok (.aload_n 0, 1) := by decide +kernel
theorem e181_358 : decode (px_cd 181) 358 = .ok (.iload_n 3, 1) := by decide +kernel
theorem e181_359 : decode (px_cd 181) 359 = .ok (.iconst 1, 1) := by decide +kernel
theorem e181_360 : decode (px_cd 181) 360 = .ok (.iadd, 1) := by decide +kernel
theorem e181_361 : decode (px_cd 181) 361 = .ok (.iaload, 1) := by decide +kernel
theorem e181_362 : decode (px_cd 181) 362 = .ok (.aload_n 0, 1) := by decide +kernel
theorem e181_363 : decode (px_cd 181) 363 = .ok (.iload_n 3, 1) := by decide +kernel
theorem e181_364 : decode (px_cd 181) 364 = .ok (.iconst 2, 1) := by decide +kernel
theorem e181_365 : decode (px_cd 181) 365 = .ok (.iadd, 1) := by decide +kernel
theorem e181_366 : decode (px_cd 181) 366 = .ok (.iaload, 1) := by decide +kernel
theorem e181_367 : decode (px_cd 181) 367 = .ok (.ifCond .eq 7, 3) := by decide +kernel
theorem e181_370 : decode (px_cd 181) 370 = .ok (.iconst 1, 1) := by decide +kernel
theorem e181_371 : decode (px_cd 181) 371 = .ok (.goto 4, 3) := by decide +kernel
theorem e181_374 : decode (px_cd 181) 374 = .ok (.iconst 0, 1) := by decide +kernel
theorem e181_375 : decode (px_cd 181) 375 = .ok (.invokevirtual 47, 3) := by decide +kernel
theorem e181_378 : decode (px_cd 181) 378 = .ok (.if_icmp .eq 381, 3) := by decide +kernel
theorem e181_381 : decode (px_cd 181) 381 = .ok (.iconst 0, 1) := by decide +kernel
theorem e181_382 : decode (px_cd 181) 382 = .ok (.ireturn, 1) := by decide +kernel
theorem e181_383 : decode (px_cd 181) 383 = .ok (.aload_n 1, 1) := by decide +kernel
theorem e181_384 : decode (px_cd 181) 384 = .ok (.invokevirtual 48, 3) := by decide +kernel
theorem e181_387 : decode (px_cd 181) 387 = .ok (.aload_n 2, 1) := by decide +kernel
theorem e181_388 : decode (px_cd 181) 388 = .ok (.invokevirtual 52, 3) := by decide +kernel
theorem e181_391 : decode (px_cd 181) 391 = .ok (.if_icmp .eq 368, 3) := by decide +kernel
theorem e181_394 : decode (px_cd 181) 394 = .ok (.iconst 0, 1) := by decide +kernel
theorem e181_395 : decode (px_cd 181) 395 = .ok (.ireturn, 1) := by decide +kernel
theorem e181_396 : decode (px_cd 181) 396 = .ok (.aload_n 1, 1) := by decide +kernel
theorem e181_397 : decode (px_cd 181) 397 = .ok (.invokevirtual 53, 3) := by decide +kernel
theorem e181_400 : decode (px_cd 181) 400 = .ok (.aload_n 2, 1) := by decide +kernel
theorem e181_401 : decode (px_cd 181) 401 = .ok (.invokevirtual 56, 3) := by decide +kernel
theorem e181_404 : decode (px_cd 181) 404 = .ok (.if_icmp .eq 355, 3) := by decide +kernel
theorem e181_407 : decode (px_cd 181) 407 = .ok (.iconst 0, 1) := by decide +kernel
theorem e181_408 : decode (px_cd 181) 408 = .ok (.ireturn, 1) := by decide +kernel
theorem e181_409 : decode (px_cd 181) 409 = .ok (.aload_n 1, 1) := by decide +kernel
theorem e181_410 : decode (px_cd 181) 410 = .ok (.aload_n 0, 1) := by decide +kernel
theorem e181_411 : decode (px_cd 181) 411 = .ok (.iload_n 3, 1) := by decide +kernel
theorem e181_412 : decode (px_cd 181) 412 = .ok (.iconst 1, 1) := by decide +kernel
theorem e181_413 : decode (px_cd 181) 413 = .ok (.iadd, 1) := by decide +kernel
theorem e181_414 : decode (px_cd 181) 414 = .ok (.iaload, 1) := by decide +kernel
theorem e181_415 : decode (px_cd 181) 415 = .ok (.invokevirtual 57, 3) := by decide +kernel
theorem e181_418 : decode (px_cd 181) 418 = .ok (.aload_n 2, 1) := by decide +kernel
theorem e181_419 : decode (px_cd 181) 419 = .ok (.aload_n 0, 1) := by decide +kernel
theorem e181_420 : decode (px_cd 181) 420 = .ok (.iload_n 3, 1) := by decide +kernel
theorem e181_421 : decode (px_cd 181) 421 = .ok (.iconst 1, 1) := by decide +kernel
theorem e181_422 : decode (px_cd 181) 422 = .ok (.iadd, 1) := by decide +kernel
theorem e181_423 : decode (px_cd 181) 423 = .ok (.iaload, 1) := by decide +kernel
theorem e181_424 : decode (px_cd 181) 424 = .ok (.invokevirtual 61, 3) := by decide +kernel
theorem e181_427 : decode (px_cd 181) 427 = .ok (.if_icmp .eq 332, 3) := by decide +kernel
theorem e181_430 : decode (px_cd 181) 430 = .ok (.iconst 0, 1) := by decide +kernel
theorem e181_431 : decode (px_cd 181) 431 = .ok (.ireturn, 1) := by decide +kernel
theorem e181_432 : decode (px_cd 181) 432 = .ok (.aload_n 1, 1) := by decide +kernel
theorem e181_433 : decode (px_cd 181) 433 = .ok (.aload_n 0, 1) := by decide +kernel
theorem e181_434 : decode (px_cd 181) 434 = .ok (.iload_n 3, 1) := by decide +kernel
theorem e181_435 : decode (px_cd 181) 435 = .ok (.iconst 1, 1) := by decide +kernel
theorem e181_436 : decode (px_cd 181) 436 = .ok (.iadd, 1) := by decide +kernel
theorem e181_437 : decode (px_cd 181) 437 = .ok (.iaload, 1) := by decide +kernel
theorem e181_438 : decode (px_cd 181) 438 = .ok (.aload_n 0, 1) := by decide +kernel
theorem e181_439 : decode (px_cd 181) 439 = .ok (.iload_n 3, 1) := by decide +kernel
theorem e181_440 : decode (px_cd 181) 440 = .ok (.iconst 2, 1) := by decide +kernel
theorem e181_441 : decode (px_cd 181) 441 = .ok (.iadd, 1) := by decide +kernel
theorem e181_442 : decode (px_cd 181) 442 = .ok (.iaload, 1) := by decide +kernel
theorem e181_443 : decode (px_cd 181) 443 = .ok (.i2l, 1) := by decide +kernel
theorem e181_444 : decode (px_cd 181) 444 = .ok (.bipush 32, 2) := by decide +kernel
theorem e181_446 : decode (px_cd 181) 446 = .ok (.lshl, 1) := by decide +kernel
theorem e181_447 : decode (px_cd 181) 447 = .ok (.aload_n 0, 1) := by decide +kernel
theorem e181_448 : decode (px_cd 181) 448 = .ok (.iload_n 3, 1) := by decide +kernel
theorem e181_449 : decode (px_cd 181) 449 = .ok (.iconst 3, 1) := by decide +kernel
theorem e181_450 : decode (px_cd 181) 450 = .ok (.iadd, 1) := by decide +kernel
theorem e181_451 : decode (px_cd 181) 451 = .ok (.iaload, 1) := by decide +kernel
theorem e181_452 : decode (px_cd 181) 452 = .ok (.i2l, 1) := by decide +kernel
theorem e181_453 : decode (px_cd 181) 453 = .ok (.ldc2_w 36, 3) := by decide +kernel
theorem e181_456 : decode (px_cd 181) 456 = .ok (.land, 1) := by decide +kernel
theorem e181_457 : decode (px_cd 181) 457 = .ok (.lor, 1) := by decide +kernel
theorem e181_458 : decode (px_cd 181) 458 = .ok (.invokevirtual 62, 3) := by decide +kernel
theorem e181_461 : decode (px_cd 181) 461 = .ok (.aload_n 2, 1) := by decide +kernel
theorem e181_462 : decode (px_cd 181) 462 = .ok (.aload_n 0, 1) := by decide +kernel
theorem e181_463 : decode (px_cd 181) 463 = .ok (.iload_n 3, 1) := by decide +kernel
theorem e181_464 : decode (px_cd 181) 464 = .ok (.iconst 1, 1) := by decide +kernel
theorem e181_465 : decode (px_cd 181) 465 = .ok (.iadd, 1) := by decide +kernel
theorem e181_466 : decode (px_cd 181) 466 = .ok (.iaload, 1) := by decide +kernel
theorem e181_467 : decode (px_cd 181) 467 = .ok (.aload_n 0, 1) := by decide +kernel
theorem e181_468 : decode (px_cd 181) 468 = .ok (.iload_n 3, 1) := by decide +kernel
theorem e181_469 : decode (px_cd 181) 469 = .ok (.iconst 2, 1) := by decide +kernel
theorem e181_470 : decode (px_cd 181) 470 = .ok (.iadd, 1) := by decide +kernel
theorem e181_471 : decode (px_cd 181) 471 = .ok (.iaload, 1) := by decide +kernel
theorem e181_472 : decode (px_cd 181) 472 = .ok (.i2l, 1) := by decide +kernel
theorem e181_473 : decode (px_cd 181) 473 = .ok (.bipush 32, 2) := by decide +kernel
theorem e181_475 : decode (px_cd 181) 475 = .ok (.lshl, 1) := by decide +kernel
theorem e181_476 : decode (px_cd 181) 476 = .ok (.aload_n 0, 1) := by decide +kernel
theorem e181_477 : decode (px_cd 181) 477 = .ok (.iload_n 3, 1) := by decide +kernel
theorem e181_478 : decode (px_cd 181) 478 = .ok (.iconst 3, 1) := by decide +kernel
theorem e181_479 : decode (px_cd 181) 479 = .ok (.iadd, 1) := by decide +kernel
theorem e181_480 : decode (px_cd 181) 480 = .ok (.iaload, 1) := by decide +kernel
theorem e181_481 : decode (px_cd 181) 481 = .ok (.i2l, 1) := by decide +kernel
theorem e181_482 : decode (px_cd 181) 482 = .ok (.ldc2_w 36, 3) := by decide +kernel
theorem e181_485 : decode (px_cd 181) 485 = .ok (.land, 1) := by decide +kernel
theorem e181_486 : decode (px_cd 181) 486 = .ok (.lor, 1) := by decide +kernel
theorem e181_487 : decode (px_cd 181) 487 = .ok (.invokevirtual 66, 3) := by decide +kernel
theorem e181_490 : decode (px_cd 181) 490 = .ok (.if_icmp .eq 269, 3) := by decide +kernel
theorem e181_493 : decode (px_cd 181) 493 = .ok (.iconst 0, 1) := by decide +kernel
theorem e181_494 : decode (px_cd 181) 494 = .ok (.ireturn, 1) := by decide +kernel
theorem e181_495 : decode (px_cd 181) 495 = .ok (.aload_n 1, 1) := by decide +kernel
theorem e181_496 : decode (px_cd 181) 496 = .ok (.aload_n 0, 1) := by decide +kernel
theorem e181_497 : decode (px_cd 181) 497 = .ok (.iload_n 3, 1) := by decide +kernel
theorem e181_498 : decode (px_cd 181) 498 = .ok (.iconst 1, 1) := by decide +kernel
theorem e181_499 : decode (px_cd 181) 499 = .ok (.iadd, 1) := by decide +kernel
theorem e181_500 : decode (px_cd 181) 500 = .ok (.iaload, 1) := by decide +kernel
theorem e181_501 : decode (px_cd 181) 501 = .ok (.invokevirtual 67, 3) := by decide +kernel
theorem e181_504 : decode (px_cd 181) 504 = .ok (.aload_n 2, 1) := by decide +kernel
theorem e181_505 : decode (px_cd 181) 505 = .ok (.aload_n 0, 1) := by decide +kernel
theorem e181_506 : decode (px_cd 181) 506 = .ok (.iload_n 3, 1) := by decide +kernel
theorem e181_507 : decode (px_cd 181) 507 = .ok (.iconst 1, 1) := by decide +kernel
theorem e181_508 : decode (px_cd 181) 508 = .ok (.iadd, 1) := by decide +kernel
theorem e181_509 : decode (px_cd 181) 509 = .ok (.iaload, 1) := by decide +kernel
theorem e181_510 : decode (px_cd 181) 510 = .ok (.invokevirtual 70, 3) := by decide +kernel
theorem e181_513 : decode (px_cd 181) 513 = .ok (.if_icmp .eq 246, 3) := by decide +kernel
theorem e181_516 : decode (px_cd 181) 516 = .ok (.iconst 0, 1) := by decide +kernel
theorem e181_517 : decode (px_cd 181) 517 = .ok (.ireturn, 1) := by decide +kernel
theorem e181_518 : decode (px_cd 181) 518 = .ok (.aload_n 1, 1) := by decide +kernel
theorem e181_519 : decode (px_cd 181) 519 = .ok (.aload_n 0, 1) := by decide +kernel
theorem e181_520 : decode (px_cd 181) 520 = .ok (.iload_n 3, 1) := by decide +kernel
theorem e181_521 : decode (px_cd 181) 521 = .ok (.iconst 1, 1) := by decide +kernel
theorem e181_522 : decode (px_cd 181) 522 = .ok (.iadd, 1) := by decide +kernel
theorem e181_523 : decode (px_cd 181) 523 = .ok (.iaload, 1) := by decide +kernel
theorem e181_524 : decode (px_cd 181) 524 = .ok (.aload_n 0, 1) := by decide +kernel
theorem e181_525 : decode (px_cd 181) 525 = .ok (.iload_n 3, 1) := by decide +kernel
theorem e181_526 : decode (px_cd 181) 526 = .ok (.iconst 2, 1) := by decide +kernel
theorem e181_527 : decode (px_cd 181) 527 = .ok (.iadd, 1) := by decide +kernel
theorem e181_528 : decode (px_cd 181) 528 = .ok (.iaload, 1) := by decide +kernel
theorem e181_529 : decode (px_cd 181) 529 = .ok (.invokevirtual 71, 3) := by decide +kernel
theorem e181_532 : decode (px_cd 181) 532 = .ok (.aload_n 2, 1) := by decide +kernel
theorem e181_533 : decode (px_cd 181) 533 = .ok (.aload_n 0, 1) := by decide +kernel
theorem e181_534 : decode (px_cd 181) 534 = .ok (.iload_n 3, 1) := by decide +kernel
theorem e181_535 : decode (px_cd 181) 535 = .ok (.iconst 1, 1) := by decide +kernel
theorem e181_536 : decode (px_cd 181) 536 = .ok (.iadd, 1) := by decide +kernel
theorem e181_537 : decode (px_cd 181) 537 = .ok (.iaload, 1) := by decide +kernel
theorem e181_538 : decode (px_cd 181) 538 = .ok (.aload_n 0, 1) := by decide +kernel
theorem e181_539 : decode (px_cd 181) 539 = .ok (.iload_n 3, 1) := by decide +kernel
theorem e181_540 : decode (px_cd 181) 540 = .ok (.iconst 2, 1) := by decide +kernel
theorem e181_541 : decode (px_cd 181) 541 = .ok (.iadd, 1) := by decide +kernel
theorem e181_542 : decode (px_cd 181) 542 = .ok (.iaload, 1) := by decide +kernel
theorem e181_543 : decode (px_cd 181) 543 = .ok (.invokevirtual 75, 3) := by decide +kernel
theorem e181_546 : decode (px_cd 181) 546 = .ok (.if_icmp .eq 213, 3) := by decide +kernel
theorem e181_549 : decode (px_cd 181) 549 = .ok (.iconst 0, 1) := by decide +kernel
theorem e181_550 : decode (px_cd 181) 550 = .ok (.ireturn, 1) := by decide +kernel
theorem e181_551 : decode (px_cd 181) 551 = .ok (.aload_n 1, 1) := by decide +kernel
theorem e181_552 : decode (px_cd 181) 552 = .ok (.invokevirtual 76, 3) := by decide +kernel
theorem e181_555 : decode (px_cd 181) 555 = .ok (.aload_n 2, 1) := by decide +kernel
theorem e181_556 : decode (px_cd 181) 556 = .ok (.invokevirtual 79, 3) := by decide +kernel
theorem e181_559 : decode (px_cd 181) 559 = .ok (.if_icmp .eq 200, 3) := by decide +kernel
theorem e181_562 : decode (px_cd 181) 562 = .ok (.iconst 0, 1) := by decide +kernel
theorem e181_563 : decode (px_cd 181) 563 = .ok (.ireturn, 1) := by decide +kernel
theorem e181_564 : decode (px_cd 181) 564 = .ok (.aload_n 1, 1) := by decide +kernel
theorem e181_565 : decode (px_cd 181) 565 = .ok (.invokevirtual 80, 3) := by decide +kernel
theorem e181_568 : decode (px_cd 181) 568 = .ok (.aload_n 2, 1) := by decide +kernel
theorem e181_569 : decode (px_cd 181) 569 = .ok (.invokevirtual 83, 3) := by decide +kernel
theorem e181_572 : decode (px_cd 181) 572 = .ok (.if_icmp .eq 187, 3) := by decide +kernel
theorem e181_575 : decode (px_cd 181) 575 = .ok (.iconst 0, 1) := by decide +kernel
theorem e181_576 : decode (px_cd 181) 576 = .ok (.ireturn, 1) := by decide +kernel
theorem e181_577 : decode (px_cd 181) 577 = .ok (.aload_n 1, 1) := by decide +kernel
theorem e181_578 : decode (px_cd 181) 578 = .ok (.invokevirtual 84, 3) := by decide +kernel
theorem e181_581 : decode (px_cd 181) 581 = .ok (.aload_n 2, 1) := by decide +kernel
theorem e181_582 : decode (px_cd 181) 582 = .ok (.invokevirtual 87, 3) := by decide +kernel
theorem e181_585 : decode (px_cd 181) 585 = .ok (.goto 174, 3) := by decide +kernel
theorem e181_588 : decode (px_cd 181) 588 = .ok (.aload_n 1, 1) := by decide +kernel
theorem e181_589 : decode (px_cd 181) 589 = .ok (.aload_n 0, 1) := by decide +kernel
theorem e181_590 : decode (px_cd 181) 590 = .ok (.iload_n 3, 1) := by decide +kernel
theorem e181_591 : decode (px_cd 181) 591 = .ok (.iconst 1, 1) := by decide +kernel
theorem e181_592 : decode (px_cd 181) 592 = .ok (.iadd, 1) := by decide +kernel
theorem e181_593 : decode (px_cd 181) 593 = .ok (.iaload, 1) := by decide +kernel
theorem e181_594 : decode (px_cd 181) 594 = .ok (.aload_n 0, 1) := by decide +kernel
theorem e181_595 : decode (px_cd 181) 595 = .ok (.iload_n 3, 1) := by decide +kernel
theorem e181_596 : decode (px_cd 181) 596 = .ok (.iconst 2, 1) := by decide +kernel
theorem e181_597 : decode (px_cd 181) 597 = .ok (.iadd, 1) := by decide +kernel
theorem e181_598 : decode (px_cd 181) 598 = .ok (.iaload, 1) := by decide +kernel
theorem e181_599 : decode (px_cd 181) 599 = .ok (.invokevirtual 88, 3) := by decide +kernel
theorem e181_602 : decode (px_cd 181) 602 = .ok (.aload_n 2, 1) := by decide +kernel
theorem e181_603 : decode (px_cd 181) 603 = .ok (.aload_n 0, 1) := by decide +kernel
theorem e181_604 : decode (px_cd 181) 604 = .ok (.iload_n 3, 1) := by decide +kernel
theorem e181_605 : decode (px_cd 181) 605 = .ok (.iconst 1, 1) := by decide +kernel
theorem e181_606 : decode (px_cd 181) 606 = .ok (.iadd, 1) := by decide +kernel
theorem e181_607 : decode (px_cd 181) 607 = .ok (.iaload, 1) := by decide +kernel
theorem e181_608 : decode (px_cd 181) 608 = .ok (.aload_n 0, 1) := by decide +kernel
theorem e181_609 : decode (px_cd 181) 609 = .ok (.iload_n 3, 1) := by decide +kernel
theorem e181_610 : decode (px_cd 181) 610 = .ok (.iconst 2, 1) := by decide +kernel
theorem e181_611 : decode (px_cd 181) 611 = .ok (.iadd, 1) := by decide +kernel
theorem e181_612 : decode (px_cd 181) 612 = .ok (.iaload, 1) := by decide +kernel
theorem e181_613 : decode (px_cd 181) 613 = .ok (.invokevirtual 91, 3) := by decide +kernel
theorem e181_616 : decode (px_cd 181) 616 = .ok (.if_icmp .eq 143, 3) := by decide +kernel
theorem e181_619 : decode (px_cd 181) 619 = .ok (.iconst 0, 1) := by decide +kernel
theorem e181_620 : decode (px_cd 181) 620 = .ok (.ireturn, 1) := by decide +kernel
theorem e181_621 : decode (px_cd 181) 621 = .ok (.aload_n 1, 1) := by decide +kernel
theorem e181_622 : decode (px_cd 181) 622 = .ok (.aload_n 0, 1) := by decide +kernel
theorem e181_623 : decode (px_cd 181) 623 = .ok (.iload_n 3, 1) := by decide +kernel
theorem e181_624 : decode (px_cd 181) 624 = .ok (.iconst 1, 1) := by decide +kernel
theorem e181_625 : decode (px_cd 181) 625 = .ok (.iadd, 1) := by decide +kernel
theorem e181_626 : decode (px_cd 181) 626 = .ok (.iaload, 1) := by decide +kernel
theorem e181_627 : decode (px_cd 181) 627 = .ok (.invokevirtual 92, 3) := by decide +kernel
theorem e181_630 : decode (px_cd 181) 630 = .ok (.aload_n 2, 1) := by decide +kernel
theorem e181_631 : decode (px_cd 181) 631 = .ok (.aload_n 0, 1) := by decide +kernel
theorem e181_632 : decode (px_cd 181) 632 = .ok (.iload_n 3, 1) := by decide +kernel
theorem e181_633 : decode (px_cd 181) 633 = .ok (.iconst 1, 1) := by decide +kernel
theorem e181_634 : decode (px_cd 181) 634 = .ok (.iadd, 1) := by decide +kernel
theorem e181_635 : decode (px_cd 181) 635 = .ok (.iaload, 1) := by decide +kernel
theorem e181_636 : decode (px_cd 181) 636 = .ok (.invokevirtual 95, 3) := by decide +kernel
theorem e181_639 : decode (px_cd 181) 639 = .ok (.if_icmp .eq 120, 3) := by decide +kernel
theorem e181_642 : decode (px_cd 181) 642 = .ok (.iconst 0, 1) := by decide +kernel
theorem e181_643 : decode (px_cd 181) 643 = .ok (.ireturn, 1) := by decide +kernel
theorem e181_644 : decode (px_cd 181) 644 = .ok (.aload_n 1, 1) := by decide +kernel
theorem e181_645 : decode (px_cd 181) 645 = .ok (.aload_n 0, 1) := by decide +kernel
theorem e181_646 : decode (px_cd 181) 646 = .ok (.iload_n 3, 1) := by decide +kernel
theorem e181_647 : decode (px_cd 181) 647 = .ok (.iconst 1, 1) := by decide +kernel
theorem e181_648 : decode (px_cd 181) 648 = .ok (.iadd, 1) := by decide +kernel
theorem e181_649 : decode (px_cd 181) 649 = .ok (.iaload, 1) := by decide +kernel
theorem e181_650 : decode (px_cd 181) 650 = .ok (.invokevirtual 96, 3) := by decide +kernel
theorem e181_653 : decode (px_cd 181) 653 = .ok (.aload_n 2, 1) := by decide +kernel
theorem e181_654 : decode (px_cd 181) 654 = .ok (.aload_n 0, 1) := by decide +kernel
theorem e181_655 : decode (px_cd 181) 655 = .ok (.iload_n 3, 1) := by decide +kernel
theorem e181_656 : decode (px_cd 181) 656 = .ok (.iconst 1, 1) := by decide +kernel
theorem e181_657 : decode (px_cd 181) 657 = .ok (.iadd, 1) := by decide +kernel
theorem e181_658 : decode (px_cd 181) 658 = .ok (.iaload, 1) := by decide +kernel
theorem e181_659 : decode (px_cd 181) 659 = .ok (.invokevirtual 99, 3) := by decide +kernel
theorem e181_662 : decode (px_cd 181) 662 = .ok (.if_icmp .eq 97, 3) := by decide +kernel
theorem e181_665 : decode (px_cd 181) 665 = .ok (.iconst 0, 1) := by decide +kernel
theorem e181_666 : decode (px_cd 181) 666 = .ok (.ireturn, 1) := by decide +kernel
theorem e181_667 : decode (px_cd 181) 667 = .ok (.aload_n 1, 1) := by decide +kernel
theorem e181_668 : decode (px_cd 181) 668 = .ok (.aload_n 0, 1) := by decide +kernel
theorem e181_669 : decode (px_cd 181) 669 = .ok (.iload_n 3, 1) := by decide +kernel
theorem e181_670 : decode (px_cd 181) 670 = .ok (.iconst 1, 1) := by decide +kernel
theorem e181_671 : decode (px_cd 181) 671 = .ok (.iadd, 1) := by decide +kernel
theorem e181_672 : decode (px_cd 181) 672 = .ok (.iaload, 1) := by decide +kernel
theorem e181_673 : decode (px_cd 181) 673 = .ok (.invokevirtual 100, 3) := by decide +kernel
theorem e181_676 : decode (px_cd 181) 676 = .ok (.aload_n 2, 1) := by decide +kernel
theorem e181_677 : decode (px_cd 181) 677 = .ok (.aload_n 0, 1) := by decide +kernel
theorem e181_678 : decode (px_cd 181) 678 = .ok (.iload_n 3, 1) := by decide +kernel
theorem e181_679 : decode (px_cd 181) 679 = .ok (.iconst 1, 1) := by decide +kernel
theorem e181_680 : decode (px_cd 181) 680 = .ok (.iadd, 1) := by decide +kernel
theorem e181_681 : decode (px_cd 181) 681 = .ok (.iaload, 1) := by decide +kernel
theorem e181_682 : decode (px_cd 181) 682 = .ok (.invokevirtual 103, 3) := by decide +kernel
theorem e181_685 : decode (px_cd 181) 685 = .ok (.if_icmp .eq 74, 3) := by decide +kernel
theorem e181_688 : decode (px_cd 181) 688 = .ok (.iconst 0, 1) := by decide +kernel
theorem e181_689 : decode (px_cd 181) 689 = .ok (.ireturn, 1) := by decide +kernel
theorem e181_690 : decode (px_cd 181) 690 = .ok (.aload_n 1, 1) := by decide +kernel
theorem e181_691 : decode (px_cd 181) 691 = .ok (.aload_n 0, 1) := by decide +kernel
theorem e181_692 : decode (px_cd 181) 692 = .ok (.iload_n 3, 1) := by decide +kernel
theorem e181_693 : decode (px_cd 181) 693 = .ok (.iconst 1, 1) := by decide +kernel
theorem e181_694 : decode (px_cd 181) 694 = .ok (.iadd, 1) := by decide +kernel
theorem e181_695 : decode (px_cd 181) 695 = .ok (.iaload, 1) := by decide +kernel
theorem e181_696 : decode (px_cd 181) 696 = .ok (.invokevirtual 104, 3) := by decide +kernel
theorem e181_699 : decode (px_cd 181) 699 = .ok (.aload_n 2, 1) := by decide +kernel
theorem e181_700 : decode (px_cd 181) 700 = .ok (.aload_n 0, 1) := by decide +kernel
theorem e181_701 : decode (px_cd 181) 701 = .ok (.iload_n 3, 1) := by decide +kernel
theorem e181_702 : decode (px_cd 181) 702 = .ok (.iconst 1, 1) := by decide +kernel
theorem e181_703 : decode (px_cd 181) 703 = .ok (.iadd, 1) := by decide +kernel
theorem e181_704 : decode (px_cd 181) 704 = .ok (.iaload, 1) := by decide +kernel
theorem e181_705 : decode (px_cd 181) 705 = .ok (.invokevirtual 107, 3) := by decide +kernel
theorem e181_708 : decode (px_cd 181) 708 = .ok (.if_icmp .eq 51, 3) := by decide +kernel
theorem e181_711 : decode (px_cd 181) 711 = .ok (.iconst 0, 1) := by decide +kernel
theorem e181_712 : decode (px_cd 181) 712 = .ok (.ireturn, 1) := by decide +kernel
theorem e181_713 : decode (px_cd 181) 713 = .ok (.aload_n 1, 1) := by decide +kernel
theorem e181_714 : decode (px_cd 181) 714 = .ok (.aload_n 0, 1) := by decide +kernel
theorem e181_715 : decode (px_cd 181) 715 = .ok (.iload_n 3, 1) := by decide +kernel
theorem e181_716 : decode (px_cd 181) 716 = .ok (.iconst 1, 1) := by decide +kernel
theorem e181_717 : decode (px_cd 181) 717 = .ok (.iadd, 1) := by decide +kernel
theorem e181_718 : decode (px_cd 181) 718 = .ok (.iaload, 1) := by decide +kernel
theorem e181_719 : decode (px_cd 181) 719 = .ok (.invokevirtual 108, 3) := by decide +kernel
theorem e181_722 : decode (px_cd 181) 722 = .ok (.aload_n 2, 1) := by decide +kernel
theorem e181_723 : decode (px_cd 181) 723 = .ok (.aload_n 0, 1) := by decide +kernel
theorem e181_724 : decode (px_cd 181) 724 = .ok (.iload_n 3, 1) := by decide +kernel
theorem e181_725 : decode (px_cd 181) 725 = .ok (.iconst 1, 1) := by decide +kernel
theorem e181_726 : decode (px_cd 181) 726 = .ok (.iadd, 1) := by decide +kernel
theorem e181_727 : decode (px_cd 181) 727 = .ok (.iaload, 1) := by decide +kernel
theorem e181_728 : decode (px_cd 181) 728 = .ok (.invokevirtual 111, 3) := by decide +kernel
theorem e181_731 : decode (px_cd 181) 731 = .ok (.if_icmp .eq 28, 3) := by decide +kernel
theorem e181_734 : decode (px_cd 181) 734 = .ok (.iconst 0, 1) := by decide +kernel
theorem e181_735 : decode (px_cd 181) 735 = .ok (.ireturn, 1) := by decide +kernel
theorem e181_736 : decode (px_cd 181) 736 = .ok (.aload_n 1, 1) := by decide +kernel
theorem e181_737 : decode (px_cd 181) 737 = .ok (.aload_n 0, 1) := by decide +kernel
theorem e181_738 : decode (px_cd 181) 738 = .ok (.iload_n 3, 1) := by decide +kernel
theorem e181_739 : decode (px_cd 181) 739 = .ok (.iconst 1, 1) := by decide +kernel
theorem e181_740 : decode (px_cd 181) 740 = .ok (.iadd, 1) := by decide +kernel
theorem e181_741 : decode (px_cd 181) 741 = .ok (.iaload, 1) := by decide +kernel
theorem e181_742 : decode (px_cd 181) 742 = .ok (.invokevirtual 112, 3) := by decide +kernel
theorem e181_745 : decode (px_cd 181) 745 = .ok (.aload_n 2, 1) := by decide +kernel
theorem e181_746 : decode (px_cd 181) 746 = .ok (.aload_n 0, 1) := by decide +kernel
theorem e181_747 : decode (px_cd 181) 747 = .ok (.iload_n 3, 1) := by decide +kernel
theorem e181_748 : decode (px_cd 181) 748 = .ok (.iconst 1, 1) := by decide +kernel
theorem e181_749 : decode (px_cd 181) 749 = .ok (.iadd, 1) := by decide +kernel
theorem e181_750 : decode (px_cd 181) 750 = .ok (.iaload, 1) := by decide +kernel
theorem e181_751 : decode (px_cd 181) 751 = .ok (.invokevirtual 115, 3) := by decide +kernel
theorem e181_754 : decode (px_cd 181) 754 = .ok (.if_icmp .eq 5, 3) := by decide +kernel
theorem e181_757 : decode (px_cd 181) 757 = .ok (.iconst 0, 1) := by decide +kernel
theorem e181_758 : decode (px_cd 181) 758 = .ok (.ireturn, 1) := by decide +kernel
theorem e181_759 : decode (px_cd 181) 759 = .ok (.iinc 3 5, 3) := by decide +kernel
theorem e181_762 : decode (px_cd 181) 762 = .ok (.goto (-744), 3) := by decide +kernel
theorem e181_765 : decode (px_cd 181) 765 = .ok (.iconst 1, 1) := by decide +kernel
theorem e181_766 : decode (px_cd 181) 766 = .ok (.ireturn, 1) := by decide +kernel
