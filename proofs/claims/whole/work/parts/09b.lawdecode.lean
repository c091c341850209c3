theorem dW_law_0 : decode code 0 = .ok (.new 7, 3) := by decide +kernel
theorem dW_law_3 : decode code 3 = .ok (.dup, 1) := by decide +kernel
theorem dW_law_4 : decode code 4 = .ok (.invokespecial 9, 3) := by decide +kernel
theorem dW_law_7 : decode code 7 = .ok (.astore_n 1, 1) := by decide +kernel
theorem dW_law_8 : decode code 8 = .ok (.new 10, 3) := by decide +kernel
theorem dW_law_11 : decode code 11 = .ok (.dup, 1) := by decide +kernel
theorem dW_law_12 : decode code 12 = .ok (.invokespecial 12, 3) := by decide +kernel
theorem dW_law_15 : decode code 15 = .ok (.astore_n 2, 1) := by decide +kernel
theorem dW_law_16 : decode code 16 = .ok (.iconst 0, 1) := by decide +kernel
theorem dW_law_17 : decode code 17 = .ok (.istore_n 3, 1) := by decide +kernel
theorem dW_law_18 : decode code 18 = .ok (.iload_n 3, 1) := by decide +kernel
theorem dW_law_19 : decode code 19 = .ok (.aload_n 0, 1) := by decide +kernel
theorem dW_law_20 : decode code 20 = .ok (.arraylength, 1) := by decide +kernel
theorem dW_law_21 : decode code 21 = .ok (.bipush 7, 2) := by decide +kernel
theorem dW_law_23 : decode code 23 = .ok (.isub, 1) := by decide +kernel
theorem dW_law_24 : decode code 24 = .ok (.if_icmp .gt 1103, 3) := by decide +kernel
theorem dW_law_27 : decode code 27 = .ok (.aload_n 0, 1) := by decide +kernel
theorem dW_law_28 : decode code 28 = .ok (.iload_n 3, 1) := by decide +kernel
theorem dW_law_29 : decode code 29 = .ok (.iaload, 1) := by decide +kernel
theorem dW_law_30 : decode code 30 = .ok (.bipush 31, 2) := by decide +kernel
theorem dW_law_32 : decode code 32 = .ok (.iand, 1) := by decide +kernel
theorem dW_law_33 : decode code 33 = .ok (.tableswitch 1088 0 26 #[123, 136, 149, 252, 295, 338, 381, 414, 447, 480, 553, 586, 599, 612, 625, 638, 681, 725, 738, 751, 794, 827, 942, 965, 998, 1032, 1065], 123) := by decide +kernel
theorem dW_law_156 : decode code 156 = .ok (.aload_n 1, 1) := by decide +kernel
theorem dW_law_157 : decode code 157 = .ok (.invokevirtual 13, 3) := by decide +kernel
theorem dW_law_160 : decode code 160 = .ok (.aload_n 2, 1) := by decide +kernel
theorem dW_law_161 : decode code 161 = .ok (.invokevirtual 17, 3) := by decide +kernel
theorem dW_law_164 : decode code 164 = .ok (.if_icmp .eq 957, 3) := by decide +kernel
theorem dW_law_167 : decode code 167 = .ok (.iconst 0, 1) := by decide +kernel
theorem dW_law_168 : decode code 168 = .ok (.ireturn, 1) := by decide +kernel
theorem dW_law_169 : decode code 169 = .ok (.aload_n 1, 1) := by decide +kernel
theorem dW_law_170 : decode code 170 = .ok (.invokevirtual 18, 3) := by decide +kernel
theorem dW_law_173 : decode code 173 = .ok (.aload_n 2, 1) := by decide +kernel
theorem dW_law_174 : decode code 174 = .ok (.invokevirtual 21, 3) := by decide +kernel
theorem dW_law_177 : decode code 177 = .ok (.if_icmp .eq 944, 3) := by decide +kernel
theorem dW_law_180 : decode code 180 = .ok (.iconst 0, 1) := by decide +kernel
theorem dW_law_181 : decode code 181 = .ok (.ireturn, 1) := by decide +kernel
theorem dW_law_182 : decode code 182 = .ok (.aload_n 1, 1) := by decide +kernel
theorem dW_law_183 : decode code 183 = .ok (.aload_n 0, 1) := by decide +kernel
theorem dW_law_184 : decode code 184 = .ok (.iload_n 3, 1) := by decide +kernel
theorem dW_law_185 : decode code 185 = .ok (.iconst 1, 1) := by decide +kernel
theorem dW_law_186 : decode code 186 = .ok (.iadd, 1) := by decide +kernel
theorem dW_law_187 : decode code 187 = .ok (.iaload, 1) := by decide +kernel
theorem dW_law_188 : decode code 188 = .ok (.aload_n 0, 1) := by decide +kernel
theorem dW_law_189 : decode code 189 = .ok (.iload_n 3, 1) := by decide +kernel
theorem dW_law_190 : decode code 190 = .ok (.iconst 2, 1) := by decide +kernel
theorem dW_law_191 : decode code 191 = .ok (.iadd, 1) := by decide +kernel
theorem dW_law_192 : decode code 192 = .ok (.iaload, 1) := by decide +kernel
theorem dW_law_193 : decode code 193 = .ok (.i2l, 1) := by decide +kernel
theorem dW_law_194 : decode code 194 = .ok (.bipush 32, 2) := by decide +kernel
theorem dW_law_196 : decode code 196 = .ok (.lshl, 1) := by decide +kernel
theorem dW_law_197 : decode code 197 = .ok (.aload_n 0, 1) := by decide +kernel
theorem dW_law_198 : decode code 198 = .ok (.iload_n 3, 1) := by decide +kernel
theorem dW_law_199 : decode code 199 = .ok (.iconst 3, 1) := by decide +kernel
theorem dW_law_200 : decode code 200 = .ok (.iadd, 1) := by decide +kernel
theorem dW_law_201 : decode code 201 = .ok (.iaload, 1) := by decide +kernel
theorem dW_law_202 : decode code 202 = .ok (.i2l, 1) := by decide +kernel
theorem dW_law_203 : decode code 203 = .ok (.ldc2_w 22, 3) := by decide +kernel
theorem dW_law_206 : decode code 206 = .ok (.land, 1) := by decide +kernel
theorem dW_law_207 : decode code 207 = .ok (.lor, 1) := by decide +kernel
theorem dW_law_208 : decode code 208 = .ok (.aload_n 0, 1) := by decide +kernel
theorem dW_law_209 : decode code 209 = .ok (.iload_n 3, 1) := by decide +kernel
theorem dW_law_210 : decode code 210 = .ok (.iconst 4, 1) := by decide +kernel
theorem dW_law_211 : decode code 211 = .ok (.iadd, 1) := by decide +kernel
theorem dW_law_212 : decode code 212 = .ok (.iaload, 1) := by decide +kernel
theorem dW_law_213 : decode code 213 = .ok (.i2l, 1) := by decide +kernel
theorem dW_law_214 : decode code 214 = .ok (.bipush 32, 2) := by decide +kernel
theorem dW_law_216 : decode code 216 = .ok (.lshl, 1) := by decide +kernel
theorem dW_law_217 : decode code 217 = .ok (.aload_n 0, 1) := by decide +kernel
theorem dW_law_218 : decode code 218 = .ok (.iload_n 3, 1) := by decide +kernel
theorem dW_law_219 : decode code 219 = .ok (.iconst 5, 1) := by decide +kernel
theorem dW_law_220 : decode code 220 = .ok (.iadd, 1) := by decide +kernel
theorem dW_law_221 : decode code 221 = .ok (.iaload, 1) := by decide +kernel
theorem dW_law_222 : decode code 222 = .ok (.i2l, 1) := by decide +kernel
theorem dW_law_223 : decode code 223 = .ok (.ldc2_w 22, 3) := by decide +kernel
theorem dW_law_226 : decode code 226 = .ok (.land, 1) := by decide +kernel
theorem dW_law_227 : decode code 227 = .ok (.lor, 1) := by decide +kernel
theorem dW_law_228 : decode code 228 = .ok (.invokevirtual 24, 3) := by decide +kernel
theorem dW_law_231 : decode code 231 = .ok (.aload_n 2, 1) := by decide +kernel
theorem dW_law_232 : decode code 232 = .ok (.aload_n 0, 1) := by decide +kernel
theorem dW_law_233 : decode code 233 = .ok (.iload_n 3, 1) := by decide +kernel
theorem dW_law_234 : decode code 234 = .ok (.iconst 1, 1) := by decide +kernel
theorem dW_law_235 : decode code 235 = .ok (.iadd, 1) := by decide +kernel
theorem dW_law_236 : decode code 236 = .ok (.iaload, 1) := by decide +kernel
theorem dW_law_237 : decode code 237 = .ok (.aload_n 0, 1) := by decide +kernel
theorem dW_law_238 : decode code 238 = .ok (.iload_n 3, 1) := by decide +kernel
theorem dW_law_239 : decode code 239 = .ok (.iconst 2, 1) := by decide +kernel
theorem dW_law_240 : decode code 240 = .ok (.iadd, 1) := by decide +kernel
theorem dW_law_241 : decode code 241 = .ok (.iaload, 1) := by decide +kernel
theorem dW_law_242 : decode code 242 = .ok (.i2l, 1) := by decide +kernel
theorem dW_law_243 : decode code 243 = .ok (.bipush 32, 2) := by decide +kernel
theorem dW_law_245 : decode code 245 = .ok (.lshl, 1) := by decide +kernel
theorem dW_law_246 : decode code 246 = .ok (.aload_n 0, 1) := by decide +kernel
theorem dW_law_247 : decode code 247 = .ok (.iload_n 3, 1) := by decide +kernel
theorem dW_law_248 : decode code 248 = .ok (.iconst 3, 1) := by decide +kernel
theorem dW_law_249 : decode code 249 = .ok (.iadd, 1) := by decide +kernel
theorem dW_law_250 : decode code 250 = .ok (.iaload, 1) := by decide +kernel
theorem dW_law_251 : decode code 251 = .ok (.i2l, 1) := by decide +kernel
theorem dW_law_252 : decode code 252 = .ok (.ldc2_w 22, 3) := by decide +kernel
theorem dW_law_255 : decode code 255 = .ok (.land, 1) := by decide +kernel
theorem dW_law_256 : decode code 256 = .ok (.lor, 1) := by decide +kernel
theorem dW_law_257 : decode code 257 = .ok (.aload_n 0, 1) := by decide +kernel
theorem dW_law_258 : decode code 258 = .ok (.iload_n 3, 1) := by decide +kernel
theorem dW_law_259 : decode code 259 = .ok (.iconst 4, 1) := by decide +kernel
theorem dW_law_260 : decode code 260 = .ok (.iadd, 1) := by decide +kernel
theorem dW_law_261 : decode code 261 = .ok (.iaload, 1) := by decide +kernel
theorem dW_law_262 : decode code 262 = .ok (.i2l, 1) := by decide +kernel
theorem dW_law_263 : decode code 263 = .ok (.bipush 32, 2) := by decide +kernel
theorem dW_law_265 : decode code 265 = .ok (.lshl, 1) := by decide +kernel
theorem dW_law_266 : decode code 266 = .ok (.aload_n 0, 1) := by decide +kernel
theorem dW_law_267 : decode code 267 = .ok (.iload_n 3, 1) := by decide +kernel
theorem dW_law_268 : decode code 268 = .ok (.iconst 5, 1) := by decide +kernel
theorem dW_law_269 : decode code 269 = .ok (.iadd, 1) := by decide +kernel
theorem dW_law_270 : decode code 270 = .ok (.iaload, 1) := by decide +kernel
theorem dW_law_271 : decode code 271 = .ok (.i2l, 1) := by decide +kernel
theorem dW_law_272 : decode code 272 = .ok (.ldc2_w 22, 3) := by decide +kernel
theorem dW_law_275 : decode code 275 = .ok (.land, 1) := by decide +kernel
theorem dW_law_276 : decode code 276 = .ok (.lor, 1) := by decide +kernel
theorem dW_law_277 : decode code 277 = .ok (.invokevirtual 28, 3) := by decide +kernel
theorem dW_law_280 : decode code 280 = .ok (.if_icmp .eq 841, 3) := by decide +kernel
theorem dW_law_283 : decode code 283 = .ok (.iconst 0, 1) := by decide +kernel
theorem dW_law_284 : decode code 284 = .ok (.ireturn, 1) := by decide +kernel
theorem dW_law_285 : decode code 285 = .ok (.aload_n 1, 1) := by decide +kernel
theorem dW_law_286 : decode code 286 = .ok (.aload_n 0, 1) := by decide +kernel
theorem dW_law_287 : decode code 287 = .ok (.iload_n 3, 1) := by decide +kernel
theorem dW_law_288 : decode code 288 = .ok (.iconst 1, 1) := by decide +kernel
theorem dW_law_289 : decode code 289 = .ok (.iadd, 1) := by decide +kernel
theorem dW_law_290 : decode code 290 = .ok (.iaload, 1) := by decide +kernel
theorem dW_law_291 : decode code 291 = .ok (.aload_n 0, 1) := by decide +kernel
theorem dW_law_292 : decode code 292 = .ok (.iload_n 3, 1) := by decide +kernel
theorem dW_law_293 : decode code 293 = .ok (.iconst 2, 1) := by decide +kernel
theorem dW_law_294 : decode code 294 = .ok (.iadd, 1) := by decide +kernel
theorem dW_law_295 : decode code 295 = .ok (.iaload, 1) := by decide +kernel
theorem dW_law_296 : decode code 296 = .ok (.aload_n 0, 1) := by decide +kernel
theorem dW_law_297 : decode code 297 = .ok (.iload_n 3, 1) := by decide +kernel
theorem dW_law_298 : decode code 298 = .ok (.iconst 3, 1) := by decide +kernel
theorem dW_law_299 : decode code 299 = .ok (.iadd, 1) := by decide +kernel
theorem dW_law_300 : decode code 300 = .ok (.iaload, 1) := by decide +kernel
theorem dW_law_301 : decode code 301 = .ok (.invokevirtual 29, 3) := by decide +kernel
theorem dW_law_304 : decode code 304 = .ok (.aload_n 2, 1) := by decide +kernel
theorem dW_law_305 : decode code 305 = .ok (.aload_n 0, 1) := by decide +kernel
theorem dW_law_306 : decode code 306 = .ok (.iload_n 3, 1) := by decide +kernel
theorem dW_law_307 : decode code 307 = .ok (.iconst 1, 1) := by decide +kernel
theorem dW_law_308 : decode code 308 = .ok (.iadd, 1) := by decide +kernel
theorem dW_law_309 : decode code 309 = .ok (.iaload, 1) := by decide +kernel
theorem dW_law_310 : decode code 310 = .ok (.aload_n 0, 1) := by decide +kernel
theorem dW_law_311 : decode code 311 = .ok (.iload_n 3, 1) := by decide +kernel
theorem dW_law_312 : decode code 312 = .ok (.iconst 2, 1) := by decide +kernel
theorem dW_law_313 : decode code 313 = .ok (.iadd, 1) := by decide +kernel
theorem dW_law_314 : decode code 314 = .ok (.iaload, 1) := by decide +kernel
theorem dW_law_315 : decode code 315 = .ok (.aload_n 0, 1) := by decide +kernel
theorem dW_law_316 : decode code 316 = .ok (.iload_n 3, 1) := by decide +kernel
theorem dW_law_317 : decode code 317 = .ok (.iconst 3, 1) := by decide +kernel
theorem dW_law_318 : decode code 318 = .ok (.iadd, 1) := by decide +kernel
theorem dW_law_319 : decode code 319 = .ok (.iaload, 1) := by decide +kernel
theorem dW_law_320 : decode code 320 = .ok (.invokevirtual 33, 3) := by decide +kernel
theorem dW_law_323 : decode code 323 = .ok (.if_icmp .eq 798, 3) := by decide +kernel
theorem dW_law_326 : decode code 326 = .ok (.iconst 0, 1) := by decide +kernel
theorem dW_law_327 : decode code 327 = .ok (.ireturn, 1) := by decide +kernel
theorem dW_law_328 : decode code 328 = .ok (.aload_n 1, 1) := by decide +kernel
theorem dW_law_329 : decode code 329 = .ok (.aload_n 0, 1) := by decide +kernel
theorem dW_law_330 : decode code 330 = .ok (.iload_n 3, 1) := by decide +kernel
theorem dW_law_331 : decode code 331 = .ok (.iconst 1, 1) := by decide +kernel
theorem dW_law_332 : decode code 332 = .ok (.iadd, 1) := by decide +kernel
theorem dW_law_333 : decode code 333 = .ok (.iaload, 1) := by decide +kernel
theorem dW_law_334 : decode code 334 = .ok (.aload_n 0, 1) := by decide +kernel
theorem dW_law_335 : decode code 335 = .ok (.iload_n 3, 1) := by decide +kernel
theorem dW_law_336 : decode code 336 = .ok (.iconst 2, 1) := by decide +kernel
theorem dW_law_337 : decode code 337 = .ok (.iadd, 1) := by decide +kernel
theorem dW_law_338 : decode code 338 = .ok (.iaload, 1) := by decide +kernel
theorem dW_law_339 : decode code 339 = .ok (.aload_n 0, 1) := by decide +kernel
theorem dW_law_340 : decode code 340 = .ok (.iload_n 3, 1) := by decide +kernel
theorem dW_law_341 : decode code 341 = .ok (.iconst 3, 1) := by decide +kernel
theorem dW_law_342 : decode code 342 = .ok (.iadd, 1) := by decide +kernel
theorem dW_law_343 : decode code 343 = .ok (.iaload, 1) := by decide +kernel
theorem dW_law_344 : decode code 344 = .ok (.invokevirtual 34, 3) := by decide +kernel
theorem dW_law_347 : decode code 347 = .ok (.aload_n 2, 1) := by decide +kernel
theorem dW_law_348 : decode code 348 = .ok (.aload_n 0, 1) := by decide +kernel
theorem dW_law_349 : decode code 349 = .ok (.iload_n 3, 1) := by decide +kernel
theorem dW_law_350 : decode code 350 = .ok (.iconst 1, 1) := by decide +kernel
theorem dW_law_351 : decode code 351 = .ok (.iadd, 1) := by decide +kernel
theorem dW_law_352 : decode code 352 = .ok (.iaload, 1) := by decide +kernel
theorem dW_law_353 : decode code 353 = .ok (.aload_n 0, 1) := by decide +kernel
theorem dW_law_354 : decode code 354 = .ok (.iload_n 3, 1) := by decide +kernel
theorem dW_law_355 : decode code 355 = .ok (.iconst 2, 1) := by decide +kernel
theorem dW_law_356 : decode code 356 = .ok (.iadd, 1) := by decide +kernel
theorem dW_law_357 : decode code 357 = .ok (.iaload, 1) := by decide +kernel
theorem dW_law_358 : decode code 358 = .ok (.aload_n 0, 1) := by decide +kernel
theorem dW_law_359 : decode code 359 = .ok (.iload_n 3, 1) := by decide +kernel
theorem dW_law_360 : decode code 360 = .ok (.iconst 3, 1) := by decide +kernel
theorem dW_law_361 : decode code 361 = .ok (.iadd, 1) := by decide +kernel
theorem dW_law_362 : decode code 362 = .ok (.iaload, 1) := by decide +kernel
theorem dW_law_363 : decode code 363 = .ok (.invokevirtual 37, 3) := by decide +kernel
theorem dW_law_366 : decode code 366 = .ok (.if_icmp .eq 755, 3) := by decide +kernel
theorem dW_law_369 : decode code 369 = .ok (.iconst 0, 1) := by decide +kernel
theorem dW_law_370 : decode code 370 = .ok (.ireturn, 1) := by decide +kernel
theorem dW_law_371 : decode code 371 = .ok (.aload_n 1, 1) := by decide +kernel
theorem dW_law_372 : decode code 372 = .ok (.aload_n 0, 1) := by decide +kernel
theorem dW_law_373 : decode code 373 = .ok (.iload_n 3, 1) := by decide +kernel
theorem dW_law_374 : decode code 374 = .ok (.iconst 1, 1) := by decide +kernel
theorem dW_law_375 : decode code 375 = .ok (.iadd, 1) := by decide +kernel
