/-! THE LAW: its code, its cases -/
theorem zdL_0 : decode code 0 = .ok (.new 7, 3) := by decide +kernel
theorem zdL_3 : decode code 3 = .ok (.dup, 1) := by decide +kernel
theorem zdL_4 : decode code 4 = .ok (.invokespecial 9, 3) := by decide +kernel
theorem zdL_7 : decode code 7 = .ok (.astore_n 1, 1) := by decide +kernel
theorem zdL_8 : decode code 8 = .ok (.new 10, 3) := by decide +kernel
theorem zdL_11 : decode code 11 = .ok (.dup, 1) := by decide +kernel
theorem zdL_12 : decode code 12 = .ok (.invokespecial 12, 3) := by decide +kernel
theorem zdL_15 : decode code 15 = .ok (.astore_n 2, 1) := by decide +kernel
theorem zdL_16 : decode code 16 = .ok (.iconst 0, 1) := by decide +kernel
theorem zdL_17 : decode code 17 = .ok (.istore_n 3, 1) := by decide +kernel
theorem zdL_18 : decode code 18 = .ok (.iload_n 3, 1) := by decide +kernel
theorem zdL_19 : decode code 19 = .ok (.aload_n 0, 1) := by decide +kernel
theorem zdL_20 : decode code 20 = .ok (.arraylength, 1) := by decide +kernel
theorem zdL_21 : decode code 21 = .ok (.bipush 6, 2) := by decide +kernel
theorem zdL_23 : decode code 23 = .ok (.isub, 1) := by decide +kernel
theorem zdL_24 : decode code 24 = .ok (.if_icmp .gt 766, 3) := by decide +kernel
theorem zdL_27 : decode code 27 = .ok (.aload_n 0, 1) := by decide +kernel
theorem zdL_28 : decode code 28 = .ok (.iload_n 3, 1) := by decide +kernel
theorem zdL_29 : decode code 29 = .ok (.iaload, 1) := by decide +kernel
theorem zdL_30 : decode code 30 = .ok (.bipush 31, 2) := by decide +kernel
theorem zdL_32 : decode code 32 = .ok (.iand, 1) := by decide +kernel
theorem zdL_33 : decode code 33 = .ok (.tableswitch 751 0 17 #[87, 120, 183, 206, 249, 312, 335, 348, 361, 414, 467, 500, 563, 596, 659, 682, 715, 738], 87) := by decide +kernel
theorem zdL_120 : decode code 120 = .ok (.aload_n 1, 1) := by decide +kernel
theorem zdL_121 : decode code 121 = .ok (.aload_n 0, 1) := by decide +kernel
theorem zdL_122 : decode code 122 = .ok (.iload_n 3, 1) := by decide +kernel
theorem zdL_123 : decode code 123 = .ok (.iconst 1, 1) := by decide +kernel
theorem zdL_124 : decode code 124 = .ok (.iadd, 1) := by decide +kernel
theorem zdL_125 : decode code 125 = .ok (.iaload, 1) := by decide +kernel
theorem zdL_126 : decode code 126 = .ok (.aload_n 0, 1) := by decide +kernel
theorem zdL_127 : decode code 127 = .ok (.iload_n 3, 1) := by decide +kernel
theorem zdL_128 : decode code 128 = .ok (.iconst 2, 1) := by decide +kernel
theorem zdL_129 : decode code 129 = .ok (.iadd, 1) := by decide +kernel
theorem zdL_130 : decode code 130 = .ok (.iaload, 1) := by decide +kernel
theorem zdL_131 : decode code 131 = .ok (.invokevirtual 13, 3) := by decide +kernel
theorem zdL_134 : decode code 134 = .ok (.aload_n 2, 1) := by decide +kernel
theorem zdL_135 : decode code 135 = .ok (.aload_n 0, 1) := by decide +kernel
theorem zdL_136 : decode code 136 = .ok (.iload_n 3, 1) := by decide +kernel
theorem zdL_137 : decode code 137 = .ok (.iconst 1, 1) := by decide +kernel
theorem zdL_138 : decode code 138 = .ok (.iadd, 1) := by decide +kernel
theorem zdL_139 : decode code 139 = .ok (.iaload, 1) := by decide +kernel
theorem zdL_140 : decode code 140 = .ok (.aload_n 0, 1) := by decide +kernel
theorem zdL_141 : decode code 141 = .ok (.iload_n 3, 1) := by decide +kernel
theorem zdL_142 : decode code 142 = .ok (.iconst 2, 1) := by decide +kernel
theorem zdL_143 : decode code 143 = .ok (.iadd, 1) := by decide +kernel
theorem zdL_144 : decode code 144 = .ok (.iaload, 1) := by decide +kernel
theorem zdL_145 : decode code 145 = .ok (.invokevirtual 17, 3) := by decide +kernel
theorem zdL_148 : decode code 148 = .ok (.if_icmp .eq 636, 3) := by decide +kernel
theorem zdL_151 : decode code 151 = .ok (.iconst 0, 1) := by decide +kernel
theorem zdL_152 : decode code 152 = .ok (.ireturn, 1) := by decide +kernel
theorem zdL_153 : decode code 153 = .ok (.aload_n 1, 1) := by decide +kernel
theorem zdL_154 : decode code 154 = .ok (.aload_n 0, 1) := by decide +kernel
theorem zdL_155 : decode code 155 = .ok (.iload_n 3, 1) := by decide +kernel
theorem zdL_156 : decode code 156 = .ok (.iconst 1, 1) := by decide +kernel
theorem zdL_157 : decode code 157 = .ok (.iadd, 1) := by decide +kernel
theorem zdL_158 : decode code 158 = .ok (.iaload, 1) := by decide +kernel
theorem zdL_159 : decode code 159 = .ok (.aload_n 0, 1) := by decide +kernel
theorem zdL_160 : decode code 160 = .ok (.iload_n 3, 1) := by decide +kernel
theorem zdL_161 : decode code 161 = .ok (.iconst 2, 1) := by decide +kernel
theorem zdL_162 : decode code 162 = .ok (.iadd, 1) := by decide +kernel
theorem zdL_163 : decode code 163 = .ok (.iaload, 1) := by decide +kernel
theorem zdL_164 : decode code 164 = .ok (.aload_n 0, 1) := by decide +kernel
theorem zdL_165 : decode code 165 = .ok (.iload_n 3, 1) := by decide +kernel
theorem zdL_166 : decode code 166 = .ok (.iconst 3, 1) := by decide +kernel
theorem zdL_167 : decode code 167 = .ok (.iadd, 1) := by decide +kernel
theorem zdL_168 : decode code 168 = .ok (.iaload, 1) := by decide +kernel
theorem zdL_169 : decode code 169 = .ok (.aload_n 0, 1) := by decide +kernel
theorem zdL_170 : decode code 170 = .ok (.iload_n 3, 1) := by decide +kernel
theorem zdL_171 : decode code 171 = .ok (.iconst 4, 1) := by decide +kernel
theorem zdL_172 : decode code 172 = .ok (.iadd, 1) := by decide +kernel
theorem zdL_173 : decode code 173 = .ok (.iaload, 1) := by decide +kernel
theorem zdL_174 : decode code 174 = .ok (.aload_n 0, 1) := by decide +kernel
theorem zdL_175 : decode code 175 = .ok (.iload_n 3, 1) := by decide +kernel
theorem zdL_176 : decode code 176 = .ok (.iconst 5, 1) := by decide +kernel
theorem zdL_177 : decode code 177 = .ok (.iadd, 1) := by decide +kernel
theorem zdL_178 : decode code 178 = .ok (.iaload, 1) := by decide +kernel
theorem zdL_179 : decode code 179 = .ok (.invokevirtual 18, 3) := by decide +kernel
theorem zdL_182 : decode code 182 = .ok (.aload_n 2, 1) := by decide +kernel
theorem zdL_183 : decode code 183 = .ok (.aload_n 0, 1) := by decide +kernel
theorem zdL_184 : decode code 184 = .ok (.iload_n 3, 1) := by decide +kernel
theorem zdL_185 : decode code 185 = .ok (.iconst 1, 1) := by decide +kernel
theorem zdL_186 : decode code 186 = .ok (.iadd, 1) := by decide +kernel
theorem zdL_187 : decode code 187 = .ok (.iaload, 1) := by decide +kernel
theorem zdL_188 : decode code 188 = .ok (.aload_n 0, 1) := by decide +kernel
theorem zdL_189 : decode code 189 = .ok (.iload_n 3, 1) := by decide +kernel
theorem zdL_190 : decode code 190 = .ok (.iconst 2, 1) := by decide +kernel
theorem zdL_191 : decode code 191 = .ok (.iadd, 1) := by decide +kernel
theorem zdL_192 : decode code 192 = .ok (.iaload, 1) := by decide +kernel
theorem zdL_193 : decode code 193 = .ok (.aload_n 0, 1) := by decide +kernel
theorem zdL_194 : decode code 194 = .ok (.iload_n 3, 1) := by decide +kernel
theorem zdL_195 : decode code 195 = .ok (.iconst 3, 1) := by decide +kernel
theorem zdL_196 : decode code 196 = .ok (.iadd, 1) := by decide +kernel
theorem zdL_197 : decode code 197 = .ok (.iaload, 1) := by decide +kernel
theorem zdL_198 : decode code 198 = .ok (.aload_n 0, 1) := by decide +kernel
theorem zdL_199 : decode code 199 = .ok (.iload_n 3, 1) := by decide +kernel
theorem zdL_200 : decode code 200 = .ok (.iconst 4, 1) := by decide +kernel
theorem zdL_201 : decode code 201 = .ok (.iadd, 1) := by decide +kernel
theorem zdL_202 : decode code 202 = .ok (.iaload, 1) := by decide +kernel
theorem zdL_203 : decode code 203 = .ok (.aload_n 0, 1) := by decide +kernel
theorem zdL_204 : decode code 204 = .ok (.iload_n 3, 1) := by decide +kernel
theorem zdL_205 : decode code 205 = .ok (.iconst 5, 1) := by decide +kernel
theorem zdL_206 : decode code 206 = .ok (.iadd, 1) := by decide +kernel
theorem zdL_207 : decode code 207 = .ok (.iaload, 1) := by decide +kernel
theorem zdL_208 : decode code 208 = .ok (.invokevirtual 22, 3) := by decide +kernel
theorem zdL_211 : decode code 211 = .ok (.if_icmp .eq 573, 3) := by decide +kernel
theorem zdL_214 : decode code 214 = .ok (.iconst 0, 1) := by decide +kernel
theorem zdL_215 : decode code 215 = .ok (.ireturn, 1) := by decide +kernel
theorem zdL_216 : decode code 216 = .ok (.aload_n 1, 1) := by decide +kernel
theorem zdL_217 : decode code 217 = .ok (.aload_n 0, 1) := by decide +kernel
theorem zdL_218 : decode code 218 = .ok (.iload_n 3, 1) := by decide +kernel
theorem zdL_219 : decode code 219 = .ok (.iconst 1, 1) := by decide +kernel
theorem zdL_220 : decode code 220 = .ok (.iadd, 1) := by decide +kernel
theorem zdL_221 : decode code 221 = .ok (.iaload, 1) := by decide +kernel
theorem zdL_222 : decode code 222 = .ok (.invokevirtual 23, 3) := by decide +kernel
theorem zdL_225 : decode code 225 = .ok (.aload_n 2, 1) := by decide +kernel
theorem zdL_226 : decode code 226 = .ok (.aload_n 0, 1) := by decide +kernel
theorem zdL_227 : decode code 227 = .ok (.iload_n 3, 1) := by decide +kernel
theorem zdL_228 : decode code 228 = .ok (.iconst 1, 1) := by decide +kernel
theorem zdL_229 : decode code 229 = .ok (.iadd, 1) := by decide +kernel
theorem zdL_230 : decode code 230 = .ok (.iaload, 1) := by decide +kernel
theorem zdL_231 : decode code 231 = .ok (.invokevirtual 27, 3) := by decide +kernel
theorem zdL_234 : decode code 234 = .ok (.if_icmp .eq 550, 3) := by decide +kernel
theorem zdL_237 : decode code 237 = .ok (.iconst 0, 1) := by decide +kernel
theorem zdL_238 : decode code 238 = .ok (.ireturn, 1) := by decide +kernel
theorem zdL_239 : decode code 239 = .ok (.aload_n 1, 1) := by decide +kernel
theorem zdL_240 : decode code 240 = .ok (.aload_n 0, 1) := by decide +kernel
theorem zdL_241 : decode code 241 = .ok (.iload_n 3, 1) := by decide +kernel
theorem zdL_242 : decode code 242 = .ok (.iconst 1, 1) := by decide +kernel
theorem zdL_243 : decode code 243 = .ok (.iadd, 1) := by decide +kernel
theorem zdL_244 : decode code 244 = .ok (.iaload, 1) := by decide +kernel
theorem zdL_245 : decode code 245 = .ok (.aload_n 0, 1) := by decide +kernel
theorem zdL_246 : decode code 246 = .ok (.iload_n 3, 1) := by decide +kernel
theorem zdL_247 : decode code 247 = .ok (.iconst 2, 1) := by decide +kernel
theorem zdL_248 : decode code 248 = .ok (.iadd, 1) := by decide +kernel
theorem zdL_249 : decode code 249 = .ok (.iaload, 1) := by decide +kernel
theorem zdL_250 : decode code 250 = .ok (.aload_n 0, 1) := by decide +kernel
theorem zdL_251 : decode code 251 = .ok (.iload_n 3, 1) := by decide +kernel
theorem zdL_252 : decode code 252 = .ok (.iconst 3, 1) := by decide +kernel
theorem zdL_253 : decode code 253 = .ok (.iadd, 1) := by decide +kernel
theorem zdL_254 : decode code 254 = .ok (.iaload, 1) := by decide +kernel
theorem zdL_255 : decode code 255 = .ok (.invokevirtual 28, 3) := by decide +kernel
theorem zdL_258 : decode code 258 = .ok (.aload_n 2, 1) := by decide +kernel
theorem zdL_259 : decode code 259 = .ok (.aload_n 0, 1) := by decide +kernel
theorem zdL_260 : decode code 260 = .ok (.iload_n 3, 1) := by decide +kernel
theorem zdL_261 : decode code 261 = .ok (.iconst 1, 1) := by decide +kernel
theorem zdL_262 : decode code 262 = .ok (.iadd, 1) := by decide +kernel
theorem zdL_263 : decode code 263 = .ok (.iaload, 1) := by decide +kernel
theorem zdL_264 : decode code 264 = .ok (.aload_n 0, 1) := by decide +kernel
theorem zdL_265 : decode code 265 = .ok (.iload_n 3, 1) := by decide +kernel
theorem zdL_266 : decode code 266 = .ok (.iconst 2, 1) := by decide +kernel
theorem zdL_267 : decode code 267 = .ok (.iadd, 1) := by decide +kernel
theorem zdL_268 : decode code 268 = .ok (.iaload, 1) := by decide +kernel
theorem zdL_269 : decode code 269 = .ok (.aload_n 0, 1) := by decide +kernel
theorem zdL_270 : decode code 270 = .ok (.iload_n 3, 1) := by decide +kernel
theorem zdL_271 : decode code 271 = .ok (.iconst 3, 1) := by decide +kernel
theorem zdL_272 : decode code 272 = .ok (.iadd, 1) := by decide +kernel
theorem zdL_273 : decode code 273 = .ok (.iaload, 1) := by decide +kernel
theorem zdL_274 : decode code 274 = .ok (.invokevirtual 32, 3) := by decide +kernel
theorem zdL_277 : decode code 277 = .ok (.if_icmp .eq 507, 3) := by decide +kernel
theorem zdL_280 : decode code 280 = .ok (.iconst 0, 1) := by decide +kernel
theorem zdL_281 : decode code 281 = .ok (.ireturn, 1) := by decide +kernel
theorem zdL_282 : decode code 282 = .ok (.aload_n 1, 1) := by decide +kernel
theorem zdL_283 : decode code 283 = .ok (.aload_n 0, 1) := by decide +kernel
theorem zdL_284 : decode code 284 = .ok (.iload_n 3, 1) := by decide +kernel
theorem zdL_285 : decode code 285 = .ok (.iconst 1, 1) := by decide +kernel
theorem zdL_286 : decode code 286 = .ok (.iadd, 1) := by decide +kernel
theorem zdL_287 : decode code 287 = .ok (.iaload, 1) := by decide +kernel
theorem zdL_288 : decode code 288 = .ok (.aload_n 0, 1) := by decide +kernel
theorem zdL_289 : decode code 289 = .ok (.iload_n 3, 1) := by decide +kernel
theorem zdL_290 : decode code 290 = .ok (.iconst 2, 1) := by decide +kernel
theorem zdL_291 : decode code 291 = .ok (.iadd, 1) := by decide +kernel
theorem zdL_292 : decode code 292 = .ok (.iaload, 1) := by decide +kernel
theorem zdL_293 : decode code 293 = .ok (.aload_n 0, 1) := by decide +kernel
theorem zdL_294 : decode code 294 = .ok (.iload_n 3, 1) := by decide +kernel
theorem zdL_295 : decode code 295 = .ok (.iconst 3, 1) := by decide +kernel
theorem zdL_296 : decode code 296 = .ok (.iadd, 1) := by decide +kernel
theorem zdL_297 : decode code 297 = .ok (.iaload, 1) := by decide +kernel
theorem zdL_298 : decode code 298 = .ok (.aload_n 0, 1) := by decide +kernel
theorem zdL_299 : decode code 299 = .ok (.iload_n 3, 1) := by decide +kernel
theorem zdL_300 : decode code 300 = .ok (.iconst 4, 1) := by decide +kernel
theorem zdL_301 : decode code 301 = .ok (.iadd, 1) := by decide +kernel
theorem zdL_302 : decode code 302 = .ok (.iaload, 1) := by decide +kernel
theorem zdL_303 : decode code 303 = .ok (.aload_n 0, 1) := by decide +kernel
theorem zdL_304 : decode code 304 = .ok (.iload_n 3, 1) := by decide +kernel
theorem zdL_305 : decode code 305 = .ok (.iconst 5, 1) := by decide +kernel
theorem zdL_306 : decode code 306 = .ok (.iadd, 1) := by decide +kernel
theorem zdL_307 : decode code 307 = .ok (.iaload, 1) := by decide +kernel
theorem zdL_308 : decode code 308 = .ok (.invokevirtual 33, 3) := by decide +kernel
theorem zdL_311 : decode code 311 = .ok (.aload_n 2, 1) := by decide +kernel
theorem zdL_312 : decode code 312 = .ok (.aload_n 0, 1) := by decide +kernel
theorem zdL_313 : decode code 313 = .ok (.iload_n 3, 1) := by decide +kernel
theorem zdL_314 : decode code 314 = .ok (.iconst 1, 1) := by decide +kernel
theorem zdL_315 : decode code 315 = .ok (.iadd, 1) := by decide +kernel
theorem zdL_316 : decode code 316 = .ok (.iaload, 1) := by decide +kernel
theorem zdL_317 : decode code 317 = .ok (.aload_n 0, 1) := by decide +kernel
theorem zdL_318 : decode code 318 = .ok (.iload_n 3, 1) := by decide +kernel
theorem zdL_319 : decode code 319 = .ok (.iconst 2, 1) := by decide +kernel
theorem zdL_320 : decode code 320 = .ok (.iadd, 1) := by decide +kernel
theorem zdL_321 : decode code 321 = .ok (.iaload, 1) := by decide +kernel
theorem zdL_322 : decode code 322 = .ok (.aload_n 0, 1) := by decide +kernel
theorem zdL_323 : decode code 323 = .ok (.iload_n 3, 1) := by decide +kernel
theorem zdL_324 : decode code 324 = .ok (.iconst 3, 1) := by decide +kernel
theorem zdL_325 : decode code 325 = .ok (.iadd, 1) := by decide +kernel
theorem zdL_326 : decode code 326 = .ok (.iaload, 1) := by decide +kernel
theorem zdL_327 : decode code 327 = .ok (.aload_n 0, 1) := by decide +kernel
theorem zdL_328 : decode code 328 = .ok (.iload_n 3, 1) := by decide +kernel
theorem zdL_329 : decode code 329 = .ok (.iconst 4, 1) := by decide +kernel
theorem zdL_330 : decode code 330 = .ok (.iadd, 1) := by decide +kernel
theorem zdL_331 : decode code 331 = .ok (.iaload, 1) := by decide +kernel
theorem zdL_332 : decode code 332 = .ok (.aload_n 0, 1) := by decide +kernel
theorem zdL_333 : decode code 333 = .ok (.iload_n 3, 1) := by decide +kernel
theorem zdL_334 : decode code 334 = .ok (.iconst 5, 1) := by decide +kernel
theorem zdL_335 : decode code 335 = .ok (.iadd, 1) := by decide +kernel
theorem zdL_336 : decode code 336 = .ok (.iaload, 1) := by decide +kernel
theorem zdL_337 : decode code 337 = .ok (.invokevirtual 36, 3) := by decide +kernel
theorem zdL_340 : decode code 340 = .ok (.if_icmp .eq 444, 3) := by decide +kernel
theorem zdL_343 : decode code 343 = .ok (.iconst 0, 1) := by decide +kernel
theorem zdL_344 : decode code 344 = .ok (.ireturn, 1) := by decide +kernel
theorem zdL_345 : decode code 345 = .ok (.aload_n 1, 1) := by decide +kernel
theorem zdL_346 : decode code 346 = .ok (.aload_n 0, 1) := by decide +kernel
theorem zdL_347 : decode code 347 = .ok (.iload_n 3, 1) := by decide +kernel
theorem zdL_348 : decode code 348 = .ok (.iconst 1, 1) := by decide +kernel
theorem zdL_349 : decode code 349 = .ok (.iadd, 1) := by decide +kernel
theorem zdL_350 : decode code 350 = .ok (.iaload, 1) := by decide +kernel
theorem zdL_351 : decode code 351 = .ok (.invokevirtual 37, 3) := by decide +kernel
theorem zdL_354 : decode code 354 = .ok (.aload_n 2, 1) := by decide +kernel
theorem zdL_355 : decode code 355 = .ok (.aload_n 0, 1) := by decide +kernel
theorem zdL_356 : decode code 356 = .ok (.iload_n 3, 1) := by decide +kernel
theorem zdL_357 : decode code 357 = .ok (.iconst 1, 1) := by decide +kernel
theorem zdL_358 : decode code 358 = .ok (.iadd, 1) := by decide +kernel
theorem zdL_359 : decode code 359 = .ok (.iaload, 1) := by decide +kernel
theorem zdL_360 : decode code 360 = .ok (.invokevirtual 40, 3) := by decide +kernel
theorem zdL_363 : decode code 363 = .ok (.if_icmp .eq 421, 3) := by decide +kernel
theorem zdL_366 : decode code 366 = .ok (.iconst 0, 1) := by decide +kernel
theorem zdL_367 : decode code 367 = .ok (.ireturn, 1) := by decide +kernel
theorem zdL_368 : decode code 368 = .ok (.aload_n 1, 1) := by decide +kernel
theorem zdL_369 : decode code 369 = .ok (.invokevirtual 41, 3) := by decide +kernel
theorem zdL_372 : decode code 372 = .ok (.aload_n 2, 1) := by decide +kernel
theorem zdL_373 : decode code 373 = .ok (.invokevirtual 45, 3) := by decide +kernel
theorem zdL_376 : decode code 376 = .ok (.if_icmp .eq 408, 3) := by decide +kernel
theorem zdL_379 : decode code 379 = .ok (.iconst 0, 1) := by decide +kernel
theorem zdL_380 : decode code 380 = .ok (.ireturn, 1) := by decide +kernel
theorem zdL_381 : decode code 381 = .ok (.aload_n 1, 1) := by decide +kernel
theorem zdL_382 : decode code 382 = .ok (.invokevirtual 46, 3) := by decide +kernel
theorem zdL_385 : decode code 385 = .ok (.aload_n 2, 1) := by decide +kernel
theorem zdL_386 : decode code 386 = .ok (.invokevirtual 49, 3) := by decide +kernel
theorem zdL_389 : decode code 389 = .ok (.if_icmp .eq 395, 3) := by decide +kernel
theorem zdL_392 : decode code 392 = .ok (.iconst 0, 1) := by decide +kernel
theorem zdL_393 : decode code 393 = .ok (.ireturn, 1) := by decide +kernel
theorem zdL_394 : decode code 394 = .ok (.aload_n 1, 1) := by decide +kernel
theorem zdL_395 : decode code 395 = .ok (.aload_n 0, 1) := by decide +kernel
theorem zdL_396 : decode code 396 = .ok (.iload_n 3, 1) := by decide +kernel
theorem zdL_397 : decode code 397 = .ok (.iconst 1, 1) := by decide +kernel
theorem zdL_398 : decode code 398 = .ok (.iadd, 1) := by decide +kernel
theorem zdL_399 : decode code 399 = .ok (.iaload, 1) := by decide +kernel
theorem zdL_400 : decode code 400 = .ok (.aload_n 0, 1) := by decide +kernel
theorem zdL_401 : decode code 401 = .ok (.iload_n 3, 1) := by decide +kernel
theorem zdL_402 : decode code 402 = .ok (.iconst 2, 1) := by decide +kernel
theorem zdL_403 : decode code 403 = .ok (.iadd, 1) := by decide +kernel
theorem zdL_404 : decode code 404 = .ok (.iaload, 1) := by decide +kernel
theorem zdL_405 : decode code 405 = .ok (.aload_n 0, 1) := by decide +kernel
theorem zdL_406 : decode code 406 = .ok (.iload_n 3, 1) := by decide +kernel
theorem zdL_407 : decode code 407 = .ok (.iconst 3, 1) := by decide +kernel
theorem zdL_408 : decode code 408 = .ok (.iadd, 1) := by decide +kernel
theorem zdL_409 : decode code 409 = .ok (.iaload, 1) := by decide +kernel
theorem zdL_410 : decode code 410 = .ok (.aload_n 0, 1) := by decide +kernel
theorem zdL_411 : decode code 411 = .ok (.iload_n 3, 1) := by decide +kernel
theorem zdL_412 : decode code 412 = .ok (.iconst 4, 1) := by decide +kernel
theorem zdL_413 : decode code 413 = .ok (.iadd, 1) := by decide +kernel
theorem zdL_414 : decode code 414 = .ok (.iaload, 1) := by decide +kernel
theorem zdL_415 : decode code 415 = .ok (.invokevirtual 50, 3) := by decide +kernel
theorem zdL_418 : decode code 418 = .ok (.aload_n 2, 1) := by decide +kernel
theorem zdL_419 : decode code 419 = .ok (.aload_n 0, 1) := by decide +kernel
theorem zdL_420 : decode code 420 = .ok (.iload_n 3, 1) := by decide +kernel
theorem zdL_421 : decode code 421 = .ok (.iconst 1, 1) := by decide +kernel
theorem zdL_422 : decode code 422 = .ok (.iadd, 1) := by decide +kernel
theorem zdL_423 : decode code 423 = .ok (.iaload, 1) := by decide +kernel
theorem zdL_424 : decode code 424 = .ok (.aload_n 0, 1) := by decide +kernel
theorem zdL_425 : decode code 425 = .ok (.iload_n 3, 1) := by decide +kernel
theorem zdL_426 : decode code 426 = .ok (.iconst 2, 1) := by decide +kernel
theorem zdL_427 : decode code 427 = .ok (.iadd, 1) := by decide +kernel
theorem zdL_428 : decode code 428 = .ok (.iaload, 1) := by decide +kernel
theorem zdL_429 : decode code 429 = .ok (.aload_n 0, 1) := by decide +kernel
theorem zdL_430 : decode code 430 = .ok (.iload_n 3, 1) := by decide +kernel
theorem zdL_431 : decode code 431 = .ok (.iconst 3, 1) := by decide +kernel
theorem zdL_432 : decode code 432 = .ok (.iadd, 1) := by decide +kernel
theorem zdL_433 : decode code 433 = .ok (.iaload, 1) := by decide +kernel
theorem zdL_434 : decode code 434 = .ok (.aload_n 0, 1) := by decide +kernel
theorem zdL_435 : decode code 435 = .ok (.iload_n 3, 1) := by decide +kernel
theorem zdL_436 : decode code 436 = .ok (.iconst 4, 1) := by decide +kernel
theorem zdL_437 : decode code 437 = .ok (.iadd, 1) := by decide +kernel
theorem zdL_438 : decode code 438 = .ok (.iaload, 1) := by decide +kernel
theorem zdL_439 : decode code 439 = .ok (.invokevirtual 54, 3) := by decide +kernel
theorem zdL_442 : decode code 442 = .ok (.if_icmp .eq 342, 3) := by decide +kernel
theorem zdL_445 : decode code 445 = .ok (.iconst 0, 1) := by decide +kernel
theorem zdL_446 : decode code 446 = .ok (.ireturn, 1) := by decide +kernel
theorem zdL_447 : decode code 447 = .ok (.aload_n 1, 1) := by decide +kernel
theorem zdL_448 : decode code 448 = .ok (.aload_n 0, 1) := by decide +kernel
theorem zdL_449 : decode code 449 = .ok (.iload_n 3, 1) := by decide +kernel
theorem zdL_450 : decode code 450 = .ok (.iconst 1, 1) := by decide +kernel
theorem zdL_451 : decode code 451 = .ok (.iadd, 1) := by decide +kernel
theorem zdL_452 : decode code 452 = .ok (.iaload, 1) := by decide +kernel
theorem zdL_453 : decode code 453 = .ok (.aload_n 0, 1) := by decide +kernel
theorem zdL_454 : decode code 454 = .ok (.iload_n 3, 1) := by decide +kernel
theorem zdL_455 : decode code 455 = .ok (.iconst 2, 1) := by decide +kernel
theorem zdL_456 : decode code 456 = .ok (.iadd, 1) := by decide +kernel
theorem zdL_457 : decode code 457 = .ok (.iaload, 1) := by decide +kernel
theorem zdL_458 : decode code 458 = .ok (.aload_n 0, 1) := by decide +kernel
theorem zdL_459 : decode code 459 = .ok (.iload_n 3, 1) := by decide +kernel
theorem zdL_460 : decode code 460 = .ok (.iconst 3, 1) := by decide +kernel
theorem zdL_461 : decode code 461 = .ok (.iadd, 1) := by decide +kernel
theorem zdL_462 : decode code 462 = .ok (.iaload, 1) := by decide +kernel
theorem zdL_463 : decode code 463 = .ok (.aload_n 0, 1) := by decide +kernel
theorem zdL_464 : decode code 464 = .ok (.iload_n 3, 1) := by decide +kernel
theorem zdL_465 : decode code 465 = .ok (.iconst 4, 1) := by decide +kernel
theorem zdL_466 : decode code 466 = .ok (.iadd, 1) := by decide +kernel
theorem zdL_467 : decode code 467 = .ok (.iaload, 1) := by decide +kernel
theorem zdL_468 : decode code 468 = .ok (.invokevirtual 55, 3) := by decide +kernel
theorem zdL_471 : decode code 471 = .ok (.aload_n 2, 1) := by decide +kernel
theorem zdL_472 : decode code 472 = .ok (.aload_n 0, 1) := by decide +kernel
theorem zdL_473 : decode code 473 = .ok (.iload_n 3, 1) := by decide +kernel
theorem zdL_474 : decode code 474 = .ok (.iconst 1, 1) := by decide +kernel
theorem zdL_475 : decode code 475 = .ok (.iadd, 1) := by decide +kernel
theorem zdL_476 : decode code 476 = .ok (.iaload, 1) := by decide +kernel
theorem zdL_477 : decode code 477 = .ok (.aload_n 0, 1) := by decide +kernel
theorem zdL_478 : decode code 478 = .ok (.iload_n 3, 1) := by decide +kernel
theorem zdL_479 : decode code 479 = .ok (.iconst 2, 1) := by decide +kernel
theorem zdL_480 : decode code 480 = .ok (.iadd, 1) := by decide +kernel
theorem zdL_481 : decode code 481 = .ok (.iaload, 1) := by decide +kernel
theorem zdL_482 : decode code 482 = .ok (.aload_n 0, 1) := by decide +kernel
theorem zdL_483 : decode code 483 = .ok (.iload_n 3, 1) := by decide +kernel
theorem zdL_484 : decode code 484 = .ok (.iconst 3, 1) := by decide +kernel
theorem zdL_485 : decode code 485 = .ok (.iadd, 1) := by decide +kernel
theorem zdL_486 : decode code 486 = .ok (.iaload, 1) := by decide +kernel
theorem zdL_487 : decode code 487 = .ok (.aload_n 0, 1) := by decide +kernel
theorem zdL_488 : decode code 488 = .ok (.iload_n 3, 1) := by decide +kernel
theorem zdL_489 : decode code 489 = .ok (.iconst 4, 1) := by decide +kernel
theorem zdL_490 : decode code 490 = .ok (.iadd, 1) := by decide +kernel
theorem zdL_491 : decode code 491 = .ok (.iaload, 1) := by decide +kernel
theorem zdL_492 : decode code 492 = .ok (.invokevirtual 58, 3) := by decide +kernel
theorem zdL_495 : decode code 495 = .ok (.if_icmp .eq 289, 3) := by decide +kernel
theorem zdL_498 : decode code 498 = .ok (.iconst 0, 1) := by decide +kernel
theorem zdL_499 : decode code 499 = .ok (.ireturn, 1) := by decide +kernel
theorem zdL_500 : decode code 500 = .ok (.aload_n 1, 1) := by decide +kernel
theorem zdL_501 : decode code 501 = .ok (.aload_n 0, 1) := by decide +kernel
theorem zdL_502 : decode code 502 = .ok (.iload_n 3, 1) := by decide +kernel
theorem zdL_503 : decode code 503 = .ok (.iconst 1, 1) := by decide +kernel
theorem zdL_504 : decode code 504 = .ok (.iadd, 1) := by decide +kernel
theorem zdL_505 : decode code 505 = .ok (.iaload, 1) := by decide +kernel
theorem zdL_506 : decode code 506 = .ok (.aload_n 0, 1) := by decide +kernel
theorem zdL_507 : decode code 507 = .ok (.iload_n 3, 1) := by decide +kernel
theorem zdL_508 : decode code 508 = .ok (.iconst 2, 1) := by decide +kernel
theorem zdL_509 : decode code 509 = .ok (.iadd, 1) := by decide +kernel
theorem zdL_510 : decode code 510 = .ok (.iaload, 1) := by decide +kernel
theorem zdL_511 : decode code 511 = .ok (.invokevirtual 59, 3) := by decide +kernel
theorem zdL_514 : decode code 514 = .ok (.aload_n 2, 1) := by decide +kernel
theorem zdL_515 : decode code 515 = .ok (.aload_n 0, 1) := by decide +kernel
theorem zdL_516 : decode code 516 = .ok (.iload_n 3, 1) := by decide +kernel
theorem zdL_517 : decode code 517 = .ok (.iconst 1, 1) := by decide +kernel
theorem zdL_518 : decode code 518 = .ok (.iadd, 1) := by decide +kernel
theorem zdL_519 : decode code 519 = .ok (.iaload, 1) := by decide +kernel
theorem zdL_520 : decode code 520 = .ok (.aload_n 0, 1) := by decide +kernel
theorem zdL_521 : decode code 521 = .ok (.iload_n 3, 1) := by decide +kernel
theorem zdL_522 : decode code 522 = .ok (.iconst 2, 1) := by decide +kernel
theorem zdL_523 : decode code 523 = .ok (.iadd, 1) := by decide +kernel
theorem zdL_524 : decode code 524 = .ok (.iaload, 1) := by decide +kernel
theorem zdL_525 : decode code 525 = .ok (.invokevirtual 62, 3) := by decide +kernel
theorem zdL_528 : decode code 528 = .ok (.if_icmp .eq 256, 3) := by decide +kernel
theorem zdL_531 : decode code 531 = .ok (.iconst 0, 1) := by decide +kernel
theorem zdL_532 : decode code 532 = .ok (.ireturn, 1) := by decide +kernel
theorem zdL_533 : decode code 533 = .ok (.aload_n 1, 1) := by decide +kernel
theorem zdL_534 : decode code 534 = .ok (.aload_n 0, 1) := by decide +kernel
theorem zdL_535 : decode code 535 = .ok (.iload_n 3, 1) := by decide +kernel
theorem zdL_536 : decode code 536 = .ok (.iconst 1, 1) := by decide +kernel
theorem zdL_537 : decode code 537 = .ok (.iadd, 1) := by decide +kernel
theorem zdL_538 : decode code 538 = .ok (.iaload, 1) := by decide +kernel
theorem zdL_539 : decode code 539 = .ok (.aload_n 0, 1) := by decide +kernel
theorem zdL_540 : decode code 540 = .ok (.iload_n 3, 1) := by decide +kernel
theorem zdL_541 : decode code 541 = .ok (.iconst 2, 1) := by decide +kernel
theorem zdL_542 : decode code 542 = .ok (.iadd, 1) := by decide +kernel
theorem zdL_543 : decode code 543 = .ok (.iaload, 1) := by decide +kernel
theorem zdL_544 : decode code 544 = .ok (.aload_n 0, 1) := by decide +kernel
theorem zdL_545 : decode code 545 = .ok (.iload_n 3, 1) := by decide +kernel
theorem zdL_546 : decode code 546 = .ok (.iconst 3, 1) := by decide +kernel
theorem zdL_547 : decode code 547 = .ok (.iadd, 1) := by decide +kernel
theorem zdL_548 : decode code 548 = .ok (.iaload, 1) := by decide +kernel
theorem zdL_549 : decode code 549 = .ok (.aload_n 0, 1) := by decide +kernel
theorem zdL_550 : decode code 550 = .ok (.iload_n 3, 1) := by decide +kernel
theorem zdL_551 : decode code 551 = .ok (.iconst 4, 1) := by decide +kernel
theorem zdL_552 : decode code 552 = .ok (.iadd, 1) := by decide +kernel
theorem zdL_553 : decode code 553 = .ok (.iaload, 1) := by decide +kernel
theorem zdL_554 : decode code 554 = .ok (.aload_n 0, 1) := by decide +kernel
theorem zdL_555 : decode code 555 = .ok (.iload_n 3, 1) := by decide +kernel
theorem zdL_556 : decode code 556 = .ok (.iconst 5, 1) := by decide +kernel
theorem zdL_557 : decode code 557 = .ok (.iadd, 1) := by decide +kernel
theorem zdL_558 : decode code 558 = .ok (.iaload, 1) := by decide +kernel
theorem zdL_559 : decode code 559 = .ok (.invokevirtual 63, 3) := by decide +kernel
theorem zdL_562 : decode code 562 = .ok (.aload_n 2, 1) := by decide +kernel
theorem zdL_563 : decode code 563 = .ok (.aload_n 0, 1) := by decide +kernel
theorem zdL_564 : decode code 564 = .ok (.iload_n 3, 1) := by decide +kernel
theorem zdL_565 : decode code 565 = .ok (.iconst 1, 1) := by decide +kernel
theorem zdL_566 : decode code 566 = .ok (.iadd, 1) := by decide +kernel
theorem zdL_567 : decode code 567 = .ok (.iaload, 1) := by decide +kernel
theorem zdL_568 : decode code 568 = .ok (.aload_n 0, 1) := by decide +kernel
theorem zdL_569 : decode code 569 = .ok (.iload_n 3, 1) := by decide +kernel
theorem zdL_570 : decode code 570 = .ok (.iconst 2, 1) := by decide +kernel
theorem zdL_571 : decode code 571 = .ok (.iadd, 1) := by decide +kernel
theorem zdL_572 : decode code 572 = .ok (.iaload, 1) := by decide +kernel
theorem zdL_573 : decode code 573 = .ok (.aload_n 0, 1) := by decide +kernel
theorem zdL_574 : decode code 574 = .ok (.iload_n 3, 1) := by decide +kernel
theorem zdL_575 : decode code 575 = .ok (.iconst 3, 1) := by decide +kernel
theorem zdL_576 : decode code 576 = .ok (.iadd, 1) := by decide +kernel
theorem zdL_577 : decode code 577 = .ok (.iaload, 1) := by decide +kernel
theorem zdL_578 : decode code 578 = .ok (.aload_n 0, 1) := by decide +kernel
theorem zdL_579 : decode code 579 = .ok (.iload_n 3, 1) := by decide +kernel
theorem zdL_580 : decode code 580 = .ok (.iconst 4, 1) := by decide +kernel
theorem zdL_581 : decode code 581 = .ok (.iadd, 1) := by decide +kernel
theorem zdL_582 : decode code 582 = .ok (.iaload, 1) := by decide +kernel
theorem zdL_583 : decode code 583 = .ok (.aload_n 0, 1) := by decide +kernel
theorem zdL_584 : decode code 584 = .ok (.iload_n 3, 1) := by decide +kernel
theorem zdL_585 : decode code 585 = .ok (.iconst 5, 1) := by decide +kernel
theorem zdL_586 : decode code 586 = .ok (.iadd, 1) := by decide +kernel
theorem zdL_587 : decode code 587 = .ok (.iaload, 1) := by decide +kernel
theorem zdL_588 : decode code 588 = .ok (.invokevirtual 66, 3) := by decide +kernel
theorem zdL_591 : decode code 591 = .ok (.if_icmp .eq 193, 3) := by decide +kernel
theorem zdL_594 : decode code 594 = .ok (.iconst 0, 1) := by decide +kernel
theorem zdL_595 : decode code 595 = .ok (.ireturn, 1) := by decide +kernel
theorem zdL_596 : decode code 596 = .ok (.aload_n 1, 1) := by decide +kernel
theorem zdL_597 : decode code 597 = .ok (.aload_n 0, 1) := by decide +kernel
theorem zdL_598 : decode code 598 = .ok (.iload_n 3, 1) := by decide +kernel
theorem zdL_599 : decode code 599 = .ok (.iconst 1, 1) := by decide +kernel
theorem zdL_600 : decode code 600 = .ok (.iadd, 1) := by decide +kernel
theorem zdL_601 : decode code 601 = .ok (.iaload, 1) := by decide +kernel
theorem zdL_602 : decode code 602 = .ok (.aload_n 0, 1) := by decide +kernel
theorem zdL_603 : decode code 603 = .ok (.iload_n 3, 1) := by decide +kernel
theorem zdL_604 : decode code 604 = .ok (.iconst 2, 1) := by decide +kernel
theorem zdL_605 : decode code 605 = .ok (.iadd, 1) := by decide +kernel
theorem zdL_606 : decode code 606 = .ok (.iaload, 1) := by decide +kernel
theorem zdL_607 : decode code 607 = .ok (.invokevirtual 67, 3) := by decide +kernel
theorem zdL_610 : decode code 610 = .ok (.aload_n 2, 1) := by decide +kernel
theorem zdL_611 : decode code 611 = .ok (.aload_n 0, 1) := by decide +kernel
theorem zdL_612 : decode code 612 = .ok (.iload_n 3, 1) := by decide +kernel
theorem zdL_613 : decode code 613 = .ok (.iconst 1, 1) := by decide +kernel
theorem zdL_614 : decode code 614 = .ok (.iadd, 1) := by decide +kernel
theorem zdL_615 : decode code 615 = .ok (.iaload, 1) := by decide +kernel
theorem zdL_616 : decode code 616 = .ok (.aload_n 0, 1) := by decide +kernel
theorem zdL_617 : decode code 617 = .ok (.iload_n 3, 1) := by decide +kernel
theorem zdL_618 : decode code 618 = .ok (.iconst 2, 1) := by decide +kernel
theorem zdL_619 : decode code 619 = .ok (.iadd, 1) := by decide +kernel
theorem zdL_620 : decode code 620 = .ok (.iaload, 1) := by decide +kernel
theorem zdL_621 : decode code 621 = .ok (.invokevirtual 70, 3) := by decide +kernel
theorem zdL_624 : decode code 624 = .ok (.if_icmp .eq 160, 3) := by decide +kernel
theorem zdL_627 : decode code 627 = .ok (.iconst 0, 1) := by decide +kernel
theorem zdL_628 : decode code 628 = .ok (.ireturn, 1) := by decide +kernel
theorem zdL_629 : decode code 629 = .ok (.aload_n 1, 1) := by decide +kernel
theorem zdL_630 : decode code 630 = .ok (.aload_n 0, 1) := by decide +kernel
theorem zdL_631 : decode code 631 = .ok (.iload_n 3, 1) := by decide +kernel
theorem zdL_632 : decode code 632 = .ok (.iconst 1, 1) := by decide +kernel
theorem zdL_633 : decode code 633 = .ok (.iadd, 1) := by decide +kernel
theorem zdL_634 : decode code 634 = .ok (.iaload, 1) := by decide +kernel
theorem zdL_635 : decode code 635 = .ok (.aload_n 0, 1) := by decide +kernel
theorem zdL_636 : decode code 636 = .ok (.iload_n 3, 1) := by decide +kernel
theorem zdL_637 : decode code 637 = .ok (.iconst 2, 1) := by decide +kernel
theorem zdL_638 : decode code 638 = .ok (.iadd, 1) := by decide +kernel
theorem zdL_639 : decode code 639 = .ok (.iaload, 1) := by decide +kernel
theorem zdL_640 : decode code 640 = .ok (.aload_n 0, 1) := by decide +kernel
theorem zdL_641 : decode code 641 = .ok (.iload_n 3, 1) := by decide +kernel
theorem zdL_642 : decode code 642 = .ok (.iconst 3, 1) := by decide +kernel
theorem zdL_643 : decode code 643 = .ok (.iadd, 1) := by decide +kernel
theorem zdL_644 : decode code 644 = .ok (.iaload, 1) := by decide +kernel
theorem zdL_645 : decode code 645 = .ok (.aload_n 0, 1) := by decide +kernel
theorem zdL_646 : decode code 646 = .ok (.iload_n 3, 1) := by decide +kernel
theorem zdL_647 : decode code 647 = .ok (.iconst 4, 1) := by decide +kernel
theorem zdL_648 : decode code 648 = .ok (.iadd, 1) := by decide +kernel
theorem zdL_649 : decode code 649 = .ok (.iaload, 1) := by decide +kernel
theorem zdL_650 : decode code 650 = .ok (.aload_n 0, 1) := by decide +kernel
theorem zdL_651 : decode code 651 = .ok (.iload_n 3, 1) := by decide +kernel
theorem zdL_652 : decode code 652 = .ok (.iconst 5, 1) := by decide +kernel
theorem zdL_653 : decode code 653 = .ok (.iadd, 1) := by decide +kernel
theorem zdL_654 : decode code 654 = .ok (.iaload, 1) := by decide +kernel
theorem zdL_655 : decode code 655 = .ok (.invokevirtual 71, 3) := by decide +kernel
theorem zdL_658 : decode code 658 = .ok (.aload_n 2, 1) := by decide +kernel
theorem zdL_659 : decode code 659 = .ok (.aload_n 0, 1) := by decide +kernel
theorem zdL_660 : decode code 660 = .ok (.iload_n 3, 1) := by decide +kernel
theorem zdL_661 : decode code 661 = .ok (.iconst 1, 1) := by decide +kernel
theorem zdL_662 : decode code 662 = .ok (.iadd, 1) := by decide +kernel
theorem zdL_663 : decode code 663 = .ok (.iaload, 1) := by decide +kernel
theorem zdL_664 : decode code 664 = .ok (.aload_n 0, 1) := by decide +kernel
theorem zdL_665 : decode code 665 = .ok (.iload_n 3, 1) := by decide +kernel
theorem zdL_666 : decode code 666 = .ok (.iconst 2, 1) := by decide +kernel
theorem zdL_667 : decode code 667 = .ok (.iadd, 1) := by decide +kernel
theorem zdL_668 : decode code 668 = .ok (.iaload, 1) := by decide +kernel
theorem zdL_669 : decode code 669 = .ok (.aload_n 0, 1) := by decide +kernel
theorem zdL_670 : decode code 670 = .ok (.iload_n 3, 1) := by decide +kernel
theorem zdL_671 : decode code 671 = .ok (.iconst 3, 1) := by decide +kernel
theorem zdL_672 : decode code 672 = .ok (.iadd, 1) := by decide +kernel
theorem zdL_673 : decode code 673 = .ok (.iaload, 1) := by decide +kernel
theorem zdL_674 : decode code 674 = .ok (.aload_n 0, 1) := by decide +kernel
theorem zdL_675 : decode code 675 = .ok (.iload_n 3, 1) := by decide +kernel
theorem zdL_676 : decode code 676 = .ok (.iconst 4, 1) := by decide +kernel
theorem zdL_677 : decode code 677 = .ok (.iadd, 1) := by decide +kernel
theorem zdL_678 : decode code 678 = .ok (.iaload, 1) := by decide +kernel
theorem zdL_679 : decode code 679 = .ok (.aload_n 0, 1) := by decide +kernel
theorem zdL_680 : decode code 680 = .ok (.iload_n 3, 1) := by decide +kernel
theorem zdL_681 : decode code 681 = .ok (.iconst 5, 1) := by decide +kernel
theorem zdL_682 : decode code 682 = .ok (.iadd, 1) := by decide +kernel
theorem zdL_683 : decode code 683 = .ok (.iaload, 1) := by decide +kernel
theorem zdL_684 : decode code 684 = .ok (.invokevirtual 74, 3) := by decide +kernel
theorem zdL_687 : decode code 687 = .ok (.if_icmp .eq 97, 3) := by decide +kernel
theorem zdL_690 : decode code 690 = .ok (.iconst 0, 1) := by decide +kernel
theorem zdL_691 : decode code 691 = .ok (.ireturn, 1) := by decide +kernel
theorem zdL_692 : decode code 692 = .ok (.aload_n 1, 1) := by decide +kernel
theorem zdL_693 : decode code 693 = .ok (.aload_n 0, 1) := by decide +kernel
theorem zdL_694 : decode code 694 = .ok (.iload_n 3, 1) := by decide +kernel
theorem zdL_695 : decode code 695 = .ok (.iconst 1, 1) := by decide +kernel
theorem zdL_696 : decode code 696 = .ok (.iadd, 1) := by decide +kernel
theorem zdL_697 : decode code 697 = .ok (.iaload, 1) := by decide +kernel
theorem zdL_698 : decode code 698 = .ok (.invokevirtual 75, 3) := by decide +kernel
theorem zdL_701 : decode code 701 = .ok (.aload_n 2, 1) := by decide +kernel
theorem zdL_702 : decode code 702 = .ok (.aload_n 0, 1) := by decide +kernel
theorem zdL_703 : decode code 703 = .ok (.iload_n 3, 1) := by decide +kernel
theorem zdL_704 : decode code 704 = .ok (.iconst 1, 1) := by decide +kernel
theorem zdL_705 : decode code 705 = .ok (.iadd, 1) := by decide +kernel
theorem zdL_706 : decode code 706 = .ok (.iaload, 1) := by decide +kernel
theorem zdL_707 : decode code 707 = .ok (.invokevirtual 78, 3) := by decide +kernel
theorem zdL_710 : decode code 710 = .ok (.if_icmp .eq 74, 3) := by decide +kernel
theorem zdL_713 : decode code 713 = .ok (.iconst 0, 1) := by decide +kernel
theorem zdL_714 : decode code 714 = .ok (.ireturn, 1) := by decide +kernel
theorem zdL_715 : decode code 715 = .ok (.aload_n 1, 1) := by decide +kernel
theorem zdL_716 : decode code 716 = .ok (.aload_n 0, 1) := by decide +kernel
theorem zdL_717 : decode code 717 = .ok (.iload_n 3, 1) := by decide +kernel
theorem zdL_718 : decode code 718 = .ok (.iconst 1, 1) := by decide +kernel
theorem zdL_719 : decode code 719 = .ok (.iadd, 1) := by decide +kernel
theorem zdL_720 : decode code 720 = .ok (.iaload, 1) := by decide +kernel
theorem zdL_721 : decode code 721 = .ok (.aload_n 0, 1) := by decide +kernel
theorem zdL_722 : decode code 722 = .ok (.iload_n 3, 1) := by decide +kernel
theorem zdL_723 : decode code 723 = .ok (.iconst 2, 1) := by decide +kernel
theorem zdL_724 : decode code 724 = .ok (.iadd, 1) := by decide +kernel
theorem zdL_725 : decode code 725 = .ok (.iaload, 1) := by decide +kernel
theorem zdL_726 : decode code 726 = .ok (.invokevirtual 79, 3) := by decide +kernel
theorem zdL_729 : decode code 729 = .ok (.aload_n 2, 1) := by decide +kernel
theorem zdL_730 : decode code 730 = .ok (.aload_n 0, 1) := by decide +kernel
theorem zdL_731 : decode code 731 = .ok (.iload_n 3, 1) := by decide +kernel
theorem zdL_732 : decode code 732 = .ok (.iconst 1, 1) := by decide +kernel
theorem zdL_733 : decode code 733 = .ok (.iadd, 1) := by decide +kernel
theorem zdL_734 : decode code 734 = .ok (.iaload, 1) := by decide +kernel
theorem zdL_735 : decode code 735 = .ok (.aload_n 0, 1) := by decide +kernel
theorem zdL_736 : decode code 736 = .ok (.iload_n 3, 1) := by decide +kernel
theorem zdL_737 : decode code 737 = .ok (.iconst 2, 1) := by decide +kernel
theorem zdL_738 : decode code 738 = .ok (.iadd, 1) := by decide +kernel
theorem zdL_739 : decode code 739 = .ok (.iaload, 1) := by decide +kernel
theorem zdL_740 : decode code 740 = .ok (.invokevirtual 82, 3) := by decide +kernel
theorem zdL_743 : decode code 743 = .ok (.if_icmp .eq 41, 3) := by decide +kernel
theorem zdL_746 : decode code 746 = .ok (.iconst 0, 1) := by decide +kernel
theorem zdL_747 : decode code 747 = .ok (.ireturn, 1) := by decide +kernel
theorem zdL_748 : decode code 748 = .ok (.aload_n 1, 1) := by decide +kernel
theorem zdL_749 : decode code 749 = .ok (.aload_n 0, 1) := by decide +kernel
theorem zdL_750 : decode code 750 = .ok (.iload_n 3, 1) := by decide +kernel
theorem zdL_751 : decode code 751 = .ok (.iconst 1, 1) := by decide +kernel
theorem zdL_752 : decode code 752 = .ok (.iadd, 1) := by decide +kernel
theorem zdL_753 : decode code 753 = .ok (.iaload, 1) := by decide +kernel
theorem zdL_754 : decode code 754 = .ok (.invokevirtual 83, 3) := by decide +kernel
theorem zdL_757 : decode code 757 = .ok (.aload_n 2, 1) := by decide +kernel
theorem zdL_758 : decode code 758 = .ok (.aload_n 0, 1) := by decide +kernel
theorem zdL_759 : decode code 759 = .ok (.iload_n 3, 1) := by decide +kernel
theorem zdL_760 : decode code 760 = .ok (.iconst 1, 1) := by decide +kernel
theorem zdL_761 : decode code 761 = .ok (.iadd, 1) := by decide +kernel
theorem zdL_762 : decode code 762 = .ok (.iaload, 1) := by decide +kernel
theorem zdL_763 : decode code 763 = .ok (.invokevirtual 86, 3) := by decide +kernel
theorem zdL_766 : decode code 766 = .ok (.if_icmp .eq 18, 3) := by decide +kernel
theorem zdL_769 : decode code 769 = .ok (.iconst 0, 1) := by decide +kernel
theorem zdL_770 : decode code 770 = .ok (.ireturn, 1) := by decide +kernel
theorem zdL_771 : decode code 771 = .ok (.aload_n 1, 1) := by decide +kernel
theorem zdL_772 : decode code 772 = .ok (.invokevirtual 87, 3) := by decide +kernel
theorem zdL_775 : decode code 775 = .ok (.aload_n 2, 1) := by decide +kernel
theorem zdL_776 : decode code 776 = .ok (.invokevirtual 90, 3) := by decide +kernel
theorem zdL_779 : decode code 779 = .ok (.if_icmp .eq 5, 3) := by decide +kernel
theorem zdL_782 : decode code 782 = .ok (.iconst 0, 1) := by decide +kernel
theorem zdL_783 : decode code 783 = .ok (.ireturn, 1) := by decide +kernel
theorem zdL_784 : decode code 784 = .ok (.iinc 3 6, 3) := by decide +kernel
theorem zdL_787 : decode code 787 = .ok (.goto (-769), 3) := by decide +kernel
theorem zdL_790 : decode code 790 = .ok (.iconst 1, 1) := by decide +kernel
theorem zdL_791 : decode code 791 = .ok (.ireturn, 1) := by decide +kernel
theorem lc_size {p : Program} {l : Launch} {e : Env} {s : State} {m : MethodId} {below : List Frame} {meth : Method} {c : Code} {b L : Nat} {xs : Nat → Int32} {D : va_G} {Y : Nat → ClassId} {ad0 : Nat → Nat} (C : lCx p s m meth c b L xs D Y ad0) (hL : L ≤ 3072) {i t : Nat} {F : wFS} (hi : i + 6 ≤ L) (ht : t ≤ 512) (nx : ∀ F1, lGo p l e s m below meth c b D Y ad0 i (t + 1) 784 F1) : lGo p l e s m below meth c b D Y ad0 i t 120 F :=
  lturn C (pcX := 131) (pcM := 145) (as' := [.int (xs (i + 1)), .int (xs (i + 2))]) (n := 2) (F' := (pSize (xs (i + 1)) (xs (i + 2)) F).2) (v := (pSize (xs (i + 1)) (xs (i + 2)) F).1) ht (by intro v hv; simp only [List.mem_cons, List.not_mem_nil, or_false] at hv; rcases hv with rfl | rfl <;> exact ⟨_, rfl⟩) rfl
    (fun H locs cells slots ls q hS h0 h1 h3 kk => lv_aload_n C.1.1 C.1.2.1 zdL_120 rfl h1 (lpush C (j := 1) (jj := 1) hS h0 h3 hL (by omega) (by decide) zdL_121 zdL_122 zdL_123 zdL_124 zdL_125 (lpush C (j := 2) (jj := 2) hS h0 h3 hL (by omega) (by decide) zdL_126 zdL_127 zdL_128 zdL_129 zdL_130 kk)))
    (fun H locs cells slots ls q x hS h0 h2 h3 kk => lv_aload_n C.1.1 C.1.2.1 zdL_134 rfl h2 (lpush C (j := 1) (jj := 1) hS h0 h3 hL (by omega) (by decide) zdL_135 zdL_136 zdL_137 zdL_138 zdL_139 (lpush C (j := 2) (jj := 2) hS h0 h3 hL (by omega) (by decide) zdL_140 zdL_141 zdL_142 zdL_143 zdL_144 kk)))
    rfl (zm_X7_size l D Y) gw_1_216 gw_1_213 gw_1_214 gw_1_215 gw_1_1 zdn_X7_size ⟨by decide, by decide⟩ ⟨by decide, by decide⟩ zdL_131
    rfl (zm_X8_size l D Y) gw_3_207 gw_3_204 gw_3_205 gw_3_206 gw_1_7 zdn_X8_size ⟨by decide, by decide⟩ zdL_145 zdL_148 (by decide)
    (fun MX pk dk q hq h => ⟨rfl, F, pk, dk, q, h, fun M' h' => ⟨rfl, pk, dk, q, by omega, h'⟩⟩)
    (fun MM h => ⟨rfl, F, h, fun M' h' => ⟨rfl, h'⟩⟩)
    (nx _)
theorem lc_land {p : Program} {l : Launch} {e : Env} {s : State} {m : MethodId} {below : List Frame} {meth : Method} {c : Code} {b L : Nat} {xs : Nat → Int32} {D : va_G} {Y : Nat → ClassId} {ad0 : Nat → Nat} (C : lCx p s m meth c b L xs D Y ad0) (hL : L ≤ 3072) {i t : Nat} {F : wFS} (hi : i + 6 ≤ L) (ht : t ≤ 512) (nx : ∀ F1, lGo p l e s m below meth c b D Y ad0 i (t + 1) 784 F1) : lGo p l e s m below meth c b D Y ad0 i t 153 F :=
  lturn C (pcX := 179) (pcM := 208) (as' := [.int (xs (i + 1)), .int (xs (i + 2)), .int (xs (i + 3)), .int (xs (i + 4)), .int (xs (i + 5))]) (n := 5) (F' := (pLand (xs (i + 1)) (xs (i + 2)) (xs (i + 3)) (xs (i + 4)) (xs (i + 5)) F).2) (v := (pLand (xs (i + 1)) (xs (i + 2)) (xs (i + 3)) (xs (i + 4)) (xs (i + 5)) F).1) ht (by intro v hv; simp only [List.mem_cons, List.not_mem_nil, or_false] at hv; rcases hv with rfl | rfl | rfl | rfl | rfl <;> exact ⟨_, rfl⟩) rfl
    (fun H locs cells slots ls q hS h0 h1 h3 kk => lv_aload_n C.1.1 C.1.2.1 zdL_153 rfl h1 (lpush C (j := 1) (jj := 1) hS h0 h3 hL (by omega) (by decide) zdL_154 zdL_155 zdL_156 zdL_157 zdL_158 (lpush C (j := 2) (jj := 2) hS h0 h3 hL (by omega) (by decide) zdL_159 zdL_160 zdL_161 zdL_162 zdL_163 (lpush C (j := 3) (jj := 3) hS h0 h3 hL (by omega) (by decide) zdL_164 zdL_165 zdL_166 zdL_167 zdL_168 (lpush C (j := 4) (jj := 4) hS h0 h3 hL (by omega) (by decide) zdL_169 zdL_170 zdL_171 zdL_172 zdL_173 (lpush C (j := 5) (jj := 5) hS h0 h3 hL (by omega) (by decide) zdL_174 zdL_175 zdL_176 zdL_177 zdL_178 kk))))))
    (fun H locs cells slots ls q x hS h0 h2 h3 kk => lv_aload_n C.1.1 C.1.2.1 zdL_182 rfl h2 (lpush C (j := 1) (jj := 1) hS h0 h3 hL (by omega) (by decide) zdL_183 zdL_184 zdL_185 zdL_186 zdL_187 (lpush C (j := 2) (jj := 2) hS h0 h3 hL (by omega) (by decide) zdL_188 zdL_189 zdL_190 zdL_191 zdL_192 (lpush C (j := 3) (jj := 3) hS h0 h3 hL (by omega) (by decide) zdL_193 zdL_194 zdL_195 zdL_196 zdL_197 (lpush C (j := 4) (jj := 4) hS h0 h3 hL (by omega) (by decide) zdL_198 zdL_199 zdL_200 zdL_201 zdL_202 (lpush C (j := 5) (jj := 5) hS h0 h3 hL (by omega) (by decide) zdL_203 zdL_204 zdL_205 zdL_206 zdL_207 kk))))))
    rfl (zm_X7_land l D Y) gw_1_236 gw_1_233 gw_1_234 gw_1_235 gw_1_1 zdn_X7_land ⟨by decide, by decide⟩ ⟨by decide, by decide⟩ zdL_179
    rfl (zm_X8_land l D Y) gw_3_221 gw_3_218 gw_3_219 gw_3_220 gw_1_7 zdn_X8_land ⟨by decide, by decide⟩ zdL_208 zdL_211 (by decide)
    (fun MX pk dk q hq h => ⟨rfl, F, pk, dk, q, h, fun M' h' => ⟨rfl, pk, dk, q, by omega, h'⟩⟩)
    (fun MM h => ⟨rfl, F, h, fun M' h' => ⟨rfl, h'⟩⟩)
    (nx _)
theorem lc_level {p : Program} {l : Launch} {e : Env} {s : State} {m : MethodId} {below : List Frame} {meth : Method} {c : Code} {b L : Nat} {xs : Nat → Int32} {D : va_G} {Y : Nat → ClassId} {ad0 : Nat → Nat} (C : lCx p s m meth c b L xs D Y ad0) (hL : L ≤ 3072) {i t : Nat} {F : wFS} (hi : i + 6 ≤ L) (ht : t ≤ 512) (nx : ∀ F1, lGo p l e s m below meth c b D Y ad0 i (t + 1) 784 F1) : lGo p l e s m below meth c b D Y ad0 i t 216 F :=
  lturn C (pcX := 222) (pcM := 231) (as' := [.int (xs (i + 1))]) (n := 1) (F' := (pLevel (xs (i + 1)) F).2) (v := (pLevel (xs (i + 1)) F).1) ht (by intro v hv; simp only [List.mem_cons, List.not_mem_nil, or_false] at hv; subst hv; exact ⟨_, rfl⟩) rfl
    (fun H locs cells slots ls q hS h0 h1 h3 kk => lv_aload_n C.1.1 C.1.2.1 zdL_216 rfl h1 (lpush C (j := 1) (jj := 1) hS h0 h3 hL (by omega) (by decide) zdL_217 zdL_218 zdL_219 zdL_220 zdL_221 kk))
    (fun H locs cells slots ls q x hS h0 h2 h3 kk => lv_aload_n C.1.1 C.1.2.1 zdL_225 rfl h2 (lpush C (j := 1) (jj := 1) hS h0 h3 hL (by omega) (by decide) zdL_226 zdL_227 zdL_228 zdL_229 zdL_230 kk))
    rfl (zm_X7_level l D Y) gw_2_11 gw_2_8 gw_2_9 gw_2_10 gw_1_1 zdn_X7_level ⟨by decide, by decide⟩ ⟨by decide, by decide⟩ zdL_222
    rfl (zm_X8_level l D Y) gw_3_230 gw_3_227 gw_3_228 gw_3_229 gw_1_7 zdn_X8_level ⟨by decide, by decide⟩ zdL_231 zdL_234 (by decide)
    (fun MX pk dk q hq h => ⟨rfl, F, pk, dk, q, h, fun M' h' => ⟨rfl, pk, dk, q, by omega, h'⟩⟩)
    (fun MM h => ⟨rfl, F, h, fun M' h' => ⟨rfl, h'⟩⟩)
    (nx _)
theorem lc_spring {p : Program} {l : Launch} {e : Env} {s : State} {m : MethodId} {below : List Frame} {meth : Method} {c : Code} {b L : Nat} {xs : Nat → Int32} {D : va_G} {Y : Nat → ClassId} {ad0 : Nat → Nat} (C : lCx p s m meth c b L xs D Y ad0) (hL : L ≤ 3072) {i t : Nat} {F : wFS} (hi : i + 6 ≤ L) (ht : t ≤ 512) (nx : ∀ F1, lGo p l e s m below meth c b D Y ad0 i (t + 1) 784 F1) : lGo p l e s m below meth c b D Y ad0 i t 239 F :=
  lturn C (pcX := 255) (pcM := 274) (as' := [.int (xs (i + 1)), .int (xs (i + 2)), .int (xs (i + 3))]) (n := 3) (F' := (pSpring (xs (i + 1)) (xs (i + 2)) (xs (i + 3)) F).2) (v := (pSpring (xs (i + 1)) (xs (i + 2)) (xs (i + 3)) F).1) ht (by intro v hv; simp only [List.mem_cons, List.not_mem_nil, or_false] at hv; rcases hv with rfl | rfl | rfl <;> exact ⟨_, rfl⟩) rfl
    (fun H locs cells slots ls q hS h0 h1 h3 kk => lv_aload_n C.1.1 C.1.2.1 zdL_239 rfl h1 (lpush C (j := 1) (jj := 1) hS h0 h3 hL (by omega) (by decide) zdL_240 zdL_241 zdL_242 zdL_243 zdL_244 (lpush C (j := 2) (jj := 2) hS h0 h3 hL (by omega) (by decide) zdL_245 zdL_246 zdL_247 zdL_248 zdL_249 (lpush C (j := 3) (jj := 3) hS h0 h3 hL (by omega) (by decide) zdL_250 zdL_251 zdL_252 zdL_253 zdL_254 kk))))
    (fun H locs cells slots ls q x hS h0 h2 h3 kk => lv_aload_n C.1.1 C.1.2.1 zdL_258 rfl h2 (lpush C (j := 1) (jj := 1) hS h0 h3 hL (by omega) (by decide) zdL_259 zdL_260 zdL_261 zdL_262 zdL_263 (lpush C (j := 2) (jj := 2) hS h0 h3 hL (by omega) (by decide) zdL_264 zdL_265 zdL_266 zdL_267 zdL_268 (lpush C (j := 3) (jj := 3) hS h0 h3 hL (by omega) (by decide) zdL_269 zdL_270 zdL_271 zdL_272 zdL_273 kk))))
    rfl (zm_X7_spring l D Y) gw_2_15 gw_2_12 gw_2_13 gw_2_14 gw_1_1 zdn_X7_spring ⟨by decide, by decide⟩ ⟨by decide, by decide⟩ zdL_255
    rfl (zm_X8_spring l D Y) gw_3_234 gw_3_231 gw_3_232 gw_3_233 gw_1_7 zdn_X8_spring ⟨by decide, by decide⟩ zdL_274 zdL_277 (by decide)
    (fun MX pk dk q hq h => ⟨rfl, F, pk, dk, q, h, fun M' h' => ⟨rfl, pk, dk, q, by omega, h'⟩⟩)
    (fun MM h => ⟨rfl, F, h, fun M' h' => ⟨rfl, h'⟩⟩)
    (nx _)
theorem lc_feed {p : Program} {l : Launch} {e : Env} {s : State} {m : MethodId} {below : List Frame} {meth : Method} {c : Code} {b L : Nat} {xs : Nat → Int32} {D : va_G} {Y : Nat → ClassId} {ad0 : Nat → Nat} (C : lCx p s m meth c b L xs D Y ad0) (hL : L ≤ 3072) {i t : Nat} {F : wFS} (hi : i + 6 ≤ L) (ht : t ≤ 512) (nx : ∀ F1, lGo p l e s m below meth c b D Y ad0 i (t + 1) 784 F1) : lGo p l e s m below meth c b D Y ad0 i t 282 F :=
  lturn C (pcX := 308) (pcM := 337) (as' := [.int (xs (i + 1)), .int (xs (i + 2)), .int (xs (i + 3)), .int (xs (i + 4)), .int (xs (i + 5))]) (n := 5) (F' := (pFeed (xs (i + 1)) (xs (i + 2)) (xs (i + 3)) (xs (i + 4)) (xs (i + 5)) F).2) (v := (pFeed (xs (i + 1)) (xs (i + 2)) (xs (i + 3)) (xs (i + 4)) (xs (i + 5)) F).1) ht (by intro v hv; simp only [List.mem_cons, List.not_mem_nil, or_false] at hv; rcases hv with rfl | rfl | rfl | rfl | rfl <;> exact ⟨_, rfl⟩) rfl
    (fun H locs cells slots ls q hS h0 h1 h3 kk => lv_aload_n C.1.1 C.1.2.1 zdL_282 rfl h1 (lpush C (j := 1) (jj := 1) hS h0 h3 hL (by omega) (by decide) zdL_283 zdL_284 zdL_285 zdL_286 zdL_287 (lpush C (j := 2) (jj := 2) hS h0 h3 hL (by omega) (by decide) zdL_288 zdL_289 zdL_290 zdL_291 zdL_292 (lpush C (j := 3) (jj := 3) hS h0 h3 hL (by omega) (by decide) zdL_293 zdL_294 zdL_295 zdL_296 zdL_297 (lpush C (j := 4) (jj := 4) hS h0 h3 hL (by omega) (by decide) zdL_298 zdL_299 zdL_300 zdL_301 zdL_302 (lpush C (j := 5) (jj := 5) hS h0 h3 hL (by omega) (by decide) zdL_303 zdL_304 zdL_305 zdL_306 zdL_307 kk))))))
    (fun H locs cells slots ls q x hS h0 h2 h3 kk => lv_aload_n C.1.1 C.1.2.1 zdL_311 rfl h2 (lpush C (j := 1) (jj := 1) hS h0 h3 hL (by omega) (by decide) zdL_312 zdL_313 zdL_314 zdL_315 zdL_316 (lpush C (j := 2) (jj := 2) hS h0 h3 hL (by omega) (by decide) zdL_317 zdL_318 zdL_319 zdL_320 zdL_321 (lpush C (j := 3) (jj := 3) hS h0 h3 hL (by omega) (by decide) zdL_322 zdL_323 zdL_324 zdL_325 zdL_326 (lpush C (j := 4) (jj := 4) hS h0 h3 hL (by omega) (by decide) zdL_327 zdL_328 zdL_329 zdL_330 zdL_331 (lpush C (j := 5) (jj := 5) hS h0 h3 hL (by omega) (by decide) zdL_332 zdL_333 zdL_334 zdL_335 zdL_336 kk))))))
    rfl (zm_X7_feed l D Y) gw_2_20 gw_2_17 gw_2_18 gw_2_19 gw_1_1 zdn_X7_feed ⟨by decide, by decide⟩ ⟨by decide, by decide⟩ zdL_308
    rfl (zm_X8_feed l D Y) gw_3_239 gw_3_236 gw_3_237 gw_3_238 gw_1_7 zdn_X8_feed ⟨by decide, by decide⟩ zdL_337 zdL_340 (by decide)
    (fun MX pk dk q hq h => ⟨rfl, F, pk, dk, q, h, fun M' h' => ⟨rfl, pk, dk, q, by omega, h'⟩⟩)
    (fun MM h => ⟨rfl, F, h, fun M' h' => ⟨rfl, h'⟩⟩)
    (nx _)
theorem lc_end {p : Program} {l : Launch} {e : Env} {s : State} {m : MethodId} {below : List Frame} {meth : Method} {c : Code} {b L : Nat} {xs : Nat → Int32} {D : va_G} {Y : Nat → ClassId} {ad0 : Nat → Nat} (C : lCx p s m meth c b L xs D Y ad0) (hL : L ≤ 3072) {i t : Nat} {F : wFS} (hi : i + 6 ≤ L) (ht : t ≤ 512) (nx : ∀ F1, lGo p l e s m below meth c b D Y ad0 i (t + 1) 784 F1) : lGo p l e s m below meth c b D Y ad0 i t 345 F :=
  lturn C (pcX := 351) (pcM := 360) (as' := [.int (xs (i + 1))]) (n := 1) (F' := (pEnd (xs (i + 1)) F).2) (v := (pEnd (xs (i + 1)) F).1) ht (by intro v hv; simp only [List.mem_cons, List.not_mem_nil, or_false] at hv; subst hv; exact ⟨_, rfl⟩) rfl
    (fun H locs cells slots ls q hS h0 h1 h3 kk => lv_aload_n C.1.1 C.1.2.1 zdL_345 rfl h1 (lpush C (j := 1) (jj := 1) hS h0 h3 hL (by omega) (by decide) zdL_346 zdL_347 zdL_348 zdL_349 zdL_350 kk))
    (fun H locs cells slots ls q x hS h0 h2 h3 kk => lv_aload_n C.1.1 C.1.2.1 zdL_354 rfl h2 (lpush C (j := 1) (jj := 1) hS h0 h3 hL (by omega) (by decide) zdL_355 zdL_356 zdL_357 zdL_358 zdL_359 kk))
    rfl (zm_X7_end l D Y) gw_2_28 gw_2_25 gw_2_26 gw_2_27 gw_1_1 zdn_X7_end ⟨by decide, by decide⟩ ⟨by decide, by decide⟩ zdL_351
    rfl (zm_X8_end l D Y) gw_4_7 gw_4_4 gw_4_5 gw_4_6 gw_1_7 zdn_X8_end ⟨by decide, by decide⟩ zdL_360 zdL_363 (by decide)
    (fun MX pk dk q hq h => ⟨rfl, F, pk, dk, q, h, fun M' h' => ⟨rfl, pk, dk, q, by omega, h'⟩⟩)
    (fun MM h => ⟨rfl, F, h, fun M' h' => ⟨rfl, h'⟩⟩)
    (nx _)
theorem lc_plan {p : Program} {l : Launch} {e : Env} {s : State} {m : MethodId} {below : List Frame} {meth : Method} {c : Code} {b L : Nat} {xs : Nat → Int32} {D : va_G} {Y : Nat → ClassId} {ad0 : Nat → Nat} (C : lCx p s m meth c b L xs D Y ad0) (hL : L ≤ 3072) {i t : Nat} {F : wFS} (hi : i + 6 ≤ L) (ht : t ≤ 512) (nx : ∀ F1, lGo p l e s m below meth c b D Y ad0 i (t + 1) 784 F1) : lGo p l e s m below meth c b D Y ad0 i t 368 F :=
  lturn C (pcX := 369) (pcM := 373) (as' := []) (n := 0) (F' := (pPlan F).2) (v := (pPlan F).1) ht (fun v hv => absurd hv List.not_mem_nil) rfl
    (fun H locs cells slots ls q hS h0 h1 h3 kk => lv_aload_n C.1.1 C.1.2.1 zdL_368 rfl h1 kk)
    (fun H locs cells slots ls q x hS h0 h2 h3 kk => lv_aload_n C.1.1 C.1.2.1 zdL_372 rfl h2 kk)
    rfl (zm_X7_plan l D Y) gw_2_32 gw_2_29 gw_2_30 gw_2_31 gw_1_1 zdn_X7_plan ⟨by decide, by decide⟩ ⟨by decide, by decide⟩ zdL_369
    rfl (zm_X8_plan l D Y) gw_4_11 gw_4_8 gw_4_9 gw_4_10 gw_1_7 zdn_X8_plan ⟨by decide, by decide⟩ zdL_373 zdL_376 (by decide)
    (fun MX pk dk q hq h => ⟨rfl, F, pk, dk, q, h, by omega, fun M' pk' dk' h' => ⟨rfl, pk', dk', q + 1, by omega, h'⟩⟩)
    (fun MM h => ⟨rfl, F, h, fun M' h' => ⟨rfl, h'⟩⟩)
    (nx _)
theorem lc_fault {p : Program} {l : Launch} {e : Env} {s : State} {m : MethodId} {below : List Frame} {meth : Method} {c : Code} {b L : Nat} {xs : Nat → Int32} {D : va_G} {Y : Nat → ClassId} {ad0 : Nat → Nat} (C : lCx p s m meth c b L xs D Y ad0) (hL : L ≤ 3072) {i t : Nat} {F : wFS} (hi : i + 6 ≤ L) (ht : t ≤ 512) (nx : ∀ F1, lGo p l e s m below meth c b D Y ad0 i (t + 1) 784 F1) : lGo p l e s m below meth c b D Y ad0 i t 381 F :=
  lturn C (pcX := 382) (pcM := 386) (as' := []) (n := 0) (F' := (pFault F).2) (v := (pFault F).1) ht (fun v hv => absurd hv List.not_mem_nil) rfl
    (fun H locs cells slots ls q hS h0 h1 h3 kk => lv_aload_n C.1.1 C.1.2.1 zdL_381 rfl h1 kk)
    (fun H locs cells slots ls q x hS h0 h2 h3 kk => lv_aload_n C.1.1 C.1.2.1 zdL_385 rfl h2 kk)
    rfl (zm_X7_fault l D Y) gw_2_152 gw_2_149 gw_2_150 gw_2_151 gw_1_1 zdn_X7_fault ⟨by decide, by decide⟩ ⟨by decide, by decide⟩ zdL_382
    rfl (zm_X8_fault l D Y) gw_4_49 gw_4_46 gw_4_47 gw_4_48 gw_1_7 zdn_X8_fault ⟨by decide, by decide⟩ zdL_386 zdL_389 (by decide)
    (fun MX pk dk q hq h => ⟨rfl, F, pk, dk, q, h, fun M' h' => ⟨rfl, pk, dk, q, by omega, h'⟩⟩)
    (fun MM h => ⟨rfl, F, h, fun M' h' => ⟨rfl, h'⟩⟩)
    (nx _)
theorem lc_height {p : Program} {l : Launch} {e : Env} {s : State} {m : MethodId} {below : List Frame} {meth : Method} {c : Code} {b L : Nat} {xs : Nat → Int32} {D : va_G} {Y : Nat → ClassId} {ad0 : Nat → Nat} (C : lCx p s m meth c b L xs D Y ad0) (hL : L ≤ 3072) {i t : Nat} {F : wFS} (hi : i + 6 ≤ L) (ht : t ≤ 512) (nx : ∀ F1, lGo p l e s m below meth c b D Y ad0 i (t + 1) 784 F1) : lGo p l e s m below meth c b D Y ad0 i t 394 F :=
  lturn C (pcX := 415) (pcM := 439) (as' := [.int (xs (i + 1)), .int (xs (i + 2)), .int (xs (i + 3)), .int (xs (i + 4))]) (n := 4) (F' := (pHeight (xs (i + 1)) (xs (i + 2)) (xs (i + 3)) (xs (i + 4)) F).2) (v := (pHeight (xs (i + 1)) (xs (i + 2)) (xs (i + 3)) (xs (i + 4)) F).1) ht (by intro v hv; simp only [List.mem_cons, List.not_mem_nil, or_false] at hv; rcases hv with rfl | rfl | rfl | rfl <;> exact ⟨_, rfl⟩) rfl
    (fun H locs cells slots ls q hS h0 h1 h3 kk => lv_aload_n C.1.1 C.1.2.1 zdL_394 rfl h1 (lpush C (j := 1) (jj := 1) hS h0 h3 hL (by omega) (by decide) zdL_395 zdL_396 zdL_397 zdL_398 zdL_399 (lpush C (j := 2) (jj := 2) hS h0 h3 hL (by omega) (by decide) zdL_400 zdL_401 zdL_402 zdL_403 zdL_404 (lpush C (j := 3) (jj := 3) hS h0 h3 hL (by omega) (by decide) zdL_405 zdL_406 zdL_407 zdL_408 zdL_409 (lpush C (j := 4) (jj := 4) hS h0 h3 hL (by omega) (by decide) zdL_410 zdL_411 zdL_412 zdL_413 zdL_414 kk)))))
    (fun H locs cells slots ls q x hS h0 h2 h3 kk => lv_aload_n C.1.1 C.1.2.1 zdL_418 rfl h2 (lpush C (j := 1) (jj := 1) hS h0 h3 hL (by omega) (by decide) zdL_419 zdL_420 zdL_421 zdL_422 zdL_423 (lpush C (j := 2) (jj := 2) hS h0 h3 hL (by omega) (by decide) zdL_424 zdL_425 zdL_426 zdL_427 zdL_428 (lpush C (j := 3) (jj := 3) hS h0 h3 hL (by omega) (by decide) zdL_429 zdL_430 zdL_431 zdL_432 zdL_433 (lpush C (j := 4) (jj := 4) hS h0 h3 hL (by omega) (by decide) zdL_434 zdL_435 zdL_436 zdL_437 zdL_438 kk)))))
    rfl (zm_X7_height l D Y) gw_2_156 gw_2_153 gw_2_154 gw_2_155 gw_1_1 zdn_X7_height ⟨by decide, by decide⟩ ⟨by decide, by decide⟩ zdL_415
    rfl (zm_X8_height l D Y) gw_4_53 gw_4_50 gw_4_51 gw_4_52 gw_1_7 zdn_X8_height ⟨by decide, by decide⟩ zdL_439 zdL_442 (by decide)
    (fun MX pk dk q hq h => ⟨rfl, F, pk, dk, q, h, fun M' h' => ⟨rfl, pk, dk, q, by omega, h'⟩⟩)
    (fun MM h => ⟨rfl, F, h, fun M' h' => ⟨rfl, h'⟩⟩)
    (nx _)
theorem lc_flow {p : Program} {l : Launch} {e : Env} {s : State} {m : MethodId} {below : List Frame} {meth : Method} {c : Code} {b L : Nat} {xs : Nat → Int32} {D : va_G} {Y : Nat → ClassId} {ad0 : Nat → Nat} (C : lCx p s m meth c b L xs D Y ad0) (hL : L ≤ 3072) {i t : Nat} {F : wFS} (hi : i + 6 ≤ L) (ht : t ≤ 512) (nx : ∀ F1, lGo p l e s m below meth c b D Y ad0 i (t + 1) 784 F1) : lGo p l e s m below meth c b D Y ad0 i t 447 F :=
  lturn C (pcX := 468) (pcM := 492) (as' := [.int (xs (i + 1)), .int (xs (i + 2)), .int (xs (i + 3)), .int (xs (i + 4))]) (n := 4) (F' := (pFlow (xs (i + 1)) (xs (i + 2)) (xs (i + 3)) (xs (i + 4)) F).2) (v := (pFlow (xs (i + 1)) (xs (i + 2)) (xs (i + 3)) (xs (i + 4)) F).1) ht (by intro v hv; simp only [List.mem_cons, List.not_mem_nil, or_false] at hv; rcases hv with rfl | rfl | rfl | rfl <;> exact ⟨_, rfl⟩) rfl
    (fun H locs cells slots ls q hS h0 h1 h3 kk => lv_aload_n C.1.1 C.1.2.1 zdL_447 rfl h1 (lpush C (j := 1) (jj := 1) hS h0 h3 hL (by omega) (by decide) zdL_448 zdL_449 zdL_450 zdL_451 zdL_452 (lpush C (j := 2) (jj := 2) hS h0 h3 hL (by omega) (by decide) zdL_453 zdL_454 zdL_455 zdL_456 zdL_457 (lpush C (j := 3) (jj := 3) hS h0 h3 hL (by omega) (by decide) zdL_458 zdL_459 zdL_460 zdL_461 zdL_462 (lpush C (j := 4) (jj := 4) hS h0 h3 hL (by omega) (by decide) zdL_463 zdL_464 zdL_465 zdL_466 zdL_467 kk)))))
    (fun H locs cells slots ls q x hS h0 h2 h3 kk => lv_aload_n C.1.1 C.1.2.1 zdL_471 rfl h2 (lpush C (j := 1) (jj := 1) hS h0 h3 hL (by omega) (by decide) zdL_472 zdL_473 zdL_474 zdL_475 zdL_476 (lpush C (j := 2) (jj := 2) hS h0 h3 hL (by omega) (by decide) zdL_477 zdL_478 zdL_479 zdL_480 zdL_481 (lpush C (j := 3) (jj := 3) hS h0 h3 hL (by omega) (by decide) zdL_482 zdL_483 zdL_484 zdL_485 zdL_486 (lpush C (j := 4) (jj := 4) hS h0 h3 hL (by omega) (by decide) zdL_487 zdL_488 zdL_489 zdL_490 zdL_491 kk)))))
    rfl (zm_X7_flow l D Y) gw_3_30 gw_3_27 gw_3_28 gw_3_29 gw_1_1 zdn_X7_flow ⟨by decide, by decide⟩ ⟨by decide, by decide⟩ zdL_468
    rfl (zm_X8_flow l D Y) gw_4_96 gw_4_93 gw_4_94 gw_4_95 gw_1_7 zdn_X8_flow ⟨by decide, by decide⟩ zdL_492 zdL_495 (by decide)
    (fun MX pk dk q hq h => ⟨rfl, F, pk, dk, q, h, fun M' h' => ⟨rfl, pk, dk, q, by omega, h'⟩⟩)
    (fun MM h => ⟨rfl, F, h, fun M' h' => ⟨rfl, h'⟩⟩)
    (nx _)
theorem lc_lake {p : Program} {l : Launch} {e : Env} {s : State} {m : MethodId} {below : List Frame} {meth : Method} {c : Code} {b L : Nat} {xs : Nat → Int32} {D : va_G} {Y : Nat → ClassId} {ad0 : Nat → Nat} (C : lCx p s m meth c b L xs D Y ad0) (hL : L ≤ 3072) {i t : Nat} {F : wFS} (hi : i + 6 ≤ L) (ht : t ≤ 512) (nx : ∀ F1, lGo p l e s m below meth c b D Y ad0 i (t + 1) 784 F1) : lGo p l e s m below meth c b D Y ad0 i t 500 F :=
  lturn C (pcX := 511) (pcM := 525) (as' := [.int (xs (i + 1)), .int (xs (i + 2))]) (n := 2) (F' := (pLake (xs (i + 1)) (xs (i + 2)) F).2) (v := (pLake (xs (i + 1)) (xs (i + 2)) F).1) ht (by intro v hv; simp only [List.mem_cons, List.not_mem_nil, or_false] at hv; rcases hv with rfl | rfl <;> exact ⟨_, rfl⟩) rfl
    (fun H locs cells slots ls q hS h0 h1 h3 kk => lv_aload_n C.1.1 C.1.2.1 zdL_500 rfl h1 (lpush C (j := 1) (jj := 1) hS h0 h3 hL (by omega) (by decide) zdL_501 zdL_502 zdL_503 zdL_504 zdL_505 (lpush C (j := 2) (jj := 2) hS h0 h3 hL (by omega) (by decide) zdL_506 zdL_507 zdL_508 zdL_509 zdL_510 kk)))
    (fun H locs cells slots ls q x hS h0 h2 h3 kk => lv_aload_n C.1.1 C.1.2.1 zdL_514 rfl h2 (lpush C (j := 1) (jj := 1) hS h0 h3 hL (by omega) (by decide) zdL_515 zdL_516 zdL_517 zdL_518 zdL_519 (lpush C (j := 2) (jj := 2) hS h0 h3 hL (by omega) (by decide) zdL_520 zdL_521 zdL_522 zdL_523 zdL_524 kk)))
    rfl (zm_X7_lake l D Y) gw_3_34 gw_3_31 gw_3_32 gw_3_33 gw_1_1 zdn_X7_lake ⟨by decide, by decide⟩ ⟨by decide, by decide⟩ zdL_511
    rfl (zm_X8_lake l D Y) gw_4_100 gw_4_97 gw_4_98 gw_4_99 gw_1_7 zdn_X8_lake ⟨by decide, by decide⟩ zdL_525 zdL_528 (by decide)
    (fun MX pk dk q hq h => ⟨rfl, F, pk, dk, q, h, fun M' h' => ⟨rfl, pk, dk, q, by omega, h'⟩⟩)
    (fun MM h => ⟨rfl, F, h, fun M' h' => ⟨rfl, h'⟩⟩)
    (nx _)
theorem lc_map {p : Program} {l : Launch} {e : Env} {s : State} {m : MethodId} {below : List Frame} {meth : Method} {c : Code} {b L : Nat} {xs : Nat → Int32} {D : va_G} {Y : Nat → ClassId} {ad0 : Nat → Nat} (C : lCx p s m meth c b L xs D Y ad0) (hL : L ≤ 3072) {i t : Nat} {F : wFS} (hi : i + 6 ≤ L) (ht : t ≤ 512) (nx : ∀ F1, lGo p l e s m below meth c b D Y ad0 i (t + 1) 784 F1) : lGo p l e s m below meth c b D Y ad0 i t 533 F :=
  lturn C (pcX := 559) (pcM := 588) (as' := [.int (xs (i + 1)), .int (xs (i + 2)), .int (xs (i + 3)), .int (xs (i + 4)), .int (xs (i + 5))]) (n := 5) (F' := (pMap (xs (i + 1)) (xs (i + 2)) (xs (i + 3)) (xs (i + 4)) (xs (i + 5)) F).2) (v := (pMap (xs (i + 1)) (xs (i + 2)) (xs (i + 3)) (xs (i + 4)) (xs (i + 5)) F).1) ht (by intro v hv; simp only [List.mem_cons, List.not_mem_nil, or_false] at hv; rcases hv with rfl | rfl | rfl | rfl | rfl <;> exact ⟨_, rfl⟩) rfl
    (fun H locs cells slots ls q hS h0 h1 h3 kk => lv_aload_n C.1.1 C.1.2.1 zdL_533 rfl h1 (lpush C (j := 1) (jj := 1) hS h0 h3 hL (by omega) (by decide) zdL_534 zdL_535 zdL_536 zdL_537 zdL_538 (lpush C (j := 2) (jj := 2) hS h0 h3 hL (by omega) (by decide) zdL_539 zdL_540 zdL_541 zdL_542 zdL_543 (lpush C (j := 3) (jj := 3) hS h0 h3 hL (by omega) (by decide) zdL_544 zdL_545 zdL_546 zdL_547 zdL_548 (lpush C (j := 4) (jj := 4) hS h0 h3 hL (by omega) (by decide) zdL_549 zdL_550 zdL_551 zdL_552 zdL_553 (lpush C (j := 5) (jj := 5) hS h0 h3 hL (by omega) (by decide) zdL_554 zdL_555 zdL_556 zdL_557 zdL_558 kk))))))
    (fun H locs cells slots ls q x hS h0 h2 h3 kk => lv_aload_n C.1.1 C.1.2.1 zdL_562 rfl h2 (lpush C (j := 1) (jj := 1) hS h0 h3 hL (by omega) (by decide) zdL_563 zdL_564 zdL_565 zdL_566 zdL_567 (lpush C (j := 2) (jj := 2) hS h0 h3 hL (by omega) (by decide) zdL_568 zdL_569 zdL_570 zdL_571 zdL_572 (lpush C (j := 3) (jj := 3) hS h0 h3 hL (by omega) (by decide) zdL_573 zdL_574 zdL_575 zdL_576 zdL_577 (lpush C (j := 4) (jj := 4) hS h0 h3 hL (by omega) (by decide) zdL_578 zdL_579 zdL_580 zdL_581 zdL_582 (lpush C (j := 5) (jj := 5) hS h0 h3 hL (by omega) (by decide) zdL_583 zdL_584 zdL_585 zdL_586 zdL_587 kk))))))
    rfl (zm_X7_map l D Y) gw_3_38 gw_3_35 gw_3_36 gw_3_37 gw_1_1 zdn_X7_map ⟨by decide, by decide⟩ ⟨by decide, by decide⟩ zdL_559
    rfl (zm_X8_map l D Y) gw_4_104 gw_4_101 gw_4_102 gw_4_103 gw_1_7 zdn_X8_map ⟨by decide, by decide⟩ zdL_588 zdL_591 (by decide)
    (fun MX pk dk q hq h => ⟨rfl, F, pk, dk, q, h, fun M' h' => ⟨rfl, pk, dk, q, by omega, h'⟩⟩)
    (fun MM h => ⟨rfl, F, h, fun M' h' => ⟨rfl, h'⟩⟩)
    (nx _)
theorem lc_stays {p : Program} {l : Launch} {e : Env} {s : State} {m : MethodId} {below : List Frame} {meth : Method} {c : Code} {b L : Nat} {xs : Nat → Int32} {D : va_G} {Y : Nat → ClassId} {ad0 : Nat → Nat} (C : lCx p s m meth c b L xs D Y ad0) (hL : L ≤ 3072) {i t : Nat} {F : wFS} (hi : i + 6 ≤ L) (ht : t ≤ 512) (nx : ∀ F1, lGo p l e s m below meth c b D Y ad0 i (t + 1) 784 F1) : lGo p l e s m below meth c b D Y ad0 i t 596 F :=
  lturn C (pcX := 607) (pcM := 621) (as' := [.int (xs (i + 1)), .int (xs (i + 2))]) (n := 2) (F' := (pStays (xs (i + 1)) (xs (i + 2)) F).2) (v := (pStays (xs (i + 1)) (xs (i + 2)) F).1) ht (by intro v hv; simp only [List.mem_cons, List.not_mem_nil, or_false] at hv; rcases hv with rfl | rfl <;> exact ⟨_, rfl⟩) rfl
    (fun H locs cells slots ls q hS h0 h1 h3 kk => lv_aload_n C.1.1 C.1.2.1 zdL_596 rfl h1 (lpush C (j := 1) (jj := 1) hS h0 h3 hL (by omega) (by decide) zdL_597 zdL_598 zdL_599 zdL_600 zdL_601 (lpush C (j := 2) (jj := 2) hS h0 h3 hL (by omega) (by decide) zdL_602 zdL_603 zdL_604 zdL_605 zdL_606 kk)))
    (fun H locs cells slots ls q x hS h0 h2 h3 kk => lv_aload_n C.1.1 C.1.2.1 zdL_610 rfl h2 (lpush C (j := 1) (jj := 1) hS h0 h3 hL (by omega) (by decide) zdL_611 zdL_612 zdL_613 zdL_614 zdL_615 (lpush C (j := 2) (jj := 2) hS h0 h3 hL (by omega) (by decide) zdL_616 zdL_617 zdL_618 zdL_619 zdL_620 kk)))
    rfl (zm_X7_stays l D Y) gw_3_49 gw_3_46 gw_3_47 gw_3_48 gw_1_1 zdn_X7_stays ⟨by decide, by decide⟩ ⟨by decide, by decide⟩ zdL_607
    rfl (zm_X8_stays l D Y) gw_4_108 gw_4_105 gw_4_106 gw_4_107 gw_1_7 zdn_X8_stays ⟨by decide, by decide⟩ zdL_621 zdL_624 (by decide)
    (fun MX pk dk q hq h => ⟨rfl, F, pk, dk, q, h, fun M' h' => ⟨rfl, pk, dk, q, by omega, h'⟩⟩)
    (fun MM h => ⟨rfl, F, h, fun M' h' => ⟨rfl, h'⟩⟩)
    (nx _)
theorem lc_foretold {p : Program} {l : Launch} {e : Env} {s : State} {m : MethodId} {below : List Frame} {meth : Method} {c : Code} {b L : Nat} {xs : Nat → Int32} {D : va_G} {Y : Nat → ClassId} {ad0 : Nat → Nat} (C : lCx p s m meth c b L xs D Y ad0) (hL : L ≤ 3072) {i t : Nat} {F : wFS} (hi : i + 6 ≤ L) (ht : t ≤ 512) (nx : ∀ F1, lGo p l e s m below meth c b D Y ad0 i (t + 1) 784 F1) : lGo p l e s m below meth c b D Y ad0 i t 629 F :=
  lturn C (pcX := 655) (pcM := 684) (as' := [.int (xs (i + 1)), .int (xs (i + 2)), .int (xs (i + 3)), .int (xs (i + 4)), .int (xs (i + 5))]) (n := 5) (F' := (pForetold (xs (i + 1)) (xs (i + 2)) (xs (i + 3)) (xs (i + 4)) (xs (i + 5)) F).2) (v := (pForetold (xs (i + 1)) (xs (i + 2)) (xs (i + 3)) (xs (i + 4)) (xs (i + 5)) F).1) ht (by intro v hv; simp only [List.mem_cons, List.not_mem_nil, or_false] at hv; rcases hv with rfl | rfl | rfl | rfl | rfl <;> exact ⟨_, rfl⟩) rfl
    (fun H locs cells slots ls q hS h0 h1 h3 kk => lv_aload_n C.1.1 C.1.2.1 zdL_629 rfl h1 (lpush C (j := 1) (jj := 1) hS h0 h3 hL (by omega) (by decide) zdL_630 zdL_631 zdL_632 zdL_633 zdL_634 (lpush C (j := 2) (jj := 2) hS h0 h3 hL (by omega) (by decide) zdL_635 zdL_636 zdL_637 zdL_638 zdL_639 (lpush C (j := 3) (jj := 3) hS h0 h3 hL (by omega) (by decide) zdL_640 zdL_641 zdL_642 zdL_643 zdL_644 (lpush C (j := 4) (jj := 4) hS h0 h3 hL (by omega) (by decide) zdL_645 zdL_646 zdL_647 zdL_648 zdL_649 (lpush C (j := 5) (jj := 5) hS h0 h3 hL (by omega) (by decide) zdL_650 zdL_651 zdL_652 zdL_653 zdL_654 kk))))))
    (fun H locs cells slots ls q x hS h0 h2 h3 kk => lv_aload_n C.1.1 C.1.2.1 zdL_658 rfl h2 (lpush C (j := 1) (jj := 1) hS h0 h3 hL (by omega) (by decide) zdL_659 zdL_660 zdL_661 zdL_662 zdL_663 (lpush C (j := 2) (jj := 2) hS h0 h3 hL (by omega) (by decide) zdL_664 zdL_665 zdL_666 zdL_667 zdL_668 (lpush C (j := 3) (jj := 3) hS h0 h3 hL (by omega) (by decide) zdL_669 zdL_670 zdL_671 zdL_672 zdL_673 (lpush C (j := 4) (jj := 4) hS h0 h3 hL (by omega) (by decide) zdL_674 zdL_675 zdL_676 zdL_677 zdL_678 (lpush C (j := 5) (jj := 5) hS h0 h3 hL (by omega) (by decide) zdL_679 zdL_680 zdL_681 zdL_682 zdL_683 kk))))))
    rfl (zm_X7_foretold l D Y) gw_3_57 gw_3_54 gw_3_55 gw_3_56 gw_1_1 zdn_X7_foretold ⟨by decide, by decide⟩ ⟨by decide, by decide⟩ zdL_655
    rfl (zm_X8_foretold l D Y) gw_4_123 gw_4_120 gw_4_121 gw_4_122 gw_1_7 zdn_X8_foretold ⟨by decide, by decide⟩ zdL_684 zdL_687 (by decide)
    (fun MX pk dk q hq h => ⟨rfl, F, pk, dk, q, h, fun M' h' => ⟨rfl, pk, dk, q, by omega, h'⟩⟩)
    (fun MM h => ⟨rfl, F, h, fun M' h' => ⟨rfl, h'⟩⟩)
    (nx _)
theorem lc_wasted {p : Program} {l : Launch} {e : Env} {s : State} {m : MethodId} {below : List Frame} {meth : Method} {c : Code} {b L : Nat} {xs : Nat → Int32} {D : va_G} {Y : Nat → ClassId} {ad0 : Nat → Nat} (C : lCx p s m meth c b L xs D Y ad0) (hL : L ≤ 3072) {i t : Nat} {F : wFS} (hi : i + 6 ≤ L) (ht : t ≤ 512) (nx : ∀ F1, lGo p l e s m below meth c b D Y ad0 i (t + 1) 784 F1) : lGo p l e s m below meth c b D Y ad0 i t 692 F :=
  lturn C (pcX := 698) (pcM := 707) (as' := [.int (xs (i + 1))]) (n := 1) (F' := (pWasted (xs (i + 1)) F).2) (v := (pWasted (xs (i + 1)) F).1) ht (by intro v hv; simp only [List.mem_cons, List.not_mem_nil, or_false] at hv; subst hv; exact ⟨_, rfl⟩) rfl
    (fun H locs cells slots ls q hS h0 h1 h3 kk => lv_aload_n C.1.1 C.1.2.1 zdL_692 rfl h1 (lpush C (j := 1) (jj := 1) hS h0 h3 hL (by omega) (by decide) zdL_693 zdL_694 zdL_695 zdL_696 zdL_697 kk))
    (fun H locs cells slots ls q x hS h0 h2 h3 kk => lv_aload_n C.1.1 C.1.2.1 zdL_701 rfl h2 (lpush C (j := 1) (jj := 1) hS h0 h3 hL (by omega) (by decide) zdL_702 zdL_703 zdL_704 zdL_705 zdL_706 kk))
    rfl (zm_X7_wasted l D Y) gw_3_66 gw_3_63 gw_3_64 gw_3_65 gw_1_1 zdn_X7_wasted ⟨by decide, by decide⟩ ⟨by decide, by decide⟩ zdL_698
    rfl (zm_X8_wasted l D Y) gw_4_127 gw_4_124 gw_4_125 gw_4_126 gw_1_7 zdn_X8_wasted ⟨by decide, by decide⟩ zdL_707 zdL_710 (by decide)
    (fun MX pk dk q hq h => ⟨rfl, F, pk, dk, q, h, fun M' h' => ⟨rfl, pk, dk, q, by omega, h'⟩⟩)
    (fun MM h => ⟨rfl, F, h, fun M' h' => ⟨rfl, h'⟩⟩)
    (nx _)
theorem lc_against {p : Program} {l : Launch} {e : Env} {s : State} {m : MethodId} {below : List Frame} {meth : Method} {c : Code} {b L : Nat} {xs : Nat → Int32} {D : va_G} {Y : Nat → ClassId} {ad0 : Nat → Nat} (C : lCx p s m meth c b L xs D Y ad0) (hL : L ≤ 3072) {i t : Nat} {F : wFS} (hi : i + 6 ≤ L) (ht : t ≤ 512) (nx : ∀ F1, lGo p l e s m below meth c b D Y ad0 i (t + 1) 784 F1) : lGo p l e s m below meth c b D Y ad0 i t 715 F :=
  lturn C (pcX := 726) (pcM := 740) (as' := [.int (xs (i + 1)), .int (xs (i + 2))]) (n := 2) (F' := (pAgainst (xs (i + 1)) (xs (i + 2)) F).2) (v := (pAgainst (xs (i + 1)) (xs (i + 2)) F).1) ht (by intro v hv; simp only [List.mem_cons, List.not_mem_nil, or_false] at hv; rcases hv with rfl | rfl <;> exact ⟨_, rfl⟩) rfl
    (fun H locs cells slots ls q hS h0 h1 h3 kk => lv_aload_n C.1.1 C.1.2.1 zdL_715 rfl h1 (lpush C (j := 1) (jj := 1) hS h0 h3 hL (by omega) (by decide) zdL_716 zdL_717 zdL_718 zdL_719 zdL_720 (lpush C (j := 2) (jj := 2) hS h0 h3 hL (by omega) (by decide) zdL_721 zdL_722 zdL_723 zdL_724 zdL_725 kk)))
    (fun H locs cells slots ls q x hS h0 h2 h3 kk => lv_aload_n C.1.1 C.1.2.1 zdL_729 rfl h2 (lpush C (j := 1) (jj := 1) hS h0 h3 hL (by omega) (by decide) zdL_730 zdL_731 zdL_732 zdL_733 zdL_734 (lpush C (j := 2) (jj := 2) hS h0 h3 hL (by omega) (by decide) zdL_735 zdL_736 zdL_737 zdL_738 zdL_739 kk)))
    rfl (zm_X7_against l D Y) gw_3_70 gw_3_67 gw_3_68 gw_3_69 gw_1_1 zdn_X7_against ⟨by decide, by decide⟩ ⟨by decide, by decide⟩ zdL_726
    rfl (zm_X8_against l D Y) gw_4_131 gw_4_128 gw_4_129 gw_4_130 gw_1_7 zdn_X8_against ⟨by decide, by decide⟩ zdL_740 zdL_743 (by decide)
    (fun MX pk dk q hq h => ⟨rfl, F, pk, dk, q, h, fun M' h' => ⟨rfl, pk, dk, q, by omega, h'⟩⟩)
    (fun MM h => ⟨rfl, F, h, fun M' h' => ⟨rfl, h'⟩⟩)
    (nx _)
theorem lc_count {p : Program} {l : Launch} {e : Env} {s : State} {m : MethodId} {below : List Frame} {meth : Method} {c : Code} {b L : Nat} {xs : Nat → Int32} {D : va_G} {Y : Nat → ClassId} {ad0 : Nat → Nat} (C : lCx p s m meth c b L xs D Y ad0) (hL : L ≤ 3072) {i t : Nat} {F : wFS} (hi : i + 6 ≤ L) (ht : t ≤ 512) (nx : ∀ F1, lGo p l e s m below meth c b D Y ad0 i (t + 1) 784 F1) : lGo p l e s m below meth c b D Y ad0 i t 748 F :=
  lturn C (pcX := 754) (pcM := 763) (as' := [.int (xs (i + 1))]) (n := 1) (F' := (pCount (xs (i + 1)) F).2) (v := (pCount (xs (i + 1)) F).1) ht (by intro v hv; simp only [List.mem_cons, List.not_mem_nil, or_false] at hv; subst hv; exact ⟨_, rfl⟩) rfl
    (fun H locs cells slots ls q hS h0 h1 h3 kk => lv_aload_n C.1.1 C.1.2.1 zdL_748 rfl h1 (lpush C (j := 1) (jj := 1) hS h0 h3 hL (by omega) (by decide) zdL_749 zdL_750 zdL_751 zdL_752 zdL_753 kk))
    (fun H locs cells slots ls q x hS h0 h2 h3 kk => lv_aload_n C.1.1 C.1.2.1 zdL_757 rfl h2 (lpush C (j := 1) (jj := 1) hS h0 h3 hL (by omega) (by decide) zdL_758 zdL_759 zdL_760 zdL_761 zdL_762 kk))
    rfl (zm_X7_count l D Y) gw_3_74 gw_3_71 gw_3_72 gw_3_73 gw_1_1 zdn_X7_count ⟨by decide, by decide⟩ ⟨by decide, by decide⟩ zdL_754
    rfl (zm_X8_count l D Y) gw_4_135 gw_4_132 gw_4_133 gw_4_134 gw_1_7 zdn_X8_count ⟨by decide, by decide⟩ zdL_763 zdL_766 (by decide)
    (fun MX pk dk q hq h => ⟨rfl, F, pk, dk, q, h, fun M' h' => ⟨rfl, pk, dk, q, by omega, h'⟩⟩)
    (fun MM h => ⟨rfl, F, h, fun M' h' => ⟨rfl, h'⟩⟩)
    (nx _)
theorem lc_status {p : Program} {l : Launch} {e : Env} {s : State} {m : MethodId} {below : List Frame} {meth : Method} {c : Code} {b L : Nat} {xs : Nat → Int32} {D : va_G} {Y : Nat → ClassId} {ad0 : Nat → Nat} (C : lCx p s m meth c b L xs D Y ad0) (hL : L ≤ 3072) {i t : Nat} {F : wFS} (hi : i + 6 ≤ L) (ht : t ≤ 512) (nx : ∀ F1, lGo p l e s m below meth c b D Y ad0 i (t + 1) 784 F1) : lGo p l e s m below meth c b D Y ad0 i t 771 F :=
  lturn C (pcX := 772) (pcM := 776) (as' := []) (n := 0) (F' := (pStatus F).2) (v := (pStatus F).1) ht (fun v hv => absurd hv List.not_mem_nil) rfl
    (fun H locs cells slots ls q hS h0 h1 h3 kk => lv_aload_n C.1.1 C.1.2.1 zdL_771 rfl h1 kk)
    (fun H locs cells slots ls q x hS h0 h2 h3 kk => lv_aload_n C.1.1 C.1.2.1 zdL_775 rfl h2 kk)
    rfl (zm_X7_status l D Y) gw_3_78 gw_3_75 gw_3_76 gw_3_77 gw_1_1 zdn_X7_status ⟨by decide, by decide⟩ ⟨by decide, by decide⟩ zdL_772
    rfl (zm_X8_status l D Y) gw_4_139 gw_4_136 gw_4_137 gw_4_138 gw_1_7 zdn_X8_status ⟨by decide, by decide⟩ zdL_776 zdL_779 (by decide)
    (fun MX pk dk q hq h => ⟨rfl, F, pk, dk, q, h, fun M' h' => ⟨rfl, pk, dk, q, by omega, h'⟩⟩)
    (fun MM h => ⟨rfl, F, h, fun M' h' => ⟨rfl, h'⟩⟩)
    (nx _)
