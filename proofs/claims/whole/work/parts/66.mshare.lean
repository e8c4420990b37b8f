/-! DeltaRunsModel share -/
theorem zd_X8_share_0 : decode cX8_share 0 = .ok (.iconst 0, 1) := by decide +kernel
theorem zd_X8_share_1 : decode cX8_share 1 = .ok (.istore_n 3, 1) := by decide +kernel
theorem zd_X8_share_2 : decode cX8_share 2 = .ok (.iconst 0, 1) := by decide +kernel
theorem zd_X8_share_3 : decode cX8_share 3 = .ok (.istore 4, 2) := by decide +kernel
theorem zd_X8_share_5 : decode cX8_share 5 = .ok (.iconst (-1), 1) := by decide +kernel
theorem zd_X8_share_6 : decode cX8_share 6 = .ok (.istore 5, 2) := by decide +kernel
theorem zd_X8_share_8 : decode cX8_share 8 = .ok (.iconst 0, 1) := by decide +kernel
theorem zd_X8_share_9 : decode cX8_share 9 = .ok (.istore 6, 2) := by decide +kernel
theorem zd_X8_share_11 : decode cX8_share 11 = .ok (.iload 6, 2) := by decide +kernel
theorem zd_X8_share_13 : decode cX8_share 13 = .ok (.iconst 4, 1) := by decide +kernel
theorem zd_X8_share_14 : decode cX8_share 14 = .ok (.if_icmp .ge 140, 3) := by decide +kernel
theorem zd_X8_share_17 : decode cX8_share 17 = .ok (.aload_n 0, 1) := by decide +kernel
theorem zd_X8_share_18 : decode cX8_share 18 = .ok (.iload_n 1, 1) := by decide +kernel
theorem zd_X8_share_19 : decode cX8_share 19 = .ok (.iload 6, 2) := by decide +kernel
theorem zd_X8_share_21 : decode cX8_share 21 = .ok (.invokevirtual 198, 3) := by decide +kernel
theorem zd_X8_share_24 : decode cX8_share 24 = .ok (.istore 7, 2) := by decide +kernel
theorem zd_X8_share_26 : decode cX8_share 26 = .ok (.aload_n 0, 1) := by decide +kernel
theorem zd_X8_share_27 : decode cX8_share 27 = .ok (.getfield 66, 3) := by decide +kernel
theorem zd_X8_share_30 : decode cX8_share 30 = .ok (.iload 6, 2) := by decide +kernel
theorem zd_X8_share_32 : decode cX8_share 32 = .ok (.iload 7, 2) := by decide +kernel
theorem zd_X8_share_34 : decode cX8_share 34 = .ok (.iconst (-1), 1) := by decide +kernel
theorem zd_X8_share_35 : decode cX8_share 35 = .ok (.if_icmp .eq 29, 3) := by decide +kernel
theorem zd_X8_share_38 : decode cX8_share 38 = .ok (.aload_n 0, 1) := by decide +kernel
theorem zd_X8_share_39 : decode cX8_share 39 = .ok (.getfield 53, 3) := by decide +kernel
theorem zd_X8_share_42 : decode cX8_share 42 = .ok (.iload 7, 2) := by decide +kernel
theorem zd_X8_share_44 : decode cX8_share 44 = .ok (.baload, 1) := by decide +kernel
theorem zd_X8_share_45 : decode cX8_share 45 = .ok (.ifCond .ne 19, 3) := by decide +kernel
theorem zd_X8_share_48 : decode cX8_share 48 = .ok (.aload_n 0, 1) := by decide +kernel
theorem zd_X8_share_49 : decode cX8_share 49 = .ok (.getfield 50, 3) := by decide +kernel
theorem zd_X8_share_52 : decode cX8_share 52 = .ok (.iload 7, 2) := by decide +kernel
theorem zd_X8_share_54 : decode cX8_share 54 = .ok (.iaload, 1) := by decide +kernel
theorem zd_X8_share_55 : decode cX8_share 55 = .ok (.aload_n 0, 1) := by decide +kernel
theorem zd_X8_share_56 : decode cX8_share 56 = .ok (.getfield 50, 3) := by decide +kernel
theorem zd_X8_share_59 : decode cX8_share 59 = .ok (.iload_n 1, 1) := by decide +kernel
theorem zd_X8_share_60 : decode cX8_share 60 = .ok (.iaload, 1) := by decide +kernel
theorem zd_X8_share_61 : decode cX8_share 61 = .ok (.if_icmp .lt 7, 3) := by decide +kernel
theorem zd_X8_share_64 : decode cX8_share 64 = .ok (.iconst (-1), 1) := by decide +kernel
theorem zd_X8_share_65 : decode cX8_share 65 = .ok (.goto 5, 3) := by decide +kernel
theorem zd_X8_share_68 : decode cX8_share 68 = .ok (.iload 7, 2) := by decide +kernel
theorem zd_X8_share_70 : decode cX8_share 70 = .ok (.iastore, 1) := by decide +kernel
theorem zd_X8_share_71 : decode cX8_share 71 = .ok (.aload_n 0, 1) := by decide +kernel
theorem zd_X8_share_72 : decode cX8_share 72 = .ok (.getfield 69, 3) := by decide +kernel
theorem zd_X8_share_75 : decode cX8_share 75 = .ok (.iload 6, 2) := by decide +kernel
theorem zd_X8_share_77 : decode cX8_share 77 = .ok (.iconst 0, 1) := by decide +kernel
theorem zd_X8_share_78 : decode cX8_share 78 = .ok (.iastore, 1) := by decide +kernel
theorem zd_X8_share_79 : decode cX8_share 79 = .ok (.aload_n 0, 1) := by decide +kernel
theorem zd_X8_share_80 : decode cX8_share 80 = .ok (.getfield 66, 3) := by decide +kernel
theorem zd_X8_share_83 : decode cX8_share 83 = .ok (.iload 6, 2) := by decide +kernel
theorem zd_X8_share_85 : decode cX8_share 85 = .ok (.iaload, 1) := by decide +kernel
theorem zd_X8_share_86 : decode cX8_share 86 = .ok (.iconst (-1), 1) := by decide +kernel
theorem zd_X8_share_87 : decode cX8_share 87 = .ok (.if_icmp .eq 61, 3) := by decide +kernel
theorem zd_X8_share_90 : decode cX8_share 90 = .ok (.iinc 3 1, 3) := by decide +kernel
theorem zd_X8_share_93 : decode cX8_share 93 = .ok (.iload 4, 2) := by decide +kernel
theorem zd_X8_share_95 : decode cX8_share 95 = .ok (.aload_n 0, 1) := by decide +kernel
theorem zd_X8_share_96 : decode cX8_share 96 = .ok (.getfield 50, 3) := by decide +kernel
theorem zd_X8_share_99 : decode cX8_share 99 = .ok (.iload_n 1, 1) := by decide +kernel
theorem zd_X8_share_100 : decode cX8_share 100 = .ok (.iaload, 1) := by decide +kernel
theorem zd_X8_share_101 : decode cX8_share 101 = .ok (.aload_n 0, 1) := by decide +kernel
theorem zd_X8_share_102 : decode cX8_share 102 = .ok (.getfield 50, 3) := by decide +kernel
theorem zd_X8_share_105 : decode cX8_share 105 = .ok (.iload 7, 2) := by decide +kernel
theorem zd_X8_share_107 : decode cX8_share 107 = .ok (.iaload, 1) := by decide +kernel
theorem zd_X8_share_108 : decode cX8_share 108 = .ok (.isub, 1) := by decide +kernel
theorem zd_X8_share_109 : decode cX8_share 109 = .ok (.iadd, 1) := by decide +kernel
theorem zd_X8_share_110 : decode cX8_share 110 = .ok (.istore 4, 2) := by decide +kernel
theorem zd_X8_share_112 : decode cX8_share 112 = .ok (.iload 5, 2) := by decide +kernel
theorem zd_X8_share_114 : decode cX8_share 114 = .ok (.ifCond .lt 25, 3) := by decide +kernel
theorem zd_X8_share_117 : decode cX8_share 117 = .ok (.aload_n 0, 1) := by decide +kernel
theorem zd_X8_share_118 : decode cX8_share 118 = .ok (.getfield 50, 3) := by decide +kernel
theorem zd_X8_share_121 : decode cX8_share 121 = .ok (.iload 7, 2) := by decide +kernel
theorem zd_X8_share_123 : decode cX8_share 123 = .ok (.iaload, 1) := by decide +kernel
theorem zd_X8_share_124 : decode cX8_share 124 = .ok (.aload_n 0, 1) := by decide +kernel
theorem zd_X8_share_125 : decode cX8_share 125 = .ok (.getfield 50, 3) := by decide +kernel
theorem zd_X8_share_128 : decode cX8_share 128 = .ok (.aload_n 0, 1) := by decide +kernel
theorem zd_X8_share_129 : decode cX8_share 129 = .ok (.getfield 66, 3) := by decide +kernel
theorem zd_X8_share_132 : decode cX8_share 132 = .ok (.iload 5, 2) := by decide +kernel
theorem zd_X8_share_134 : decode cX8_share 134 = .ok (.iaload, 1) := by decide +kernel
theorem zd_X8_share_135 : decode cX8_share 135 = .ok (.iaload, 1) := by decide +kernel
theorem zd_X8_share_136 : decode cX8_share 136 = .ok (.if_icmp .ge 8, 3) := by decide +kernel
theorem zd_X8_share_139 : decode cX8_share 139 = .ok (.iload 6, 2) := by decide +kernel
theorem zd_X8_share_141 : decode cX8_share 141 = .ok (.goto 5, 3) := by decide +kernel
theorem zd_X8_share_144 : decode cX8_share 144 = .ok (.iload 5, 2) := by decide +kernel
theorem zd_X8_share_146 : decode cX8_share 146 = .ok (.istore 5, 2) := by decide +kernel
theorem zd_X8_share_148 : decode cX8_share 148 = .ok (.iinc 6 1, 3) := by decide +kernel
theorem zd_X8_share_151 : decode cX8_share 151 = .ok (.goto (-140), 3) := by decide +kernel
theorem zd_X8_share_154 : decode cX8_share 154 = .ok (.iload_n 3, 1) := by decide +kernel
theorem zd_X8_share_155 : decode cX8_share 155 = .ok (.ifCond .ne 5, 3) := by decide +kernel
theorem zd_X8_share_158 : decode cX8_share 158 = .ok (.iconst 0, 1) := by decide +kernel
theorem zd_X8_share_159 : decode cX8_share 159 = .ok (.ireturn, 1) := by decide +kernel
theorem zd_X8_share_160 : decode cX8_share 160 = .ok (.iload_n 2, 1) := by decide +kernel
theorem zd_X8_share_161 : decode cX8_share 161 = .ok (.ifCond .ne 18, 3) := by decide +kernel
theorem zd_X8_share_164 : decode cX8_share 164 = .ok (.aload_n 0, 1) := by decide +kernel
theorem zd_X8_share_165 : decode cX8_share 165 = .ok (.getfield 69, 3) := by decide +kernel
theorem zd_X8_share_168 : decode cX8_share 168 = .ok (.iload 5, 2) := by decide +kernel
theorem zd_X8_share_170 : decode cX8_share 170 = .ok (.aload_n 0, 1) := by decide +kernel
theorem zd_X8_share_171 : decode cX8_share 171 = .ok (.getfield 57, 3) := by decide +kernel
theorem zd_X8_share_174 : decode cX8_share 174 = .ok (.iload_n 1, 1) := by decide +kernel
theorem zd_X8_share_175 : decode cX8_share 175 = .ok (.iaload, 1) := by decide +kernel
theorem zd_X8_share_176 : decode cX8_share 176 = .ok (.iastore, 1) := by decide +kernel
theorem zd_X8_share_177 : decode cX8_share 177 = .ok (.iconst 1, 1) := by decide +kernel
theorem zd_X8_share_178 : decode cX8_share 178 = .ok (.ireturn, 1) := by decide +kernel
theorem zd_X8_share_179 : decode cX8_share 179 = .ok (.aload_n 0, 1) := by decide +kernel
theorem zd_X8_share_180 : decode cX8_share 180 = .ok (.getfield 57, 3) := by decide +kernel
theorem zd_X8_share_183 : decode cX8_share 183 = .ok (.iload_n 1, 1) := by decide +kernel
theorem zd_X8_share_184 : decode cX8_share 184 = .ok (.iaload, 1) := by decide +kernel
theorem zd_X8_share_185 : decode cX8_share 185 = .ok (.istore 6, 2) := by decide +kernel
theorem zd_X8_share_187 : decode cX8_share 187 = .ok (.iconst 0, 1) := by decide +kernel
theorem zd_X8_share_188 : decode cX8_share 188 = .ok (.istore 7, 2) := by decide +kernel
theorem zd_X8_share_190 : decode cX8_share 190 = .ok (.iload 7, 2) := by decide +kernel
theorem zd_X8_share_192 : decode cX8_share 192 = .ok (.iconst 4, 1) := by decide +kernel
theorem zd_X8_share_193 : decode cX8_share 193 = .ok (.if_icmp .ge 84, 3) := by decide +kernel
theorem zd_X8_share_196 : decode cX8_share 196 = .ok (.aload_n 0, 1) := by decide +kernel
theorem zd_X8_share_197 : decode cX8_share 197 = .ok (.getfield 66, 3) := by decide +kernel
theorem zd_X8_share_200 : decode cX8_share 200 = .ok (.iload 7, 2) := by decide +kernel
theorem zd_X8_share_202 : decode cX8_share 202 = .ok (.iaload, 1) := by decide +kernel
theorem zd_X8_share_203 : decode cX8_share 203 = .ok (.iconst (-1), 1) := by decide +kernel
theorem zd_X8_share_204 : decode cX8_share 204 = .ok (.if_icmp .eq 67, 3) := by decide +kernel
theorem zd_X8_share_207 : decode cX8_share 207 = .ok (.aload_n 0, 1) := by decide +kernel
theorem zd_X8_share_208 : decode cX8_share 208 = .ok (.getfield 69, 3) := by decide +kernel
theorem zd_X8_share_211 : decode cX8_share 211 = .ok (.iload 7, 2) := by decide +kernel
theorem zd_X8_share_213 : decode cX8_share 213 = .ok (.iload_n 2, 1) := by decide +kernel
theorem zd_X8_share_214 : decode cX8_share 214 = .ok (.iconst 1, 1) := by decide +kernel
theorem zd_X8_share_215 : decode cX8_share 215 = .ok (.if_icmp .ne 14, 3) := by decide +kernel
theorem zd_X8_share_218 : decode cX8_share 218 = .ok (.aload_n 0, 1) := by decide +kernel
theorem zd_X8_share_219 : decode cX8_share 219 = .ok (.getfield 57, 3) := by decide +kernel
theorem zd_X8_share_222 : decode cX8_share 222 = .ok (.iload_n 1, 1) := by decide +kernel
theorem zd_X8_share_223 : decode cX8_share 223 = .ok (.iaload, 1) := by decide +kernel
theorem zd_X8_share_224 : decode cX8_share 224 = .ok (.iload_n 3, 1) := by decide +kernel
theorem zd_X8_share_225 : decode cX8_share 225 = .ok (.idiv, 1) := by decide +kernel
theorem zd_X8_share_226 : decode cX8_share 226 = .ok (.goto 32, 3) := by decide +kernel
theorem zd_X8_share_229 : decode cX8_share 229 = .ok (.aload_n 0, 1) := by decide +kernel
theorem zd_X8_share_230 : decode cX8_share 230 = .ok (.getfield 57, 3) := by decide +kernel
theorem zd_X8_share_233 : decode cX8_share 233 = .ok (.iload_n 1, 1) := by decide +kernel
theorem zd_X8_share_234 : decode cX8_share 234 = .ok (.iaload, 1) := by decide +kernel
theorem zd_X8_share_235 : decode cX8_share 235 = .ok (.aload_n 0, 1) := by decide +kernel
theorem zd_X8_share_236 : decode cX8_share 236 = .ok (.getfield 50, 3) := by decide +kernel
theorem zd_X8_share_239 : decode cX8_share 239 = .ok (.iload_n 1, 1) := by decide +kernel
theorem zd_X8_share_240 : decode cX8_share 240 = .ok (.iaload, 1) := by decide +kernel
theorem zd_X8_share_241 : decode cX8_share 241 = .ok (.aload_n 0, 1) := by decide +kernel
theorem zd_X8_share_242 : decode cX8_share 242 = .ok (.getfield 50, 3) := by decide +kernel
theorem zd_X8_share_245 : decode cX8_share 245 = .ok (.aload_n 0, 1) := by decide +kernel
theorem zd_X8_share_246 : decode cX8_share 246 = .ok (.getfield 66, 3) := by decide +kernel
theorem zd_X8_share_249 : decode cX8_share 249 = .ok (.iload 7, 2) := by decide +kernel
theorem zd_X8_share_251 : decode cX8_share 251 = .ok (.iaload, 1) := by decide +kernel
theorem zd_X8_share_252 : decode cX8_share 252 = .ok (.iaload, 1) := by decide +kernel
theorem zd_X8_share_253 : decode cX8_share 253 = .ok (.isub, 1) := by decide +kernel
theorem zd_X8_share_254 : decode cX8_share 254 = .ok (.imul, 1) := by decide +kernel
theorem zd_X8_share_255 : decode cX8_share 255 = .ok (.iload 4, 2) := by decide +kernel
theorem zd_X8_share_257 : decode cX8_share 257 = .ok (.idiv, 1) := by decide +kernel
theorem zd_X8_share_258 : decode cX8_share 258 = .ok (.iastore, 1) := by decide +kernel
theorem zd_X8_share_259 : decode cX8_share 259 = .ok (.iload 6, 2) := by decide +kernel
theorem zd_X8_share_261 : decode cX8_share 261 = .ok (.aload_n 0, 1) := by decide +kernel
theorem zd_X8_share_262 : decode cX8_share 262 = .ok (.getfield 69, 3) := by decide +kernel
theorem zd_X8_share_265 : decode cX8_share 265 = .ok (.iload 7, 2) := by decide +kernel
theorem zd_X8_share_267 : decode cX8_share 267 = .ok (.iaload, 1) := by decide +kernel
theorem zd_X8_share_268 : decode cX8_share 268 = .ok (.isub, 1) := by decide +kernel
theorem zd_X8_share_269 : decode cX8_share 269 = .ok (.istore 6, 2) := by decide +kernel
theorem zd_X8_share_271 : decode cX8_share 271 = .ok (.iinc 7 1, 3) := by decide +kernel
theorem zd_X8_share_274 : decode cX8_share 274 = .ok (.goto (-84), 3) := by decide +kernel
theorem zd_X8_share_277 : decode cX8_share 277 = .ok (.iconst 0, 1) := by decide +kernel
theorem zd_X8_share_278 : decode cX8_share 278 = .ok (.istore 7, 2) := by decide +kernel
theorem zd_X8_share_280 : decode cX8_share 280 = .ok (.iconst 0, 1) := by decide +kernel
theorem zd_X8_share_281 : decode cX8_share 281 = .ok (.istore 8, 2) := by decide +kernel
theorem zd_X8_share_283 : decode cX8_share 283 = .ok (.iload 8, 2) := by decide +kernel
theorem zd_X8_share_285 : decode cX8_share 285 = .ok (.iconst 4, 1) := by decide +kernel
theorem zd_X8_share_286 : decode cX8_share 286 = .ok (.if_icmp .ge 66, 3) := by decide +kernel
theorem zd_X8_share_289 : decode cX8_share 289 = .ok (.aload_n 0, 1) := by decide +kernel
theorem zd_X8_share_290 : decode cX8_share 290 = .ok (.getfield 66, 3) := by decide +kernel
theorem zd_X8_share_293 : decode cX8_share 293 = .ok (.iload 8, 2) := by decide +kernel
theorem zd_X8_share_295 : decode cX8_share 295 = .ok (.iaload, 1) := by decide +kernel
theorem zd_X8_share_296 : decode cX8_share 296 = .ok (.iconst (-1), 1) := by decide +kernel
theorem zd_X8_share_297 : decode cX8_share 297 = .ok (.if_icmp .eq 49, 3) := by decide +kernel
theorem zd_X8_share_300 : decode cX8_share 300 = .ok (.iload_n 2, 1) := by decide +kernel
theorem zd_X8_share_301 : decode cX8_share 301 = .ok (.iconst 1, 1) := by decide +kernel
theorem zd_X8_share_302 : decode cX8_share 302 = .ok (.if_icmp .ne 8, 3) := by decide +kernel
theorem zd_X8_share_305 : decode cX8_share 305 = .ok (.iload 7, 2) := by decide +kernel
theorem zd_X8_share_307 : decode cX8_share 307 = .ok (.goto 12, 3) := by decide +kernel
theorem zd_X8_share_310 : decode cX8_share 310 = .ok (.aload_n 0, 1) := by decide +kernel
theorem zd_X8_share_311 : decode cX8_share 311 = .ok (.iload_n 1, 1) := by decide +kernel
theorem zd_X8_share_312 : decode cX8_share 312 = .ok (.iload 8, 2) := by decide +kernel
theorem zd_X8_share_314 : decode cX8_share 314 = .ok (.iload 4, 2) := by decide +kernel
theorem zd_X8_share_316 : decode cX8_share 316 = .ok (.invokevirtual 202, 3) := by decide +kernel
theorem zd_X8_share_319 : decode cX8_share 319 = .ok (.istore 9, 2) := by decide +kernel
theorem zd_X8_share_321 : decode cX8_share 321 = .ok (.aload_n 0, 1) := by decide +kernel
theorem zd_X8_share_322 : decode cX8_share 322 = .ok (.getfield 69, 3) := by decide +kernel
theorem zd_X8_share_325 : decode cX8_share 325 = .ok (.iload 8, 2) := by decide +kernel
theorem zd_X8_share_327 : decode cX8_share 327 = .ok (.dup2, 1) := by decide +kernel
theorem zd_X8_share_328 : decode cX8_share 328 = .ok (.iaload, 1) := by decide +kernel
theorem zd_X8_share_329 : decode cX8_share 329 = .ok (.iload 9, 2) := by decide +kernel
theorem zd_X8_share_331 : decode cX8_share 331 = .ok (.iload 6, 2) := by decide +kernel
theorem zd_X8_share_333 : decode cX8_share 333 = .ok (.if_icmp .ge 7, 3) := by decide +kernel
theorem zd_X8_share_336 : decode cX8_share 336 = .ok (.iconst 1, 1) := by decide +kernel
theorem zd_X8_share_337 : decode cX8_share 337 = .ok (.goto 4, 3) := by decide +kernel
theorem zd_X8_share_340 : decode cX8_share 340 = .ok (.iconst 0, 1) := by decide +kernel
theorem zd_X8_share_341 : decode cX8_share 341 = .ok (.iadd, 1) := by decide +kernel
theorem zd_X8_share_342 : decode cX8_share 342 = .ok (.iastore, 1) := by decide +kernel
theorem zd_X8_share_343 : decode cX8_share 343 = .ok (.iinc 7 1, 3) := by decide +kernel
theorem zd_X8_share_346 : decode cX8_share 346 = .ok (.iinc 8 1, 3) := by decide +kernel
theorem zd_X8_share_349 : decode cX8_share 349 = .ok (.goto (-66), 3) := by decide +kernel
theorem zd_X8_share_352 : decode cX8_share 352 = .ok (.iconst 1, 1) := by decide +kernel
theorem zd_X8_share_353 : decode cX8_share 353 = .ok (.ireturn, 1) := by decide +kernel
def zb_X8_share_0 (K : zKt) (J : Nat → zPP) : zPP := zT_push (.int 0) (zT_ist 3 (zT_push (.int 0) (zT_ist 4 (zT_push (.int (-1)) (zT_ist 5 (zT_push (.int 0) (zT_ist 6 (J 11))))))))
theorem zbs_X8_share_0 {X : zCt} (hR : zRX X = { frames := 3, cells := 0, slots := 0, locals := 71 }) (J : Nat → zPP) (hJ : ∀ h ∈ ([11, 190, 283] : List Nat), zSd X RX8 "share" cX8_share 10 (some .boolean) h (J h)) : zSd X RX8 "share" cX8_share 10 (some .boolean) 0 (zb_X8_share_0 (zKX X) J) := zs_iconst zd_X8_share_0 (by decide) (zs_istore_n zd_X8_share_1 rfl (by decide) (zs_iconst zd_X8_share_2 (by decide) (zs_istore zd_X8_share_3 (by decide) (zs_iconst zd_X8_share_5 (by decide) (zs_istore zd_X8_share_6 (by decide) (zs_iconst zd_X8_share_8 (by decide) (zs_istore zd_X8_share_9 (by decide) (hJ 11 (by decide)))))))))
def zb_X8_share_148 (K : zKt) (J : Nat → zPP) : zPP := zT_iinc 6 1 (J 11)
theorem zbs_X8_share_148 {X : zCt} (hR : zRX X = { frames := 3, cells := 0, slots := 0, locals := 71 }) (J : Nat → zPP) (hJ : ∀ h ∈ ([11, 190, 283] : List Nat), zSd X RX8 "share" cX8_share 10 (some .boolean) h (J h)) : zSd X RX8 "share" cX8_share 10 (some .boolean) 148 (zb_X8_share_148 (zKX X) J) := zs_iinc zd_X8_share_148 (by decide) (by decide) (zs_goto (tgt := 11) zd_X8_share_151 (by decide) (hJ 11 (by decide)))
def zb_X8_share_146 (K : zKt) (J : Nat → zPP) : zPP := zT_ist 5 (zb_X8_share_148 K J)
theorem zbs_X8_share_146 {X : zCt} (hR : zRX X = { frames := 3, cells := 0, slots := 0, locals := 71 }) (J : Nat → zPP) (hJ : ∀ h ∈ ([11, 190, 283] : List Nat), zSd X RX8 "share" cX8_share 10 (some .boolean) h (J h)) : zSd X RX8 "share" cX8_share 10 (some .boolean) 146 (zb_X8_share_146 (zKX X) J) := zs_istore zd_X8_share_146 (by decide) (zbs_X8_share_148 hR J hJ)
def zb_X8_share_139 (K : zKt) (J : Nat → zPP) : zPP := zT_ild 6 (zb_X8_share_146 K J)
theorem zbs_X8_share_139 {X : zCt} (hR : zRX X = { frames := 3, cells := 0, slots := 0, locals := 71 }) (J : Nat → zPP) (hJ : ∀ h ∈ ([11, 190, 283] : List Nat), zSd X RX8 "share" cX8_share 10 (some .boolean) h (J h)) : zSd X RX8 "share" cX8_share 10 (some .boolean) 139 (zb_X8_share_139 (zKX X) J) := zs_iload zd_X8_share_139 (zs_goto (tgt := 146) zd_X8_share_141 (by decide) (zbs_X8_share_146 hR J hJ))
def zb_X8_share_70 (K : zKt) (J : Nat → zPP) : zPP := zT_iast (zT_ald 0 (zT_getR 8 30 38 (zT_ild 6 (zT_push (.int 0) (zT_iast (zT_ald 0 (zT_getR 8 29 38 (zT_ild 6 (zT_ald0 0 (zT_push (.int (-1)) (zT_if2 (fun x y => x = y) (zb_X8_share_148 K J) (zT_iinc 3 1 (zT_ild 4 (zT_ald 0 (zT_getR 8 24 38 (zT_ild 1 (zT_ald0 0 (zT_ald 0 (zT_getR 8 24 38 (zT_ild 7 (zT_ald0 0 (zT_bin (fun x y => x - y) (zT_bin (fun x y => x + y) (zT_ist 4 (zT_ild 5 (zT_if1 (fun x => x < 0) (zb_X8_share_139 K J) (zT_ald 0 (zT_getR 8 24 38 (zT_ild 7 (zT_ald0 0 (zT_ald 0 (zT_getR 8 24 38 (zT_ald 0 (zT_getR 8 29 38 (zT_ild 5 (zT_ald0 0 (zT_ald0 0 (zT_if2 (fun x y => y ≤ x) (zT_ild 5 (zb_X8_share_146 K J)) (zb_X8_share_139 K J)))))))))))))))))))))))))))))))))))))))
theorem zbs_X8_share_70 {X : zCt} (hR : zRX X = { frames := 3, cells := 0, slots := 0, locals := 71 }) (J : Nat → zPP) (hJ : ∀ h ∈ ([11, 190, 283] : List Nat), zSd X RX8 "share" cX8_share 10 (some .boolean) h (J h)) : zSd X RX8 "share" cX8_share 10 (some .boolean) 70 (zb_X8_share_70 (zKX X) J) := zs_iast zd_X8_share_70 (zs_aload_n zd_X8_share_71 rfl (zs_getR (ci := 8) (j := 30) (T := TX8) rfl inX8 (by decide) gw_3_119 rfl zd_X8_share_72 (zs_iload zd_X8_share_75 (zs_iconst zd_X8_share_77 (by decide) (zs_iast zd_X8_share_78 (zs_aload_n zd_X8_share_79 rfl (zs_getR (ci := 8) (j := 29) (T := TX8) rfl inX8 (by decide) gw_3_118 rfl zd_X8_share_80 (zs_iload zd_X8_share_83 (zs_iald zd_X8_share_85 (zs_iconst zd_X8_share_86 (by decide) (zs_icmp_eq (tgt := 148) zd_X8_share_87 (by decide) (zbs_X8_share_148 hR J hJ) (zs_iinc zd_X8_share_90 (by decide) (by decide) (zs_iload zd_X8_share_93 (zs_aload_n zd_X8_share_95 rfl (zs_getR (ci := 8) (j := 24) (T := TX8) rfl inX8 (by decide) gw_3_113 rfl zd_X8_share_96 (zs_iload_n zd_X8_share_99 rfl (zs_iald zd_X8_share_100 (zs_aload_n zd_X8_share_101 rfl (zs_getR (ci := 8) (j := 24) (T := TX8) rfl inX8 (by decide) gw_3_113 rfl zd_X8_share_102 (zs_iload zd_X8_share_105 (zs_iald zd_X8_share_107 (zs_isub zd_X8_share_108 (zs_iadd zd_X8_share_109 (zs_istore zd_X8_share_110 (by decide) (zs_iload zd_X8_share_112 (zs_if_lt (tgt := 139) zd_X8_share_114 (by decide) (zbs_X8_share_139 hR J hJ) (zs_aload_n zd_X8_share_117 rfl (zs_getR (ci := 8) (j := 24) (T := TX8) rfl inX8 (by decide) gw_3_113 rfl zd_X8_share_118 (zs_iload zd_X8_share_121 (zs_iald zd_X8_share_123 (zs_aload_n zd_X8_share_124 rfl (zs_getR (ci := 8) (j := 24) (T := TX8) rfl inX8 (by decide) gw_3_113 rfl zd_X8_share_125 (zs_aload_n zd_X8_share_128 rfl (zs_getR (ci := 8) (j := 29) (T := TX8) rfl inX8 (by decide) gw_3_118 rfl zd_X8_share_129 (zs_iload zd_X8_share_132 (zs_iald zd_X8_share_134 (zs_iald zd_X8_share_135 (zs_icmp_ge (tgt := 144) zd_X8_share_136 (by decide) (zs_iload zd_X8_share_144 (zbs_X8_share_146 hR J hJ)) (zbs_X8_share_139 hR J hJ)))))))))))))))))))))))))))))))))))))))
def zb_X8_share_64 (K : zKt) (J : Nat → zPP) : zPP := zT_push (.int (-1)) (zb_X8_share_70 K J)
theorem zbs_X8_share_64 {X : zCt} (hR : zRX X = { frames := 3, cells := 0, slots := 0, locals := 71 }) (J : Nat → zPP) (hJ : ∀ h ∈ ([11, 190, 283] : List Nat), zSd X RX8 "share" cX8_share 10 (some .boolean) h (J h)) : zSd X RX8 "share" cX8_share 10 (some .boolean) 64 (zb_X8_share_64 (zKX X) J) := zs_iconst zd_X8_share_64 (by decide) (zs_goto (tgt := 70) zd_X8_share_65 (by decide) (zbs_X8_share_70 hR J hJ))
def zb_X8_share_11 (K : zKt) (J : Nat → zPP) : zPP := zT_ild 6 (zT_push (.int 4) (zT_if2 (fun x y => y ≤ x) (zT_ild 3 (zT_if1 (fun x => x = 0) (zT_push (.int 0) (zT_nret .boolean K)) (zT_ild 2 (zT_if1 (fun x => x = 0) (zT_ald 0 (zT_getR 8 30 38 (zT_ild 5 (zT_ald 0 (zT_getR 8 26 38 (zT_ild 1 (zT_ald0 0 (zT_iast (zT_push (.int 1) (zT_nret .boolean K)))))))))) (zT_ald 0 (zT_getR 8 26 38 (zT_ild 1 (zT_ald0 0 (zT_ist 6 (zT_push (.int 0) (zT_ist 7 (J 190)))))))))))) (zT_ald 0 (zT_ild 1 (zT_ild 6 (zT_V2 zok 8 38 zc_X8_sideOf (zT_ist 7 (zT_ald 0 (zT_getR 8 29 38 (zT_ild 6 (zT_ild 7 (zT_push (.int (-1)) (zT_if2 (fun x y => x = y) (zb_X8_share_64 K J) (zT_ald 0 (zT_getR 8 25 38 (zT_ild 7 (zT_ald0 1 (zT_if1 (fun x => x = 0) (zT_ald 0 (zT_getR 8 24 38 (zT_ild 7 (zT_ald0 0 (zT_ald 0 (zT_getR 8 24 38 (zT_ild 1 (zT_ald0 0 (zT_if2 (fun x y => x < y) (zT_ild 7 (zb_X8_share_70 K J)) (zb_X8_share_64 K J)))))))))) (zb_X8_share_64 K J)))))))))))))))))))
theorem zbs_X8_share_11 {X : zCt} (hR : zRX X = { frames := 3, cells := 0, slots := 0, locals := 71 }) (J : Nat → zPP) (hJ : ∀ h ∈ ([11, 190, 283] : List Nat), zSd X RX8 "share" cX8_share 10 (some .boolean) h (J h)) : zSd X RX8 "share" cX8_share 10 (some .boolean) 11 (zb_X8_share_11 (zKX X) J) := zs_iload zd_X8_share_11 (zs_iconst zd_X8_share_13 (by decide) (zs_icmp_ge (tgt := 154) zd_X8_share_14 (by decide) (zs_iload_n zd_X8_share_154 rfl (zs_if_ne (tgt := 160) zd_X8_share_155 (by decide) (zs_iload_n zd_X8_share_160 rfl (zs_if_ne (tgt := 179) zd_X8_share_161 (by decide) (zs_aload_n zd_X8_share_179 rfl (zs_getR (ci := 8) (j := 26) (T := TX8) rfl inX8 (by decide) gw_3_115 rfl zd_X8_share_180 (zs_iload_n zd_X8_share_183 rfl (zs_iald zd_X8_share_184 (zs_istore zd_X8_share_185 (by decide) (zs_iconst zd_X8_share_187 (by decide) (zs_istore zd_X8_share_188 (by decide) (hJ 190 (by decide))))))))) (zs_aload_n zd_X8_share_164 rfl (zs_getR (ci := 8) (j := 30) (T := TX8) rfl inX8 (by decide) gw_3_119 rfl zd_X8_share_165 (zs_iload zd_X8_share_168 (zs_aload_n zd_X8_share_170 rfl (zs_getR (ci := 8) (j := 26) (T := TX8) rfl inX8 (by decide) gw_3_115 rfl zd_X8_share_171 (zs_iload_n zd_X8_share_174 rfl (zs_iald zd_X8_share_175 (zs_iast zd_X8_share_176 (zs_iconst zd_X8_share_177 (by decide) (zs_nret rfl zd_X8_share_178)))))))))))) (zs_iconst zd_X8_share_158 (by decide) (zs_nret rfl zd_X8_share_159)))) (zs_aload_n zd_X8_share_17 rfl (zs_iload_n zd_X8_share_18 rfl (zs_iload zd_X8_share_19 (zs_V (ci := 8) rfl rfl (zm_X8_sideOf _ _ _) gw_4_88 gw_4_85 gw_4_87 gw_0_37 gw_1_7 zdn_X8_sideOf (zrm hR (by decide) (by decide)) zd_X8_share_21 (zCl_V2 zok_l) (zs_istore zd_X8_share_24 (by decide) (zs_aload_n zd_X8_share_26 rfl (zs_getR (ci := 8) (j := 29) (T := TX8) rfl inX8 (by decide) gw_3_118 rfl zd_X8_share_27 (zs_iload zd_X8_share_30 (zs_iload zd_X8_share_32 (zs_iconst zd_X8_share_34 (by decide) (zs_icmp_eq (tgt := 64) zd_X8_share_35 (by decide) (zbs_X8_share_64 hR J hJ) (zs_aload_n zd_X8_share_38 rfl (zs_getR (ci := 8) (j := 25) (T := TX8) rfl inX8 (by decide) gw_3_114 rfl zd_X8_share_39 (zs_iload zd_X8_share_42 (zs_zald zd_X8_share_44 (zs_if_ne (tgt := 64) zd_X8_share_45 (by decide) (zbs_X8_share_64 hR J hJ) (zs_aload_n zd_X8_share_48 rfl (zs_getR (ci := 8) (j := 24) (T := TX8) rfl inX8 (by decide) gw_3_113 rfl zd_X8_share_49 (zs_iload zd_X8_share_52 (zs_iald zd_X8_share_54 (zs_aload_n zd_X8_share_55 rfl (zs_getR (ci := 8) (j := 24) (T := TX8) rfl inX8 (by decide) gw_3_113 rfl zd_X8_share_56 (zs_iload_n zd_X8_share_59 rfl (zs_iald zd_X8_share_60 (zs_icmp_lt (tgt := 68) zd_X8_share_61 (by decide) (zs_iload zd_X8_share_68 (zbs_X8_share_70 hR J hJ)) (zbs_X8_share_64 hR J hJ))))))))))))))))))))))))))))
def zb_X8_share_271 (K : zKt) (J : Nat → zPP) : zPP := zT_iinc 7 1 (J 190)
theorem zbs_X8_share_271 {X : zCt} (hR : zRX X = { frames := 3, cells := 0, slots := 0, locals := 71 }) (J : Nat → zPP) (hJ : ∀ h ∈ ([11, 190, 283] : List Nat), zSd X RX8 "share" cX8_share 10 (some .boolean) h (J h)) : zSd X RX8 "share" cX8_share 10 (some .boolean) 271 (zb_X8_share_271 (zKX X) J) := zs_iinc zd_X8_share_271 (by decide) (by decide) (zs_goto (tgt := 190) zd_X8_share_274 (by decide) (hJ 190 (by decide)))
def zb_X8_share_258 (K : zKt) (J : Nat → zPP) : zPP := zT_iast (zT_ild 6 (zT_ald 0 (zT_getR 8 30 38 (zT_ild 7 (zT_ald0 0 (zT_bin (fun x y => x - y) (zT_ist 6 (zb_X8_share_271 K J))))))))
theorem zbs_X8_share_258 {X : zCt} (hR : zRX X = { frames := 3, cells := 0, slots := 0, locals := 71 }) (J : Nat → zPP) (hJ : ∀ h ∈ ([11, 190, 283] : List Nat), zSd X RX8 "share" cX8_share 10 (some .boolean) h (J h)) : zSd X RX8 "share" cX8_share 10 (some .boolean) 258 (zb_X8_share_258 (zKX X) J) := zs_iast zd_X8_share_258 (zs_iload zd_X8_share_259 (zs_aload_n zd_X8_share_261 rfl (zs_getR (ci := 8) (j := 30) (T := TX8) rfl inX8 (by decide) gw_3_119 rfl zd_X8_share_262 (zs_iload zd_X8_share_265 (zs_iald zd_X8_share_267 (zs_isub zd_X8_share_268 (zs_istore zd_X8_share_269 (by decide) (zbs_X8_share_271 hR J hJ))))))))
def zb_X8_share_190 (K : zKt) (J : Nat → zPP) : zPP := zT_ild 7 (zT_push (.int 4) (zT_if2 (fun x y => y ≤ x) (zT_push (.int 0) (zT_ist 7 (zT_push (.int 0) (zT_ist 8 (J 283))))) (zT_ald 0 (zT_getR 8 29 38 (zT_ild 7 (zT_ald0 0 (zT_push (.int (-1)) (zT_if2 (fun x y => x = y) (zb_X8_share_271 K J) (zT_ald 0 (zT_getR 8 30 38 (zT_ild 7 (zT_ild 2 (zT_push (.int 1) (zT_if2 (fun x y => x = y) (zT_ald 0 (zT_getR 8 26 38 (zT_ild 1 (zT_ald0 0 (zT_ild 3 (zT_div (fun x y => x / y) (zb_X8_share_258 K J))))))) (zT_ald 0 (zT_getR 8 26 38 (zT_ild 1 (zT_ald0 0 (zT_ald 0 (zT_getR 8 24 38 (zT_ild 1 (zT_ald0 0 (zT_ald 0 (zT_getR 8 24 38 (zT_ald 0 (zT_getR 8 29 38 (zT_ild 7 (zT_ald0 0 (zT_ald0 0 (zT_bin (fun x y => x - y) (zT_bin (fun x y => x * y) (zT_ild 4 (zT_div (fun x y => x / y) (zb_X8_share_258 K J))))))))))))))))))))))))))))))))))
theorem zbs_X8_share_190 {X : zCt} (hR : zRX X = { frames := 3, cells := 0, slots := 0, locals := 71 }) (J : Nat → zPP) (hJ : ∀ h ∈ ([11, 190, 283] : List Nat), zSd X RX8 "share" cX8_share 10 (some .boolean) h (J h)) : zSd X RX8 "share" cX8_share 10 (some .boolean) 190 (zb_X8_share_190 (zKX X) J) := zs_iload zd_X8_share_190 (zs_iconst zd_X8_share_192 (by decide) (zs_icmp_ge (tgt := 277) zd_X8_share_193 (by decide) (zs_iconst zd_X8_share_277 (by decide) (zs_istore zd_X8_share_278 (by decide) (zs_iconst zd_X8_share_280 (by decide) (zs_istore zd_X8_share_281 (by decide) (hJ 283 (by decide)))))) (zs_aload_n zd_X8_share_196 rfl (zs_getR (ci := 8) (j := 29) (T := TX8) rfl inX8 (by decide) gw_3_118 rfl zd_X8_share_197 (zs_iload zd_X8_share_200 (zs_iald zd_X8_share_202 (zs_iconst zd_X8_share_203 (by decide) (zs_icmp_eq (tgt := 271) zd_X8_share_204 (by decide) (zbs_X8_share_271 hR J hJ) (zs_aload_n zd_X8_share_207 rfl (zs_getR (ci := 8) (j := 30) (T := TX8) rfl inX8 (by decide) gw_3_119 rfl zd_X8_share_208 (zs_iload zd_X8_share_211 (zs_iload_n zd_X8_share_213 rfl (zs_iconst zd_X8_share_214 (by decide) (zs_icmp_ne (tgt := 229) zd_X8_share_215 (by decide) (zs_aload_n zd_X8_share_229 rfl (zs_getR (ci := 8) (j := 26) (T := TX8) rfl inX8 (by decide) gw_3_115 rfl zd_X8_share_230 (zs_iload_n zd_X8_share_233 rfl (zs_iald zd_X8_share_234 (zs_aload_n zd_X8_share_235 rfl (zs_getR (ci := 8) (j := 24) (T := TX8) rfl inX8 (by decide) gw_3_113 rfl zd_X8_share_236 (zs_iload_n zd_X8_share_239 rfl (zs_iald zd_X8_share_240 (zs_aload_n zd_X8_share_241 rfl (zs_getR (ci := 8) (j := 24) (T := TX8) rfl inX8 (by decide) gw_3_113 rfl zd_X8_share_242 (zs_aload_n zd_X8_share_245 rfl (zs_getR (ci := 8) (j := 29) (T := TX8) rfl inX8 (by decide) gw_3_118 rfl zd_X8_share_246 (zs_iload zd_X8_share_249 (zs_iald zd_X8_share_251 (zs_iald zd_X8_share_252 (zs_isub zd_X8_share_253 (zs_imul zd_X8_share_254 (zs_iload zd_X8_share_255 (zs_idiv zd_X8_share_257 (zbs_X8_share_258 hR J hJ)))))))))))))))))))) (zs_aload_n zd_X8_share_218 rfl (zs_getR (ci := 8) (j := 26) (T := TX8) rfl inX8 (by decide) gw_3_115 rfl zd_X8_share_219 (zs_iload_n zd_X8_share_222 rfl (zs_iald zd_X8_share_223 (zs_iload_n zd_X8_share_224 rfl (zs_idiv zd_X8_share_225 (zs_goto (tgt := 258) zd_X8_share_226 (by decide) (zbs_X8_share_258 hR J hJ))))))))))))))))))))))
def zb_X8_share_346 (K : zKt) (J : Nat → zPP) : zPP := zT_iinc 8 1 (J 283)
theorem zbs_X8_share_346 {X : zCt} (hR : zRX X = { frames := 3, cells := 0, slots := 0, locals := 71 }) (J : Nat → zPP) (hJ : ∀ h ∈ ([11, 190, 283] : List Nat), zSd X RX8 "share" cX8_share 10 (some .boolean) h (J h)) : zSd X RX8 "share" cX8_share 10 (some .boolean) 346 (zb_X8_share_346 (zKX X) J) := zs_iinc zd_X8_share_346 (by decide) (by decide) (zs_goto (tgt := 283) zd_X8_share_349 (by decide) (hJ 283 (by decide)))
def zb_X8_share_341 (K : zKt) (J : Nat → zPP) : zPP := zT_bin (fun x y => x + y) (zT_iast (zT_iinc 7 1 (zb_X8_share_346 K J)))
theorem zbs_X8_share_341 {X : zCt} (hR : zRX X = { frames := 3, cells := 0, slots := 0, locals := 71 }) (J : Nat → zPP) (hJ : ∀ h ∈ ([11, 190, 283] : List Nat), zSd X RX8 "share" cX8_share 10 (some .boolean) h (J h)) : zSd X RX8 "share" cX8_share 10 (some .boolean) 341 (zb_X8_share_341 (zKX X) J) := zs_iadd zd_X8_share_341 (zs_iast zd_X8_share_342 (zs_iinc zd_X8_share_343 (by decide) (by decide) (zbs_X8_share_346 hR J hJ)))
def zb_X8_share_319 (K : zKt) (J : Nat → zPP) : zPP := zT_ist 9 (zT_ald 0 (zT_getR 8 30 38 (zT_ild 8 (zT_dup2 (zT_ald0 0 (zT_ild 9 (zT_ild 6 (zT_if2 (fun x y => y ≤ x) (zT_push (.int 0) (zb_X8_share_341 K J)) (zT_push (.int 1) (zb_X8_share_341 K J))))))))))
theorem zbs_X8_share_319 {X : zCt} (hR : zRX X = { frames := 3, cells := 0, slots := 0, locals := 71 }) (J : Nat → zPP) (hJ : ∀ h ∈ ([11, 190, 283] : List Nat), zSd X RX8 "share" cX8_share 10 (some .boolean) h (J h)) : zSd X RX8 "share" cX8_share 10 (some .boolean) 319 (zb_X8_share_319 (zKX X) J) := zs_istore zd_X8_share_319 (by decide) (zs_aload_n zd_X8_share_321 rfl (zs_getR (ci := 8) (j := 30) (T := TX8) rfl inX8 (by decide) gw_3_119 rfl zd_X8_share_322 (zs_iload zd_X8_share_325 (zs_dup2 zd_X8_share_327 (zs_iald zd_X8_share_328 (zs_iload zd_X8_share_329 (zs_iload zd_X8_share_331 (zs_icmp_ge (tgt := 340) zd_X8_share_333 (by decide) (zs_iconst zd_X8_share_340 (by decide) (zbs_X8_share_341 hR J hJ)) (zs_iconst zd_X8_share_336 (by decide) (zs_goto (tgt := 341) zd_X8_share_337 (by decide) (zbs_X8_share_341 hR J hJ)))))))))))
def zb_X8_share_283 (K : zKt) (J : Nat → zPP) : zPP := zT_ild 8 (zT_push (.int 4) (zT_if2 (fun x y => y ≤ x) (zT_push (.int 1) (zT_nret .boolean K)) (zT_ald 0 (zT_getR 8 29 38 (zT_ild 8 (zT_ald0 0 (zT_push (.int (-1)) (zT_if2 (fun x y => x = y) (zb_X8_share_346 K J) (zT_ild 2 (zT_push (.int 1) (zT_if2 (fun x y => x = y) (zT_ild 7 (zb_X8_share_319 K J)) (zT_ald 0 (zT_ild 1 (zT_ild 8 (zT_ild 4 (zT_V3 zok 8 38 zc_X8_restsAhead (zb_X8_share_319 K J)))))))))))))))))
theorem zbs_X8_share_283 {X : zCt} (hR : zRX X = { frames := 3, cells := 0, slots := 0, locals := 71 }) (J : Nat → zPP) (hJ : ∀ h ∈ ([11, 190, 283] : List Nat), zSd X RX8 "share" cX8_share 10 (some .boolean) h (J h)) : zSd X RX8 "share" cX8_share 10 (some .boolean) 283 (zb_X8_share_283 (zKX X) J) := zs_iload zd_X8_share_283 (zs_iconst zd_X8_share_285 (by decide) (zs_icmp_ge (tgt := 352) zd_X8_share_286 (by decide) (zs_iconst zd_X8_share_352 (by decide) (zs_nret rfl zd_X8_share_353)) (zs_aload_n zd_X8_share_289 rfl (zs_getR (ci := 8) (j := 29) (T := TX8) rfl inX8 (by decide) gw_3_118 rfl zd_X8_share_290 (zs_iload zd_X8_share_293 (zs_iald zd_X8_share_295 (zs_iconst zd_X8_share_296 (by decide) (zs_icmp_eq (tgt := 346) zd_X8_share_297 (by decide) (zbs_X8_share_346 hR J hJ) (zs_iload_n zd_X8_share_300 rfl (zs_iconst zd_X8_share_301 (by decide) (zs_icmp_ne (tgt := 310) zd_X8_share_302 (by decide) (zs_aload_n zd_X8_share_310 rfl (zs_iload_n zd_X8_share_311 rfl (zs_iload zd_X8_share_312 (zs_iload zd_X8_share_314 (zs_V (ci := 8) rfl rfl (zm_X8_restsAhead _ _ _) gw_4_92 gw_4_89 gw_4_91 gw_0_38 gw_1_7 zdn_X8_restsAhead (zrm hR (by decide) (by decide)) zd_X8_share_316 (zCl_V3 zok_l) (zbs_X8_share_319 hR J hJ)))))) (zs_iload zd_X8_share_305 (zs_goto (tgt := 319) zd_X8_share_307 (by decide) (zbs_X8_share_319 hR J hJ))))))))))))))
def zB_X8_share (K : zKt) (J : Nat → zPP) (h : Nat) : zPP := if h = 11 then zb_X8_share_11 K J else if h = 190 then zb_X8_share_190 K J else if h = 283 then zb_X8_share_283 K J else (fun _ _ _ => False)
theorem zBs_X8_share {X : zCt} (hR : zRX X = { frames := 3, cells := 0, slots := 0, locals := 71 }) : ∀ J : Nat → zPP, (∀ h ∈ ([11, 190, 283] : List Nat), zSd X RX8 "share" cX8_share 10 (some .boolean) h (J h)) → ∀ h ∈ ([11, 190, 283] : List Nat), zSd X RX8 "share" cX8_share 10 (some .boolean) h (zB_X8_share (zKX X) J h) := by
  intro J hJ h hh
  unfold zB_X8_share
  simp only [List.mem_cons, List.not_mem_nil, or_false] at hh
  rcases hh with rfl | rfl | rfl
  · exact zbs_X8_share_11 hR J hJ
  · exact zbs_X8_share_190 hR J hJ
  · exact zbs_X8_share_283 hR J hJ
theorem zdn_X8_share : yX8_share.cls ≠ "java/lang/invoke/MethodHandle" ∧ yX8_share.cls ≠ "java/lang/invoke/VarHandle" ∧ (parseMethodDescriptor yX8_share.desc).map (fun d => d.parameters.length) = some 2 := by decide +kernel
theorem wct_0 {r : Nat → Nat} {m d : Nat} (h : wct (wpo r) m = 0) (hd : d < m) : r d = 0 := by
  rcases Nat.eq_zero_or_pos (r d) with q | q
  · exact q
  · have := wct_lt hd (wpo_t.mpr q)
    omega
theorem wfg_pos {r : Nat → Nat} {m : Nat} (h : ¬ wct (wpo r) m = 0) : wfg r m < m ∧ 0 < r (wfg r m) := by
  have hm : 0 < m := by
    rcases Nat.eq_zero_or_pos m with q | q
    · subst q; exact absurd rfl h
    · exact q
  have h1 := wfg_le r m
  refine ⟨by omega, ?_⟩
  rcases Nat.eq_zero_or_pos (r (wfg r m)) with q | q
  · have : wct (wpo r) m ≤ wct (fun _ => false) m := wct_mono fun i hi hp => by
      have := (wfg_max r m i hi).1
      have := wpo_t.mp hp
      omega
    have e : wct (fun _ => false) m = 0 := by
      clear this h1 q h hm
      induction m with
      | zero => rfl
      | succ n ih => show wct (fun _ => false) n + 0 = 0; rw [ih]
    omega
  · exact q
def zc_X8_share (a : List Value) (M : zMm) (K : zKt) : Prop := match a with
  | [.ref k, .int cc, .int how] => k = 200 ∧ zMr M ∧ ∃ w h H D c f sort, M.2.1 200 2 = nI w ∧ M.2.1 200 3 = nI h ∧ 1 ≤ w ∧ w ≤ 12 ∧ 1 ≤ h ∧ h ≤ 10 ∧ wil w h c ∧ zmh M w h H ∧ zmd M w h D ∧ M.2.1 211 (mI w c) = nI f ∧ f ≤ 1000 ∧ cc = nI (mI w c) ∧ how = nI sort ∧ sort < 3 ∧ ∀ M', zsm [214, 215] M M' → msd M' w h H D c 4 → (∀ d, d < 4 → 0 < wdr w h H D c d → M'.2.1 215 d = nI (wgv sort f (wdr w h H D c) d)) → K (some (.int (if wct (wpo (wdr w h H D c)) 4 = 0 then 0 else 1))) M'
  | _ => False
set_option maxHeartbeats 4000000 in
theorem zm_X8_share (l : Launch) (D : va_G) (Y : Nat → ClassId) : zMt l D Y yX8_share cX8_share 10 (some .boolean) 3 71 0 0 zc_X8_share := by
  refine zwhile (heads := [11, 190, 283]) (by decide) (fun K J _ _ => zb_X8_share_0 K J) (fun K _ _ J h => zB_X8_share K J h) (fun X hR J hJ => zbs_X8_share_0 hR J hJ) (fun X hR => zBs_X8_share hR) (fun avs M K h => ?_)
  unfold zc_X8_share at h
  split at h
  · next k cc how =>
    obtain ⟨rfl, g1, w, h', H, D, c, f, sort, w1, w2, b1, b2, b3, b4, hc, hH, hD, hf, hf1, rfl, rfl, hso, h⟩ := h
    obtain ⟨r7, -, -, -, -, -, -, -, r24, r25, r26, r27, r28, r29, r30, -⟩ := id g1
    have hc120 := mI_120 b2 b4 hc
    obtain ⟨hHc, hHc2⟩ := hH c hc
    have hSle : wsm (wdr w h' H D c) 4 ≤ 4 * 200 := wsm_bd fun i _ => wdr_le hHc2
    have hrle : ∀ d, wdr w h' H D c d ≤ 200 := fun d => wdr_le hHc2
    have way : ∀ o, o < 4 → 0 < wdr w h' H D c o → mI w (wnx w h' c o) < 120 ∧ M.2.1 209 (mI w (wnx w h' c o)) = nI (H (wnx w h' c o)) ∧ nI (H c) - nI (H (wnx w h' c o)) = nI (wdr w h' H D c o) ∧ f * wdr w h' H D c o ≤ 1000 * 200 ∧ wdr w h' H D c o = H c - H (wnx w h' c o) ∧ H (wnx w h' c o) < H c ∧ wil w h' (wnx w h' c o) := by
      intro o ho hp
      obtain ⟨q1, q2, q3, q4, q5⟩ := wdr_way b2 hc ho hp
      refine ⟨mI_120 b2 b4 q2, (hH _ q2).1, ?_, Nat.mul_le_mul hf1 (wdr_le hHc2), q5, q4, q2⟩
      rw [q5]
      exact pk_sub (Nat.le_of_lt q4)
    have hno : ∀ o, o < 4 → wnb w h' c o = none → wdr w h' H D c o = 0 := by
      intro o ho hn
      unfold wdr
      rw [hn]
    have hso' : ∀ o y, o < 4 → wnb w h' c o = some y → wil w h' y ∧ wnx w h' c o = y ∧ wdr w h' H D c o = if D y = true then 0 else H c - H y := by
      intro o y ho hn
      refine ⟨(wnb_sym b2 ho hc hn).2, by unfold wnx; rw [hn]; rfl, ?_⟩
      unfold wdr
      rw [hn]
    unfold msd at h
    obtain ⟨r, hr⟩ : ∃ r, r = wdr w h' H D c := ⟨_, rfl⟩
    rw [← hr] at h hSle way hno hso' hrle
    have hinc : vp_in (nI (mI w c)) 120 := vp_in_nI hc120 (by decide)
    have hfd : ∀ n, f / n ≤ 1000 := fun n => Nat.le_trans (Nat.div_le_self _ _) hf1
    have hfd2 : ∀ n d, 0 < n → f * r d / n ≤ 1000 * 200 := fun n d hn => Nat.le_trans (Nat.div_le_self _ _) (Nat.mul_le_mul hf1 (hrle d))
    obtain ⟨bs, hbs⟩ : ∃ bs : Nat → Nat, bs = fun d => if sort = 1 then (if 0 < r d then f / wct (wpo r) 4 else 0) else f * r d / wsm r 4 := ⟨_, rfl⟩
    have hS1 : sort = 1 → ∀ d, wsm bs d = wct (wpo r) d * (f / wct (wpo r) 4) := by
      intro e1 d
      induction d with
      | zero => show 0 = 0 * _; rw [Nat.zero_mul]
      | succ n ih =>
        show wsm bs n + bs n = (wct (wpo r) n + (if wpo r n = true then 1 else 0)) * _
        rw [ih, Nat.add_mul, hbs]
        show _ + (if sort = 1 then (if 0 < r n then _ else 0) else _) = _
        rw [if_pos e1]
        by_cases z : 0 < r n
        · rw [if_pos z, if_pos (wpo_t.mpr z), Nat.one_mul]
        · rw [if_neg z, if_neg (fun q => z (wpo_t.mp q)), Nat.zero_mul]
    have hBS : ¬ wct (wpo r) 4 = 0 → ¬ sort = 0 → wsm bs 4 ≤ f ∧ 0 < wsm r 4 ∧ ∀ d, r d = 0 → bs d = 0 := by
      intro hm hs0
      obtain ⟨f1, f2⟩ := wfg_pos hm
      have hp : 0 < wsm r 4 := Nat.lt_of_lt_of_le f2 (wsm_mem f1)
      refine ⟨?_, hp, fun d hd => ?_⟩
      · by_cases e1 : sort = 1
        · rw [hS1 e1 4]
          exact Nat.mul_div_le _ _
        · have hb' : bs = fun j => f * r j / wsm r 4 := by
            rw [hbs]
            funext j
            rw [if_neg e1]
          rw [hb']
          exact (wsm_left (by decide) hp).1
      · rw [hbs]
        show (if sort = 1 then (if 0 < r d then _ else 0) else _) = 0
        rw [hd, if_neg (Nat.lt_irrefl 0), Nat.mul_zero, Nat.zero_div]
        split <;> rfl
    have hwn : ∀ (M' : zMm) (d : Nat), d < 4 → M'.2.1 214 d = (if 0 < r d then nI (mI w (wnx w h' c d)) else -1) → M'.2.1 214 d = -1 → r d = 0 := by
      intro M' d hd e1 e2
      rcases Nat.eq_zero_or_pos (r d) with z | z
      · exact z
      · rw [if_pos z, e2] at e1
        exact absurd e1.symm (nI_nm1 (Nat.lt_trans (way d hd z).1 (by decide)))
    have hwy : ∀ (M' : zMm) (d : Nat), d < 4 → M'.2.1 214 d = (if 0 < r d then nI (mI w (wnx w h' c d)) else -1) → ¬ M'.2.1 214 d = -1 → 0 < r d := by
      intro M' d hd e1 e2
      rcases Nat.eq_zero_or_pos (r d) with z | z
      · rw [if_neg (by omega)] at e1
        exact absurd e1 e2
      · exact z
    refine ⟨by simp [zent], fun q hd M' ls st => zsm [214, 215] M M' ∧ ((hd = 11 ∧ ∃ d t, q = 20 - d ∧ d ≤ 4 ∧ (∀ o, o < d → M'.2.1 214 o = (if 0 < r o then nI (mI w (wnx w h' c o)) else -1) ∧ M'.2.1 215 o = 0) ∧ ls = [some (.ref 200), some (.int (nI (mI w c))), some (.int (nI sort)), some (.int (nI (wct (wpo r) d))), some (.int (nI (wsm r d))), some (.int (if wct (wpo r) d = 0 then -1 else nI (wfg r d))), some (.int (nI d)), t, none, none] ∧ st = []) ∨
      ((¬ sort = 0 ∧ ¬ wct (wpo r) 4 = 0 ∧ ∀ o, o < 4 → M'.2.1 214 o = if 0 < r o then nI (mI w (wnx w h' c o)) else -1) ∧ ((hd = 190 ∧ ∃ d l, q = 14 - d ∧ d ≤ 4 ∧ (∀ o, o < d → 0 < r o → M'.2.1 215 o = nI (bs o)) ∧ ls = [some (.ref 200), some (.int (nI (mI w c))), some (.int (nI sort)), some (.int (nI (wct (wpo r) 4))), some (.int (nI (wsm r 4))), some (.int l), some (.int (nI (f - wsm bs d))), some (.int (nI d)), none, none] ∧ st = []) ∨
      (hd = 283 ∧ ∃ d l t, q = 8 - d ∧ d ≤ 4 ∧ (∀ o, o < d → 0 < r o → M'.2.1 215 o = nI (wgv sort f r o)) ∧ (∀ o, d ≤ o → o < 4 → 0 < r o → M'.2.1 215 o = nI (bs o)) ∧ ls = [some (.ref 200), some (.int (nI (mI w c))), some (.int (nI sort)), some (.int (nI (wct (wpo r) 4))), some (.int (nI (wsm r 4))), some (.int l), some (.int (nI (f - wsm bs 4))), some (.int (nI (wct (wpo r) d))), some (.int (nI d)), t] ∧ st = [])))), ?_, ?_⟩
    · rintro q J hJ hd - M' ls st ⟨hs, ⟨rfl, d, t, rfl, hd, hcc, rfl, rfl⟩ | ⟨⟨hs0, hm0, hsd⟩, ⟨rfl, d, l, rfl, hd, hb, rfl, rfl⟩ | ⟨rfl, d, l, t, rfl, hd, hg, hb, rfl, rfl⟩⟩⟩
      · have e0 : M'.2.1 200 = M.2.1 200 := hs.at (by simp)
        have e9 : M'.2.1 209 = M.2.1 209 := hs.at (by simp)
        have e10 : M'.2.1 210 = M.2.1 210 := hs.at (by simp)
        have e11 : M'.2.1 211 = M.2.1 211 := hs.at (by simp)
        have eR := hs.R
        simp only [zB_X8_share, zb_X8_share_11, ↓reduceIte, zsh_200, zsh_209, zsh_211, zsh_214, zsh_215, eR, r24, r26, r29, r30, e9, e11, Nat.reduceEqDiff, zT_push, zT_bin, zT_div, zT_bil, zT_shl, zT_un, zT_i2l, zT_l2i, zT_lcmp, zT_ild, zT_lld, zT_ald, zT_ist, zT_lst, zT_ast, zT_iinc, zT_dup, zT_dup2, zT_pop, zT_if1, zT_if2, zT_ifn, zT_getI, zT_getJ, zT_getR, zT_putI, zT_putZ, zT_putJ, zT_putR, zT_ald0, zT_lald, zT_aald, zT_iast, zT_zast, zT_bast, zT_last, zT_aast, zT_iret, zT_nret, zT_aret, zT_vret, zT_oi, zT_mm, zT_ialX, zT_S1, zT_S2, zT_S3, zT_V0, zT_V1, zT_V2, zT_V3, zT_V4, zT_V5, zT_V6, zT_I0, zT_I1, zT_I2, zlg, zlset, zlpr, zent, zok, va_rf, List.length_cons, List.length_nil, List.replicate, List.cons_append, List.nil_append, List.append_nil, Option.toList_some, Option.toList_none, Option.toList, Nat.reduceAdd, Nat.reduceSub, Nat.reduceLeDiff, Nat.zero_add, Nat.zero_le, true_and, and_true, Nat.le_refl, ge_iff_le, Nat.reduceEqDiff]
        have hwl : wct (wpo r) d ≤ 4 := Nat.le_trans (wct_le _ _) hd
        have hsl : wsm r d ≤ 4 * 200 := Nat.le_trans (wsm_mn hd) hSle
        rw [nI_clamp (n := mI w c) (by omega), hf]
        refine ⟨fun h1 => ?_, fun h1 => ?_⟩
        · have := zn_ge' (b := 4) h1 (by omega) (by omega)
          have e : d = 4 := by omega
          subst e
          refine ⟨fun h2 => ⟨rfl, ?_⟩, fun h2 => ⟨fun h3 => ⟨hinc, ?_⟩, fun h3 => ⟨hinc, ?_⟩⟩⟩
          · have e : wct (wpo r) 4 = 0 := (nI_eq (b := 0) (by omega) (by decide)).mp h2
            have := h M' hs (fun o ho => (hcc o ho).1) (fun o ho hp => absurd (wct_0 e ho) (by omega))
            rw [if_pos e] at this
            exact this
          · have e : ¬ wct (wpo r) 4 = 0 := fun z => h2 (by rw [z]; rfl)
            have es : sort = 0 := (nI_eq (b := 0) (by omega) (by decide)).mp h3
            obtain ⟨f1, f2⟩ := wfg_pos e
            rw [if_neg e, nI_clamp (by omega)]
            refine ⟨vp_in_nI f1 (by decide), rfl, ?_⟩
            have := h (zwI M' 215 (wfg r 4) (nI f)) (hs.w (by simp)) (fun o ho => ?_) (fun o ho hp => ?_)
            · rw [if_neg e] at this
              exact this
            · simp only [zwI_L, zwI_I, zwI_J, zwI_R, zwJ_L, zwJ_I, zwJ_J, zwJ_R, zwR_L, zwR_I, zwR_J, zwR_R, zw2_s, zw2_n, ne_eq, not_false_eq_true, reduceCtorEq, not_true_eq_false, Nat.reduceEqDiff]
              exact (hcc o ho).1
            · simp only [zwI_L, zwI_I, zwI_J, zwI_R, zwJ_L, zwJ_I, zwJ_J, zwJ_R, zwR_L, zwR_I, zwR_J, zwR_R, zw2_s, zw2_n, ne_eq, not_false_eq_true, reduceCtorEq, not_true_eq_false, Nat.reduceEqDiff]
              unfold wgv
              rw [if_neg (by omega), if_pos es]
              by_cases q : o = wfg r 4
              · rw [q, zup_s, if_pos rfl]
              · rw [zup_n q, if_neg q]; exact (hcc o ho).2
          · have e : ¬ wct (wpo r) 4 = 0 := fun z => h2 (by rw [z]; rfl)
            have es : ¬ sort = 0 := fun z => h3 (by rw [z]; rfl)
            exact hJ 14 (by omega) 190 (by simp) _ _ _ ⟨hs, Or.inr ⟨⟨es, e, fun o ho => (hcc o ho).1⟩, Or.inl ⟨rfl, 0, _, rfl, by omega, fun o ho => absurd ho (Nat.not_lt_zero _), rfl, rfl⟩⟩⟩
        · have hlt := zn_ge (b := 4) h1 (by omega) (by omega)
          have hin : vp_in (nI d) 4 := vp_in_nI hlt (by decide)
          have nx1 : ∀ M2 t', zsm [214, 215] M M2 → (∀ o, o < d + 1 → M2.2.1 214 o = (if 0 < r o then nI (mI w (wnx w h' c o)) else -1) ∧ M2.2.1 215 o = 0) → ∀ a b l, a = nI (wct (wpo r) (d + 1)) → b = nI (wsm r (d + 1)) → l = (if wct (wpo r) (d + 1) = 0 then -1 else nI (wfg r (d + 1))) → zb_X8_share_148 K J M2 [some (.ref 200), some (.int (nI (mI w c))), some (.int (nI sort)), some (.int a), some (.int b), some (.int l), some (.int (nI d)), t', none, none] [] := by
            intro M2 t' hs2 hc2 a b l ha hb hl
            simp only [zb_X8_share_148, zT_push, zT_bin, zT_div, zT_bil, zT_shl, zT_un, zT_i2l, zT_l2i, zT_lcmp, zT_ild, zT_lld, zT_ald, zT_ist, zT_lst, zT_ast, zT_iinc, zT_dup, zT_dup2, zT_pop, zT_if1, zT_if2, zT_ifn, zT_getI, zT_getJ, zT_getR, zT_putI, zT_putZ, zT_putJ, zT_putR, zT_ald0, zT_lald, zT_aald, zT_iast, zT_zast, zT_bast, zT_last, zT_aast, zT_iret, zT_nret, zT_aret, zT_vret, zT_oi, zT_mm, zT_ialX, zT_S1, zT_S2, zT_S3, zT_V0, zT_V1, zT_V2, zT_V3, zT_V4, zT_V5, zT_V6, zT_I0, zT_I1, zT_I2, zlg, zlset, zlpr, zent, zok, va_rf, List.length_cons, List.length_nil, List.replicate, List.cons_append, List.nil_append, List.append_nil, Option.toList_some, Option.toList_none, Option.toList, Nat.reduceAdd, Nat.reduceSub, Nat.reduceLeDiff, Nat.zero_add, Nat.zero_le, true_and, and_true, Nat.le_refl, ge_iff_le, Nat.reduceEqDiff]
            exact hJ (20 - (d + 1)) (by omega) 11 (by simp) _ _ _ ⟨hs2, Or.inl ⟨rfl, d + 1, t', rfl, hlt, hc2, by rw [nI_1, ha, hb, hl], rfl⟩⟩
          have S70 : ∀ v s, v = (if 0 < r d then nI (mI w (wnx w h' c d)) else -1) → (0 < r d → s = v) → zb_X8_share_70 K J M' [some (.ref 200), some (.int (nI (mI w c))), some (.int (nI sort)), some (.int (nI (wct (wpo r) d))), some (.int (nI (wsm r d))), some (.int (if wct (wpo r) d = 0 then -1 else nI (wfg r d))), some (.int (nI d)), some (.int s), none, none] [.int v, .int (nI d), .ref 214] := by
            intro v s hv hsv
            have hc2 : ∀ o, o < d + 1 → (zwI (zwI M' 214 d v) 215 d 0).2.1 214 o = (if 0 < r o then nI (mI w (wnx w h' c o)) else -1) ∧ (zwI (zwI M' 214 d v) 215 d 0).2.1 215 o = 0 := by
              intro o ho
              simp only [zwI_L, zwI_I, zwI_J, zwI_R, zwJ_L, zwJ_I, zwJ_J, zwJ_R, zwR_L, zwR_I, zwR_J, zwR_R, zw2_s, zw2_n, ne_eq, not_false_eq_true, reduceCtorEq, not_true_eq_false, Nat.reduceEqDiff]
              by_cases q : o = d
              · subst q; rw [zup_s, zup_s]; exact ⟨hv, rfl⟩
              · rw [zup_n q, zup_n q]; exact hcc o (by omega)
            have hs2 : zsm [214, 215] M (zwI (zwI M' 214 d v) 215 d 0) := (hs.w (by simp)).w (by simp)
            simp only [zb_X8_share_70, zsh_200, zsh_209, zsh_214, zsh_215, zwI_R, eR, r24, r29, r30, nI_clamp (show d < 2 ^ 31 by omega), zwI_L, zwI_I, zwI_J, zwI_R, zwJ_L, zwJ_I, zwJ_J, zwJ_R, zwR_L, zwR_I, zwR_J, zwR_R, zw2_s, zw2_n, ne_eq, not_false_eq_true, reduceCtorEq, not_true_eq_false, Nat.reduceEqDiff, zup_s, zT_push, zT_bin, zT_div, zT_bil, zT_shl, zT_un, zT_i2l, zT_l2i, zT_lcmp, zT_ild, zT_lld, zT_ald, zT_ist, zT_lst, zT_ast, zT_iinc, zT_dup, zT_dup2, zT_pop, zT_if1, zT_if2, zT_ifn, zT_getI, zT_getJ, zT_getR, zT_putI, zT_putZ, zT_putJ, zT_putR, zT_ald0, zT_lald, zT_aald, zT_iast, zT_zast, zT_bast, zT_last, zT_aast, zT_iret, zT_nret, zT_aret, zT_vret, zT_oi, zT_mm, zT_ialX, zT_S1, zT_S2, zT_S3, zT_V0, zT_V1, zT_V2, zT_V3, zT_V4, zT_V5, zT_V6, zT_I0, zT_I1, zT_I2, zlg, zlset, zlpr, zent, zok, va_rf, List.length_cons, List.length_nil, List.replicate, List.cons_append, List.nil_append, List.append_nil, Option.toList_some, Option.toList_none, Option.toList, Nat.reduceAdd, Nat.reduceSub, Nat.reduceLeDiff, Nat.zero_add, Nat.zero_le, true_and, and_true, Nat.le_refl, ge_iff_le, Nat.reduceEqDiff]
            refine ⟨hin, hin, hin, fun h2 => ?_, fun h2 => ?_⟩
            · have h0 : r d = 0 := by
                rcases Nat.eq_zero_or_pos (r d) with z | z
                · exact z
                · rw [if_pos z] at hv
                  rw [hv] at h2
                  exact absurd h2 (nI_nm1 (Nat.lt_trans (way d hlt z).1 (by decide)))
              have hpf : wpo r d = false := by
                cases z : wpo r d with
                | false => rfl
                | true => exact absurd (wpo_t.mp z) (by omega)
              have hw1 : wct (wpo r) (d + 1) = wct (wpo r) d := by
                show wct (wpo r) d + _ = _
                rw [hpf]
                rfl
              refine nx1 _ _ hs2 hc2 _ _ _ (by rw [hw1]) ?_ ?_
              · show _ = nI (wsm r d + r d)
                rw [h0]; rfl
              · rw [hw1]
                by_cases z : wct (wpo r) d = 0
                · rw [if_pos z, if_pos z]
                · rw [if_neg z, if_neg z]
                  show _ = nI (if d = 0 then 0 else if r (wfg r d) < r d then d else wfg r d)
                  rw [if_neg (fun q => by subst q; exact z rfl), if_neg (by omega)]
            · have hp : 0 < r d := by
                rcases Nat.eq_zero_or_pos (r d) with z | z
                · rw [if_neg (by omega)] at hv
                  exact absurd hv h2
                · exact z
              have es := hsv hp
              rw [if_pos hp] at hv
              subst es
              subst hv
              obtain ⟨y1, y2, y3, y4, y5, y6, y7⟩ := way d hlt hp
              have hpt := wpo_t.mpr hp
              have hw1 : wct (wpo r) (d + 1) = wct (wpo r) d + 1 := by
                show wct (wpo r) d + _ = _
                rw [hpt]
                rfl
              have hw2 : wfg r (d + 1) = if d = 0 then 0 else if r (wfg r d) < r d then d else wfg r d := rfl
              rw [e9, nI_clamp (n := mI w c) (by omega), nI_clamp (n := mI w (wnx w h' c d)) (by omega), hHc, y2, y3]
              have hins : vp_in (nI (mI w (wnx w h' c d))) 120 := vp_in_nI y1 (by decide)
              have S139 : ∀ l, wfg r (d + 1) = d → zb_X8_share_139 K J (zwI (zwI M' 214 d (nI (mI w (wnx w h' c d)))) 215 d 0) [some (.ref 200), some (.int (nI (mI w c))), some (.int (nI sort)), some (.int (nI (wct (wpo r) d) + 1)), some (.int (nI (wsm r d) + nI (r d))), some (.int l), some (.int (nI d)), some (.int (nI (mI w (wnx w h' c d)))), none, none] [] := by
                intro l hl
                simp only [zb_X8_share_139, zb_X8_share_146, zT_push, zT_bin, zT_div, zT_bil, zT_shl, zT_un, zT_i2l, zT_l2i, zT_lcmp, zT_ild, zT_lld, zT_ald, zT_ist, zT_lst, zT_ast, zT_iinc, zT_dup, zT_dup2, zT_pop, zT_if1, zT_if2, zT_ifn, zT_getI, zT_getJ, zT_getR, zT_putI, zT_putZ, zT_putJ, zT_putR, zT_ald0, zT_lald, zT_aald, zT_iast, zT_zast, zT_bast, zT_last, zT_aast, zT_iret, zT_nret, zT_aret, zT_vret, zT_oi, zT_mm, zT_ialX, zT_S1, zT_S2, zT_S3, zT_V0, zT_V1, zT_V2, zT_V3, zT_V4, zT_V5, zT_V6, zT_I0, zT_I1, zT_I2, zlg, zlset, zlpr, zent, zok, va_rf, List.length_cons, List.length_nil, List.replicate, List.cons_append, List.nil_append, List.append_nil, Option.toList_some, Option.toList_none, Option.toList, Nat.reduceAdd, Nat.reduceSub, Nat.reduceLeDiff, Nat.zero_add, Nat.zero_le, true_and, and_true, Nat.le_refl, ge_iff_le, Nat.reduceEqDiff]
                refine nx1 _ _ hs2 hc2 _ _ _ (by rw [hw1]; exact nI_1 _) (nI_add _ _) ?_
                rw [if_neg (by omega), hl]
              refine ⟨hinc, hins, ?_⟩
              by_cases z : wct (wpo r) d = 0
              · rw [if_pos z]
                refine ⟨fun _ => S139 _ ?_, fun q => absurd (by decide) q⟩
                rw [hw2]
                by_cases zd : d = 0
                · rw [if_pos zd, zd]
                · rw [if_neg zd, if_pos]
                  rw [wct_0 z (show wfg r d < d by have := wfg_le r d; omega)]
                  exact hp
              · rw [if_neg z]
                obtain ⟨f1, f2⟩ := wfg_pos z
                obtain ⟨u1, u2, u3, u4, u5, u6, u7⟩ := way (wfg r d) (by omega) f2
                have hg := (hcc (wfg r d) f1).1
                rw [if_pos f2] at hg
                rw [nI_clamp (n := wfg r d) (by omega), zup_n (Nat.ne_of_lt f1), hg, nI_clamp (n := mI w (wnx w h' c (wfg r d))) (by omega), u2]
                refine ⟨fun q => absurd q (Int32.not_lt.mpr ((nI_leI (a := 0) (by decide) (by omega)).mpr (Nat.zero_le _))), fun _ => ⟨hins, vp_in_nI (by omega) (by decide), vp_in_nI u1 (by decide), fun q => ?_, fun q => S139 _ ?_⟩⟩
                · have := zn_ge' q (by omega) (by omega)
                  simp only [zb_X8_share_146, zT_push, zT_bin, zT_div, zT_bil, zT_shl, zT_un, zT_i2l, zT_l2i, zT_lcmp, zT_ild, zT_lld, zT_ald, zT_ist, zT_lst, zT_ast, zT_iinc, zT_dup, zT_dup2, zT_pop, zT_if1, zT_if2, zT_ifn, zT_getI, zT_getJ, zT_getR, zT_putI, zT_putZ, zT_putJ, zT_putR, zT_ald0, zT_lald, zT_aald, zT_iast, zT_zast, zT_bast, zT_last, zT_aast, zT_iret, zT_nret, zT_aret, zT_vret, zT_oi, zT_mm, zT_ialX, zT_S1, zT_S2, zT_S3, zT_V0, zT_V1, zT_V2, zT_V3, zT_V4, zT_V5, zT_V6, zT_I0, zT_I1, zT_I2, zlg, zlset, zlpr, zent, zok, va_rf, List.length_cons, List.length_nil, List.replicate, List.cons_append, List.nil_append, List.append_nil, Option.toList_some, Option.toList_none, Option.toList, Nat.reduceAdd, Nat.reduceSub, Nat.reduceLeDiff, Nat.zero_add, Nat.zero_le, true_and, and_true, Nat.le_refl, ge_iff_le, Nat.reduceEqDiff]
                  refine nx1 _ _ hs2 hc2 _ _ _ (by rw [hw1]; exact nI_1 _) (nI_add _ _) ?_
                  rw [if_neg (by omega), hw2, if_neg (by omega), if_neg (by omega)]
                · have := zn_ge q (by omega) (by omega)
                  rw [hw2, if_neg (by omega), if_pos (by omega)]
          have S64 : ∀ s, r d = 0 → zb_X8_share_64 K J M' [some (.ref 200), some (.int (nI (mI w c))), some (.int (nI sort)), some (.int (nI (wct (wpo r) d))), some (.int (nI (wsm r d))), some (.int (if wct (wpo r) d = 0 then -1 else nI (wfg r d))), some (.int (nI d)), some (.int s), none, none] [.int (nI d), .ref 214] := by
            intro s h0
            simp only [zb_X8_share_64, zT_push, zT_bin, zT_div, zT_bil, zT_shl, zT_un, zT_i2l, zT_l2i, zT_lcmp, zT_ild, zT_lld, zT_ald, zT_ist, zT_lst, zT_ast, zT_iinc, zT_dup, zT_dup2, zT_pop, zT_if1, zT_if2, zT_ifn, zT_getI, zT_getJ, zT_getR, zT_putI, zT_putZ, zT_putJ, zT_putR, zT_ald0, zT_lald, zT_aald, zT_iast, zT_zast, zT_bast, zT_last, zT_aast, zT_iret, zT_nret, zT_aret, zT_vret, zT_oi, zT_mm, zT_ialX, zT_S1, zT_S2, zT_S3, zT_V0, zT_V1, zT_V2, zT_V3, zT_V4, zT_V5, zT_V6, zT_I0, zT_I1, zT_I2, zlg, zlset, zlpr, zent, zok, va_rf, List.length_cons, List.length_nil, List.replicate, List.cons_append, List.nil_append, List.append_nil, Option.toList_some, Option.toList_none, Option.toList, Nat.reduceAdd, Nat.reduceSub, Nat.reduceLeDiff, Nat.zero_add, Nat.zero_le, true_and, and_true, Nat.le_refl, ge_iff_le, Nat.reduceEqDiff]
            exact S70 _ _ (by rw [h0]; rfl) (fun z => by omega)
          unfold zc_X8_sideOf
          dsimp only
          refine ⟨rfl, w, h', c, d, by rw [e0]; exact w1, by rw [e0]; exact w2, b1, b2, b3, b4, hc, rfl, rfl, hlt, ?_⟩
          unfold mnb
          cases hnb : wnb w h' c d with
          | none =>
            simp only [eR, r29, zT_push, zT_bin, zT_div, zT_bil, zT_shl, zT_un, zT_i2l, zT_l2i, zT_lcmp, zT_ild, zT_lld, zT_ald, zT_ist, zT_lst, zT_ast, zT_iinc, zT_dup, zT_dup2, zT_pop, zT_if1, zT_if2, zT_ifn, zT_getI, zT_getJ, zT_getR, zT_putI, zT_putZ, zT_putJ, zT_putR, zT_ald0, zT_lald, zT_aald, zT_iast, zT_zast, zT_bast, zT_last, zT_aast, zT_iret, zT_nret, zT_aret, zT_vret, zT_oi, zT_mm, zT_ialX, zT_S1, zT_S2, zT_S3, zT_V0, zT_V1, zT_V2, zT_V3, zT_V4, zT_V5, zT_V6, zT_I0, zT_I1, zT_I2, zlg, zlset, zlpr, zent, zok, va_rf, List.length_cons, List.length_nil, List.replicate, List.cons_append, List.nil_append, List.append_nil, Option.toList_some, Option.toList_none, Option.toList, Nat.reduceAdd, Nat.reduceSub, Nat.reduceLeDiff, Nat.zero_add, Nat.zero_le, true_and, and_true, Nat.le_refl, ge_iff_le, Nat.reduceEqDiff]
            exact ⟨fun _ => S64 _ (hno d hlt hnb), fun q => absurd trivial q⟩
          | some y =>
            obtain ⟨y1, y2, y3⟩ := hso' d y hlt hnb
            simp only [zsh_200, zsh_209, zsh_210, eR, r24, r25, r29, e9, e10, zT_push, zT_bin, zT_div, zT_bil, zT_shl, zT_un, zT_i2l, zT_l2i, zT_lcmp, zT_ild, zT_lld, zT_ald, zT_ist, zT_lst, zT_ast, zT_iinc, zT_dup, zT_dup2, zT_pop, zT_if1, zT_if2, zT_ifn, zT_getI, zT_getJ, zT_getR, zT_putI, zT_putZ, zT_putJ, zT_putR, zT_ald0, zT_lald, zT_aald, zT_iast, zT_zast, zT_bast, zT_last, zT_aast, zT_iret, zT_nret, zT_aret, zT_vret, zT_oi, zT_mm, zT_ialX, zT_S1, zT_S2, zT_S3, zT_V0, zT_V1, zT_V2, zT_V3, zT_V4, zT_V5, zT_V6, zT_I0, zT_I1, zT_I2, zlg, zlset, zlpr, zent, zok, va_rf, List.length_cons, List.length_nil, List.replicate, List.cons_append, List.nil_append, List.append_nil, Option.toList_some, Option.toList_none, Option.toList, Nat.reduceAdd, Nat.reduceSub, Nat.reduceLeDiff, Nat.zero_add, Nat.zero_le, true_and, and_true, Nat.le_refl, ge_iff_le, Nat.reduceEqDiff]
            have y120 := mI_120 b2 b4 y1
            have hiny : vp_in (nI (mI w y)) 120 := vp_in_nI y120 (by decide)
            rw [nI_clamp (n := mI w c) (by omega), nI_clamp (n := mI w y) (by omega), (hH y y1).1, hHc, hD y y1]
            have hHy := (hH y y1).2
            refine ⟨fun q => absurd q (nI_nm1 (by omega)), fun _ => ⟨hiny, fun q => ⟨hiny, hinc, fun q2 => S70 _ _ ?_ (fun _ => rfl), fun q2 => S64 _ ?_⟩, fun q => S64 _ ?_⟩⟩
            · have e : D y = false := by
                cases z : D y with
                | false => rfl
                | true => rw [z, if_pos rfl] at q; exact absurd q (by decide)
              have := (nI_ltI (by omega) (by omega)).mp q2
              rw [e, if_neg (by decide)] at y3
              rw [if_pos (by omega), y2]
            · have e : D y = false := by
                cases z : D y with
                | false => rfl
                | true => rw [z, if_pos rfl] at q; exact absurd q (by decide)
              have : ¬ H y < H c := fun z => q2 ((nI_ltI (by omega) (by omega)).mpr z)
              rw [e, if_neg (by decide)] at y3
              omega
            · have e : D y = true := by
                cases z : D y with
                | true => rfl
                | false => rw [z, if_neg (by decide)] at q; exact absurd rfl q
              rw [e, if_pos rfl] at y3
              exact y3
      · have e9 : M'.2.1 209 = M.2.1 209 := hs.at (by simp)
        have e11 : M'.2.1 211 = M.2.1 211 := hs.at (by simp)
        have eR := hs.R
        simp only [zB_X8_share, zb_X8_share_190, ↓reduceIte, zsh_200, zsh_209, zsh_211, zsh_214, zsh_215, eR, r24, r26, r29, r30, e9, e11, Nat.reduceEqDiff, zT_push, zT_bin, zT_div, zT_bil, zT_shl, zT_un, zT_i2l, zT_l2i, zT_lcmp, zT_ild, zT_lld, zT_ald, zT_ist, zT_lst, zT_ast, zT_iinc, zT_dup, zT_dup2, zT_pop, zT_if1, zT_if2, zT_ifn, zT_getI, zT_getJ, zT_getR, zT_putI, zT_putZ, zT_putJ, zT_putR, zT_ald0, zT_lald, zT_aald, zT_iast, zT_zast, zT_bast, zT_last, zT_aast, zT_iret, zT_nret, zT_aret, zT_vret, zT_oi, zT_mm, zT_ialX, zT_S1, zT_S2, zT_S3, zT_V0, zT_V1, zT_V2, zT_V3, zT_V4, zT_V5, zT_V6, zT_I0, zT_I1, zT_I2, zlg, zlset, zlpr, zent, zok, va_rf, List.length_cons, List.length_nil, List.replicate, List.cons_append, List.nil_append, List.append_nil, Option.toList_some, Option.toList_none, Option.toList, Nat.reduceAdd, Nat.reduceSub, Nat.reduceLeDiff, Nat.zero_add, Nat.zero_le, true_and, and_true, Nat.le_refl, ge_iff_le, Nat.reduceEqDiff]
        have hlo : ∀ o, o < d + 1 → 0 < r o → r d = 0 → o < d := fun o q1 q2 q3 => by
          rcases Nat.lt_or_ge o d with z | z
          · exact z
          · have e : o = d := by omega
            rw [e] at q2
            omega
        have hm4 := wct_le (wpo r) 4
        have hin : ¬ (4 : Int32) ≤ nI d → vp_in (nI d) 4 := fun h1 => vp_in_nI (zn_ge (b := 4) h1 (by omega) (by omega)) (by decide)
        obtain ⟨hB4, hS4, hSb⟩ := hBS hm0 hs0
        rw [nI_clamp (n := d) (by omega), nI_clamp (n := mI w c) (by omega), hf, hHc]
        refine ⟨fun h1 => ?_, fun h1 => ?_⟩
        · have := zn_ge' (b := 4) h1 (by omega) (by omega)
          have e : d = 4 := by omega
          subst e
          exact hJ 8 (by omega) 283 (by simp) _ _ _ ⟨hs, Or.inr ⟨⟨hs0, hm0, hsd⟩, Or.inr ⟨rfl, 0, l, _, rfl, by omega, fun o ho => absurd ho (Nat.not_lt_zero _), fun o _ ho hp => hb o ho hp, rfl, rfl⟩⟩⟩
        · have hlt := zn_ge (b := 4) h1 (by omega) (by omega)
          have hsum : wsm bs (d + 1) ≤ f := Nat.le_trans (wsm_mn (by omega)) hB4
          have hsum2 : wsm bs (d + 1) = wsm bs d + bs d := rfl
          refine ⟨hin h1, fun h2 => ?_, fun h2 => ?_⟩
          · have h0 := hwn M' d hlt (hsd d hlt) h2
            simp only [zb_X8_share_271, zT_push, zT_bin, zT_div, zT_bil, zT_shl, zT_un, zT_i2l, zT_l2i, zT_lcmp, zT_ild, zT_lld, zT_ald, zT_ist, zT_lst, zT_ast, zT_iinc, zT_dup, zT_dup2, zT_pop, zT_if1, zT_if2, zT_ifn, zT_getI, zT_getJ, zT_getR, zT_putI, zT_putZ, zT_putJ, zT_putR, zT_ald0, zT_lald, zT_aald, zT_iast, zT_zast, zT_bast, zT_last, zT_aast, zT_iret, zT_nret, zT_aret, zT_vret, zT_oi, zT_mm, zT_ialX, zT_S1, zT_S2, zT_S3, zT_V0, zT_V1, zT_V2, zT_V3, zT_V4, zT_V5, zT_V6, zT_I0, zT_I1, zT_I2, zlg, zlset, zlpr, zent, zok, va_rf, List.length_cons, List.length_nil, List.replicate, List.cons_append, List.nil_append, List.append_nil, Option.toList_some, Option.toList_none, Option.toList, Nat.reduceAdd, Nat.reduceSub, Nat.reduceLeDiff, Nat.zero_add, Nat.zero_le, true_and, and_true, Nat.le_refl, ge_iff_le, Nat.reduceEqDiff]
            refine hJ (14 - (d + 1)) (by omega) 190 (by simp) _ _ _ ⟨hs, Or.inr ⟨⟨hs0, hm0, hsd⟩, Or.inl ⟨rfl, d + 1, l, rfl, hlt, fun o ho hp => hb o (hlo o ho hp h0) hp, ?_, rfl⟩⟩⟩
            rw [nI_1, show wsm bs (d + 1) = wsm bs d by rw [hsum2, hSb d h0]; rfl]
          · have hp := hwy M' d hlt (hsd d hlt) h2
            obtain ⟨y1, y2, y3, y4, y5, y6, y7⟩ := way d hlt hp
            have hd214 := hsd d hlt
            rw [if_pos hp] at hd214
            have S258 : ∀ v, v = nI (bs d) → zb_X8_share_258 K J M' [some (.ref 200), some (.int (nI (mI w c))), some (.int (nI sort)), some (.int (nI (wct (wpo r) 4))), some (.int (nI (wsm r 4))), some (.int l), some (.int (nI (f - wsm bs d))), some (.int (nI d)), none, none] [.int v, .int (nI d), .ref 215] := by
              intro v hv
              simp only [zb_X8_share_258, zb_X8_share_271, zsh_200, zsh_215, zwI_R, eR, r30, nI_clamp (show d < 2 ^ 31 by omega), zwI_L, zwI_I, zwI_J, zwI_R, zwJ_L, zwJ_I, zwJ_J, zwJ_R, zwR_L, zwR_I, zwR_J, zwR_R, zw2_s, zw2_n, ne_eq, not_false_eq_true, reduceCtorEq, not_true_eq_false, Nat.reduceEqDiff, zup_s, zT_push, zT_bin, zT_div, zT_bil, zT_shl, zT_un, zT_i2l, zT_l2i, zT_lcmp, zT_ild, zT_lld, zT_ald, zT_ist, zT_lst, zT_ast, zT_iinc, zT_dup, zT_dup2, zT_pop, zT_if1, zT_if2, zT_ifn, zT_getI, zT_getJ, zT_getR, zT_putI, zT_putZ, zT_putJ, zT_putR, zT_ald0, zT_lald, zT_aald, zT_iast, zT_zast, zT_bast, zT_last, zT_aast, zT_iret, zT_nret, zT_aret, zT_vret, zT_oi, zT_mm, zT_ialX, zT_S1, zT_S2, zT_S3, zT_V0, zT_V1, zT_V2, zT_V3, zT_V4, zT_V5, zT_V6, zT_I0, zT_I1, zT_I2, zlg, zlset, zlpr, zent, zok, va_rf, List.length_cons, List.length_nil, List.replicate, List.cons_append, List.nil_append, List.append_nil, Option.toList_some, Option.toList_none, Option.toList, Nat.reduceAdd, Nat.reduceSub, Nat.reduceLeDiff, Nat.zero_add, Nat.zero_le, true_and, and_true, Nat.le_refl, ge_iff_le, Nat.reduceEqDiff]
              refine ⟨hin h1, hin h1, hJ (14 - (d + 1)) (by omega) 190 (by simp) _ _ _ ⟨hs.w (by simp), Or.inr ⟨⟨hs0, hm0, fun o ho => ?_⟩, Or.inl ⟨rfl, d + 1, l, rfl, hlt, fun o ho hp => ?_, ?_, rfl⟩⟩⟩⟩
              · simp only [zwI_L, zwI_I, zwI_J, zwI_R, zwJ_L, zwJ_I, zwJ_J, zwJ_R, zwR_L, zwR_I, zwR_J, zwR_R, zw2_s, zw2_n, ne_eq, not_false_eq_true, reduceCtorEq, not_true_eq_false, Nat.reduceEqDiff]
                exact hsd o ho
              · simp only [zwI_L, zwI_I, zwI_J, zwI_R, zwJ_L, zwJ_I, zwJ_J, zwJ_R, zwR_L, zwR_I, zwR_J, zwR_R, zw2_s, zw2_n, ne_eq, not_false_eq_true, reduceCtorEq, not_true_eq_false, Nat.reduceEqDiff]
                by_cases q : o = d
                · subst q; rw [zup_s]; exact hv
                · rw [zup_n q]; exact hb o (by omega) hp
              · rw [nI_1, hsum2, hv]
                have : nI (f - wsm bs d) - nI (bs d) = nI (f - (wsm bs d + bs d)) := by
                  rw [Nat.sub_add_eq]
                  exact pk_sub (by omega)
                rw [this]
            rw [hd214, nI_clamp (n := mI w (wnx w h' c d)) (by omega), y2, y3, pk_mul, pk_div (by omega) (by omega) (by omega), pk_div (by omega) hS4 (by omega)]
            refine ⟨fun h3 => ⟨hinc, nI_ne0 (by omega) (by have := wct_le (wpo r) 4; omega), S258 _ ?_⟩, fun h3 => ⟨hinc, hinc, hin h1, vp_in_nI y1 (by decide), nI_ne0 hS4 (by omega), S258 _ ?_⟩⟩
            · have e1 : sort = 1 := (nI_eq (b := 1) (by omega) (by decide)).mp h3
              rw [hbs]
              show _ = nI (if sort = 1 then _ else _)
              rw [if_pos e1, if_pos hp]
            · have e1 : ¬ sort = 1 := fun z => h3 (by rw [z]; rfl)
              rw [hbs]
              show _ = nI (if sort = 1 then _ else _)
              rw [if_neg e1]
      · have e9 : M'.2.1 209 = M.2.1 209 := hs.at (by simp)
        have e11 : M'.2.1 211 = M.2.1 211 := hs.at (by simp)
        have eR := hs.R
        simp only [zB_X8_share, zb_X8_share_283, ↓reduceIte, zsh_200, zsh_209, zsh_211, zsh_214, zsh_215, eR, r24, r26, r29, r30, e9, e11, Nat.reduceEqDiff, zT_push, zT_bin, zT_div, zT_bil, zT_shl, zT_un, zT_i2l, zT_l2i, zT_lcmp, zT_ild, zT_lld, zT_ald, zT_ist, zT_lst, zT_ast, zT_iinc, zT_dup, zT_dup2, zT_pop, zT_if1, zT_if2, zT_ifn, zT_getI, zT_getJ, zT_getR, zT_putI, zT_putZ, zT_putJ, zT_putR, zT_ald0, zT_lald, zT_aald, zT_iast, zT_zast, zT_bast, zT_last, zT_aast, zT_iret, zT_nret, zT_aret, zT_vret, zT_oi, zT_mm, zT_ialX, zT_S1, zT_S2, zT_S3, zT_V0, zT_V1, zT_V2, zT_V3, zT_V4, zT_V5, zT_V6, zT_I0, zT_I1, zT_I2, zlg, zlset, zlpr, zent, zok, va_rf, List.length_cons, List.length_nil, List.replicate, List.cons_append, List.nil_append, List.append_nil, Option.toList_some, Option.toList_none, Option.toList, Nat.reduceAdd, Nat.reduceSub, Nat.reduceLeDiff, Nat.zero_add, Nat.zero_le, true_and, and_true, Nat.le_refl, ge_iff_le, Nat.reduceEqDiff]
        have hlo : ∀ o, o < d + 1 → 0 < r o → r d = 0 → o < d := fun o q1 q2 q3 => by
          rcases Nat.lt_or_ge o d with z | z
          · exact z
          · have e : o = d := by omega
            rw [e] at q2
            omega
        have hm4 := wct_le (wpo r) 4
        have hin : ¬ (4 : Int32) ≤ nI d → vp_in (nI d) 4 := fun h1 => vp_in_nI (zn_ge (b := 4) h1 (by omega) (by omega)) (by decide)
        obtain ⟨hB4, hS4, hSb⟩ := hBS hm0 hs0
        rw [nI_clamp (n := d) (by omega)]
        refine ⟨fun h1 => ⟨rfl, ?_⟩, fun h1 => ?_⟩
        · have := zn_ge' (b := 4) h1 (by omega) (by omega)
          have e : d = 4 := by omega
          subst e
          have := h M' hs hsd hg
          rw [if_neg hm0] at this
          exact this
        · have hlt := zn_ge (b := 4) h1 (by omega) (by omega)
          have hwl : wct (wpo r) d ≤ d := wct_le _ _
          refine ⟨hin h1, fun h2 => ?_, fun h2 => ?_⟩
          · have h0 := hwn M' d hlt (hsd d hlt) h2
            have hpf : wpo r d = false := by
              cases z : wpo r d with
              | false => rfl
              | true => exact absurd (wpo_t.mp z) (by omega)
            have hw1 : wct (wpo r) (d + 1) = wct (wpo r) d := by
              show wct (wpo r) d + _ = _
              rw [hpf]
              rfl
            simp only [zb_X8_share_346, zT_push, zT_bin, zT_div, zT_bil, zT_shl, zT_un, zT_i2l, zT_l2i, zT_lcmp, zT_ild, zT_lld, zT_ald, zT_ist, zT_lst, zT_ast, zT_iinc, zT_dup, zT_dup2, zT_pop, zT_if1, zT_if2, zT_ifn, zT_getI, zT_getJ, zT_getR, zT_putI, zT_putZ, zT_putJ, zT_putR, zT_ald0, zT_lald, zT_aald, zT_iast, zT_zast, zT_bast, zT_last, zT_aast, zT_iret, zT_nret, zT_aret, zT_vret, zT_oi, zT_mm, zT_ialX, zT_S1, zT_S2, zT_S3, zT_V0, zT_V1, zT_V2, zT_V3, zT_V4, zT_V5, zT_V6, zT_I0, zT_I1, zT_I2, zlg, zlset, zlpr, zent, zok, va_rf, List.length_cons, List.length_nil, List.replicate, List.cons_append, List.nil_append, List.append_nil, Option.toList_some, Option.toList_none, Option.toList, Nat.reduceAdd, Nat.reduceSub, Nat.reduceLeDiff, Nat.zero_add, Nat.zero_le, true_and, and_true, Nat.le_refl, ge_iff_le, Nat.reduceEqDiff]
            exact hJ (8 - (d + 1)) (by omega) 283 (by simp) _ _ _ ⟨hs, Or.inr ⟨⟨hs0, hm0, hsd⟩, Or.inr ⟨rfl, d + 1, l, _, rfl, hlt, fun o ho hp => hg o (hlo o ho hp h0) hp, fun o q1 q2 => hb o (by omega) q2, by rw [nI_1, hw1], rfl⟩⟩⟩
          · have hp := hwy M' d hlt (hsd d hlt) h2
            have hpt := wpo_t.mpr hp
            have hw1 : wct (wpo r) (d + 1) = wct (wpo r) d + 1 := by
              show wct (wpo r) d + _ = _
              rw [hpt]
              rfl
            have S319 : ∀ b, b < 1000 → wgv sort f r d = bs d + (if b < f - wsm bs 4 then 1 else 0) → zb_X8_share_319 K J M' [some (.ref 200), some (.int (nI (mI w c))), some (.int (nI sort)), some (.int (nI (wct (wpo r) 4))), some (.int (nI (wsm r 4))), some (.int l), some (.int (nI (f - wsm bs 4))), some (.int (nI (wct (wpo r) d))), some (.int (nI d)), t] [.int (nI b)] := by
              intro b hb1 hgv
              have S341 : ∀ v, v = nI (if b < f - wsm bs 4 then 1 else 0) → zb_X8_share_341 K J M' [some (.ref 200), some (.int (nI (mI w c))), some (.int (nI sort)), some (.int (nI (wct (wpo r) 4))), some (.int (nI (wsm r 4))), some (.int l), some (.int (nI (f - wsm bs 4))), some (.int (nI (wct (wpo r) d))), some (.int (nI d)), some (.int (nI b))] [.int v, .int (nI (bs d)), .int (nI d), .ref 215] := by
                intro v hv
                simp only [zb_X8_share_341, zb_X8_share_346, zsh_215, nI_clamp (show d < 2 ^ 31 by omega), zT_push, zT_bin, zT_div, zT_bil, zT_shl, zT_un, zT_i2l, zT_l2i, zT_lcmp, zT_ild, zT_lld, zT_ald, zT_ist, zT_lst, zT_ast, zT_iinc, zT_dup, zT_dup2, zT_pop, zT_if1, zT_if2, zT_ifn, zT_getI, zT_getJ, zT_getR, zT_putI, zT_putZ, zT_putJ, zT_putR, zT_ald0, zT_lald, zT_aald, zT_iast, zT_zast, zT_bast, zT_last, zT_aast, zT_iret, zT_nret, zT_aret, zT_vret, zT_oi, zT_mm, zT_ialX, zT_S1, zT_S2, zT_S3, zT_V0, zT_V1, zT_V2, zT_V3, zT_V4, zT_V5, zT_V6, zT_I0, zT_I1, zT_I2, zlg, zlset, zlpr, zent, zok, va_rf, List.length_cons, List.length_nil, List.replicate, List.cons_append, List.nil_append, List.append_nil, Option.toList_some, Option.toList_none, Option.toList, Nat.reduceAdd, Nat.reduceSub, Nat.reduceLeDiff, Nat.zero_add, Nat.zero_le, true_and, and_true, Nat.le_refl, ge_iff_le, Nat.reduceEqDiff]
                refine ⟨hin h1, hJ (8 - (d + 1)) (by omega) 283 (by simp) _ _ _ ⟨hs.w (by simp), Or.inr ⟨⟨hs0, hm0, fun o ho => ?_⟩, Or.inr ⟨rfl, d + 1, l, _, rfl, hlt, fun o ho hp => ?_, fun o q1 q2 hp => ?_, by rw [nI_1, hw1, nI_1], rfl⟩⟩⟩⟩
                · simp only [zwI_L, zwI_I, zwI_J, zwI_R, zwJ_L, zwJ_I, zwJ_J, zwJ_R, zwR_L, zwR_I, zwR_J, zwR_R, zw2_s, zw2_n, ne_eq, not_false_eq_true, reduceCtorEq, not_true_eq_false, Nat.reduceEqDiff]
                  exact hsd o ho
                · simp only [zwI_L, zwI_I, zwI_J, zwI_R, zwJ_L, zwJ_I, zwJ_J, zwJ_R, zwR_L, zwR_I, zwR_J, zwR_R, zw2_s, zw2_n, ne_eq, not_false_eq_true, reduceCtorEq, not_true_eq_false, Nat.reduceEqDiff]
                  by_cases q : o = d
                  · subst q; rw [zup_s, hgv, hv]; exact nI_add _ _
                  · rw [zup_n q]; exact hg o (by omega) hp
                · simp only [zwI_L, zwI_I, zwI_J, zwI_R, zwJ_L, zwJ_I, zwJ_J, zwJ_R, zwR_L, zwR_I, zwR_J, zwR_R, zw2_s, zw2_n, ne_eq, not_false_eq_true, reduceCtorEq, not_true_eq_false, Nat.reduceEqDiff]
                  rw [zup_n (by omega)]
                  exact hb o (by omega) q2 hp
              simp only [zb_X8_share_319, zsh_200, zsh_215, eR, r30, nI_clamp (show d < 2 ^ 31 by omega), hb d (Nat.le_refl _) hlt hp, zT_push, zT_bin, zT_div, zT_bil, zT_shl, zT_un, zT_i2l, zT_l2i, zT_lcmp, zT_ild, zT_lld, zT_ald, zT_ist, zT_lst, zT_ast, zT_iinc, zT_dup, zT_dup2, zT_pop, zT_if1, zT_if2, zT_ifn, zT_getI, zT_getJ, zT_getR, zT_putI, zT_putZ, zT_putJ, zT_putR, zT_ald0, zT_lald, zT_aald, zT_iast, zT_zast, zT_bast, zT_last, zT_aast, zT_iret, zT_nret, zT_aret, zT_vret, zT_oi, zT_mm, zT_ialX, zT_S1, zT_S2, zT_S3, zT_V0, zT_V1, zT_V2, zT_V3, zT_V4, zT_V5, zT_V6, zT_I0, zT_I1, zT_I2, zlg, zlset, zlpr, zent, zok, va_rf, List.length_cons, List.length_nil, List.replicate, List.cons_append, List.nil_append, List.append_nil, Option.toList_some, Option.toList_none, Option.toList, Nat.reduceAdd, Nat.reduceSub, Nat.reduceLeDiff, Nat.zero_add, Nat.zero_le, true_and, and_true, Nat.le_refl, ge_iff_le, Nat.reduceEqDiff]
              refine ⟨hin h1, fun h3 => S341 _ ?_, fun h3 => S341 _ ?_⟩
              · have := zn_ge' h3 (by omega) (by omega)
                rw [if_neg (by omega)]; rfl
              · have := zn_ge h3 (by omega) (by omega)
                rw [if_pos (by omega)]; rfl
            refine ⟨fun h3 => S319 _ (by omega) ?_, fun h3 => ?_⟩
            · have e1 : sort = 1 := (nI_eq (b := 1) (by omega) (by decide)).mp h3
              unfold wgv
              rw [if_neg (by omega), if_neg hs0, if_pos e1, hS1 e1 4, hbs]
              show _ = (if sort = 1 then _ else _) + _
              rw [if_pos e1, if_pos hp]
              have := Nat.div_add_mod f (wct (wpo r) 4)
              rw [show f - wct (wpo r) 4 * (f / wct (wpo r) 4) = f % wct (wpo r) 4 by omega]
            · have e1 : ¬ sort = 1 := fun z => h3 (by rw [z]; rfl)
              unfold zc_X8_restsAhead
              dsimp only
              refine ⟨rfl, by unfold zMr; rw [eR]; exact g1, w, h', H, D, c, d, f, b2, b4, hc, fun e he => by rw [e9]; exact hH e he, ?_, by rw [e11]; exact hf, hf1, rfl, rfl, hlt, by rw [← hr]; exact hp, by rw [← hr], ?_⟩
              · unfold msd
                rw [← hr]
                exact hsd
              · rw [← hr]
                refine S319 _ (Nat.lt_of_le_of_lt (wct_le _ _) (by decide)) ?_
                unfold wgv
                rw [if_neg (by omega), if_neg hs0, if_neg e1]
                have hb' : bs = fun j => f * r j / wsm r 4 := by
                  rw [hbs]
                  funext j
                  rw [if_neg e1]
                rw [hb']
    · intro J hJ
      simp only [zb_X8_share_0, zT_push, zT_bin, zT_div, zT_bil, zT_shl, zT_un, zT_i2l, zT_l2i, zT_lcmp, zT_ild, zT_lld, zT_ald, zT_ist, zT_lst, zT_ast, zT_iinc, zT_dup, zT_dup2, zT_pop, zT_if1, zT_if2, zT_ifn, zT_getI, zT_getJ, zT_getR, zT_putI, zT_putZ, zT_putJ, zT_putR, zT_ald0, zT_lald, zT_aald, zT_iast, zT_zast, zT_bast, zT_last, zT_aast, zT_iret, zT_nret, zT_aret, zT_vret, zT_oi, zT_mm, zT_ialX, zT_S1, zT_S2, zT_S3, zT_V0, zT_V1, zT_V2, zT_V3, zT_V4, zT_V5, zT_V6, zT_I0, zT_I1, zT_I2, zlg, zlset, zlpr, zent, zok, va_rf, List.length_cons, List.length_nil, List.replicate, List.cons_append, List.nil_append, List.append_nil, Option.toList_some, Option.toList_none, Option.toList, Nat.reduceAdd, Nat.reduceSub, Nat.reduceLeDiff, Nat.zero_add, Nat.zero_le, true_and, and_true, Nat.le_refl, ge_iff_le, Nat.reduceEqDiff]
      exact hJ 20 11 (by simp) _ _ _ ⟨zsm.rf, Or.inl ⟨rfl, 0, none, rfl, by omega, fun o ho => absurd ho (Nat.not_lt_zero _), rfl, rfl⟩⟩
  · exact h.elim
