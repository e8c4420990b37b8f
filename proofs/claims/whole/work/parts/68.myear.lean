/-! DeltaRunsModel year -/
theorem zd_X8_year_0 : decode cX8_year 0 = .ok (.aload_n 0, 1) := by decide +kernel
theorem zd_X8_year_1 : decode cX8_year 1 = .ok (.iload_n 2, 1) := by decide +kernel
theorem zd_X8_year_2 : decode cX8_year 2 = .ok (.invokevirtual 206, 3) := by decide +kernel
theorem zd_X8_year_5 : decode cX8_year 5 = .ok (.aload_n 0, 1) := by decide +kernel
theorem zd_X8_year_6 : decode cX8_year 6 = .ok (.getfield 7, 3) := by decide +kernel
theorem zd_X8_year_9 : decode cX8_year 9 = .ok (.aload_n 0, 1) := by decide +kernel
theorem zd_X8_year_10 : decode cX8_year 10 = .ok (.getfield 13, 3) := by decide +kernel
theorem zd_X8_year_13 : decode cX8_year 13 = .ok (.imul, 1) := by decide +kernel
theorem zd_X8_year_14 : decode cX8_year 14 = .ok (.istore_n 3, 1) := by decide +kernel
theorem zd_X8_year_15 : decode cX8_year 15 = .ok (.iconst 0, 1) := by decide +kernel
theorem zd_X8_year_16 : decode cX8_year 16 = .ok (.istore 4, 2) := by decide +kernel
theorem zd_X8_year_18 : decode cX8_year 18 = .ok (.iload 4, 2) := by decide +kernel
theorem zd_X8_year_20 : decode cX8_year 20 = .ok (.iload_n 3, 1) := by decide +kernel
theorem zd_X8_year_21 : decode cX8_year 21 = .ok (.if_icmp .ge 17, 3) := by decide +kernel
theorem zd_X8_year_24 : decode cX8_year 24 = .ok (.aload_n 0, 1) := by decide +kernel
theorem zd_X8_year_25 : decode cX8_year 25 = .ok (.getfield 57, 3) := by decide +kernel
theorem zd_X8_year_28 : decode cX8_year 28 = .ok (.iload 4, 2) := by decide +kernel
theorem zd_X8_year_30 : decode cX8_year 30 = .ok (.iconst 0, 1) := by decide +kernel
theorem zd_X8_year_31 : decode cX8_year 31 = .ok (.iastore, 1) := by decide +kernel
theorem zd_X8_year_32 : decode cX8_year 32 = .ok (.iinc 4 1, 3) := by decide +kernel
theorem zd_X8_year_35 : decode cX8_year 35 = .ok (.goto (-17), 3) := by decide +kernel
theorem zd_X8_year_38 : decode cX8_year 38 = .ok (.aload_n 0, 1) := by decide +kernel
theorem zd_X8_year_39 : decode cX8_year 39 = .ok (.getfield 57, 3) := by decide +kernel
theorem zd_X8_year_42 : decode cX8_year 42 = .ok (.aload_n 0, 1) := by decide +kernel
theorem zd_X8_year_43 : decode cX8_year 43 = .ok (.getfield 99, 3) := by decide +kernel
theorem zd_X8_year_46 : decode cX8_year 46 = .ok (.aload_n 0, 1) := by decide +kernel
theorem zd_X8_year_47 : decode cX8_year 47 = .ok (.getfield 19, 3) := by decide +kernel
theorem zd_X8_year_50 : decode cX8_year 50 = .ok (.iastore, 1) := by decide +kernel
theorem zd_X8_year_51 : decode cX8_year 51 = .ok (.aload_n 0, 1) := by decide +kernel
theorem zd_X8_year_52 : decode cX8_year 52 = .ok (.invokevirtual 209, 3) := by decide +kernel
theorem zd_X8_year_55 : decode cX8_year 55 = .ok (.iconst 0, 1) := by decide +kernel
theorem zd_X8_year_56 : decode cX8_year 56 = .ok (.istore 4, 2) := by decide +kernel
theorem zd_X8_year_58 : decode cX8_year 58 = .ok (.iload 4, 2) := by decide +kernel
theorem zd_X8_year_60 : decode cX8_year 60 = .ok (.iload_n 3, 1) := by decide +kernel
theorem zd_X8_year_61 : decode cX8_year 61 = .ok (.if_icmp .ge 101, 3) := by decide +kernel
theorem zd_X8_year_64 : decode cX8_year 64 = .ok (.aload_n 0, 1) := by decide +kernel
theorem zd_X8_year_65 : decode cX8_year 65 = .ok (.getfield 63, 3) := by decide +kernel
theorem zd_X8_year_68 : decode cX8_year 68 = .ok (.iload 4, 2) := by decide +kernel
theorem zd_X8_year_70 : decode cX8_year 70 = .ok (.iaload, 1) := by decide +kernel
theorem zd_X8_year_71 : decode cX8_year 71 = .ok (.istore 5, 2) := by decide +kernel
theorem zd_X8_year_73 : decode cX8_year 73 = .ok (.aload_n 0, 1) := by decide +kernel
theorem zd_X8_year_74 : decode cX8_year 74 = .ok (.getfield 60, 3) := by decide +kernel
theorem zd_X8_year_77 : decode cX8_year 77 = .ok (.iload 5, 2) := by decide +kernel
theorem zd_X8_year_79 : decode cX8_year 79 = .ok (.aload_n 0, 1) := by decide +kernel
theorem zd_X8_year_80 : decode cX8_year 80 = .ok (.iload 5, 2) := by decide +kernel
theorem zd_X8_year_82 : decode cX8_year 82 = .ok (.iload_n 1, 1) := by decide +kernel
theorem zd_X8_year_83 : decode cX8_year 83 = .ok (.bipush 12, 2) := by decide +kernel
theorem zd_X8_year_85 : decode cX8_year 85 = .ok (.idiv, 1) := by decide +kernel
theorem zd_X8_year_86 : decode cX8_year 86 = .ok (.invokevirtual 212, 3) := by decide +kernel
theorem zd_X8_year_89 : decode cX8_year 89 = .ok (.ifCond .ne 7, 3) := by decide +kernel
theorem zd_X8_year_92 : decode cX8_year 92 = .ok (.iconst 1, 1) := by decide +kernel
theorem zd_X8_year_93 : decode cX8_year 93 = .ok (.goto 4, 3) := by decide +kernel
theorem zd_X8_year_96 : decode cX8_year 96 = .ok (.iconst 0, 1) := by decide +kernel
theorem zd_X8_year_97 : decode cX8_year 97 = .ok (.bastore, 1) := by decide +kernel
theorem zd_X8_year_98 : decode cX8_year 98 = .ok (.iconst 0, 1) := by decide +kernel
theorem zd_X8_year_99 : decode cX8_year 99 = .ok (.istore 6, 2) := by decide +kernel
theorem zd_X8_year_101 : decode cX8_year 101 = .ok (.iload 6, 2) := by decide +kernel
theorem zd_X8_year_103 : decode cX8_year 103 = .ok (.iconst 4, 1) := by decide +kernel
theorem zd_X8_year_104 : decode cX8_year 104 = .ok (.if_icmp .ge 52, 3) := by decide +kernel
theorem zd_X8_year_107 : decode cX8_year 107 = .ok (.aload_n 0, 1) := by decide +kernel
theorem zd_X8_year_108 : decode cX8_year 108 = .ok (.getfield 60, 3) := by decide +kernel
theorem zd_X8_year_111 : decode cX8_year 111 = .ok (.iload 5, 2) := by decide +kernel
theorem zd_X8_year_113 : decode cX8_year 113 = .ok (.baload, 1) := by decide +kernel
theorem zd_X8_year_114 : decode cX8_year 114 = .ok (.ifCond .ne 42, 3) := by decide +kernel
theorem zd_X8_year_117 : decode cX8_year 117 = .ok (.aload_n 0, 1) := by decide +kernel
theorem zd_X8_year_118 : decode cX8_year 118 = .ok (.getfield 66, 3) := by decide +kernel
theorem zd_X8_year_121 : decode cX8_year 121 = .ok (.iload 6, 2) := by decide +kernel
theorem zd_X8_year_123 : decode cX8_year 123 = .ok (.iaload, 1) := by decide +kernel
theorem zd_X8_year_124 : decode cX8_year 124 = .ok (.iconst (-1), 1) := by decide +kernel
theorem zd_X8_year_125 : decode cX8_year 125 = .ok (.if_icmp .eq 25, 3) := by decide +kernel
theorem zd_X8_year_128 : decode cX8_year 128 = .ok (.aload_n 0, 1) := by decide +kernel
theorem zd_X8_year_129 : decode cX8_year 129 = .ok (.getfield 57, 3) := by decide +kernel
theorem zd_X8_year_132 : decode cX8_year 132 = .ok (.aload_n 0, 1) := by decide +kernel
theorem zd_X8_year_133 : decode cX8_year 133 = .ok (.getfield 66, 3) := by decide +kernel
theorem zd_X8_year_136 : decode cX8_year 136 = .ok (.iload 6, 2) := by decide +kernel
theorem zd_X8_year_138 : decode cX8_year 138 = .ok (.iaload, 1) := by decide +kernel
theorem zd_X8_year_139 : decode cX8_year 139 = .ok (.dup2, 1) := by decide +kernel
theorem zd_X8_year_140 : decode cX8_year 140 = .ok (.iaload, 1) := by decide +kernel
theorem zd_X8_year_141 : decode cX8_year 141 = .ok (.aload_n 0, 1) := by decide +kernel
theorem zd_X8_year_142 : decode cX8_year 142 = .ok (.getfield 69, 3) := by decide +kernel
theorem zd_X8_year_145 : decode cX8_year 145 = .ok (.iload 6, 2) := by decide +kernel
theorem zd_X8_year_147 : decode cX8_year 147 = .ok (.iaload, 1) := by decide +kernel
theorem zd_X8_year_148 : decode cX8_year 148 = .ok (.iadd, 1) := by decide +kernel
theorem zd_X8_year_149 : decode cX8_year 149 = .ok (.iastore, 1) := by decide +kernel
theorem zd_X8_year_150 : decode cX8_year 150 = .ok (.iinc 6 1, 3) := by decide +kernel
theorem zd_X8_year_153 : decode cX8_year 153 = .ok (.goto (-52), 3) := by decide +kernel
theorem zd_X8_year_156 : decode cX8_year 156 = .ok (.iinc 4 1, 3) := by decide +kernel
theorem zd_X8_year_159 : decode cX8_year 159 = .ok (.goto (-101), 3) := by decide +kernel
theorem zd_X8_year_162 : decode cX8_year 162 = .ok (.iconst 1, 1) := by decide +kernel
theorem zd_X8_year_163 : decode cX8_year 163 = .ok (.iload_n 1, 1) := by decide +kernel
theorem zd_X8_year_164 : decode cX8_year 164 = .ok (.iconst 2, 1) := by decide +kernel
theorem zd_X8_year_165 : decode cX8_year 165 = .ok (.idiv, 1) := by decide +kernel
theorem zd_X8_year_166 : decode cX8_year 166 = .ok (.bipush 6, 2) := by decide +kernel
theorem zd_X8_year_168 : decode cX8_year 168 = .ok (.irem, 1) := by decide +kernel
theorem zd_X8_year_169 : decode cX8_year 169 = .ok (.iadd, 1) := by decide +kernel
theorem zd_X8_year_170 : decode cX8_year 170 = .ok (.istore 4, 2) := by decide +kernel
theorem zd_X8_year_172 : decode cX8_year 172 = .ok (.iconst 0, 1) := by decide +kernel
theorem zd_X8_year_173 : decode cX8_year 173 = .ok (.istore 5, 2) := by decide +kernel
theorem zd_X8_year_175 : decode cX8_year 175 = .ok (.iload 5, 2) := by decide +kernel
theorem zd_X8_year_177 : decode cX8_year 177 = .ok (.iload_n 3, 1) := by decide +kernel
theorem zd_X8_year_178 : decode cX8_year 178 = .ok (.if_icmp .ge 164, 3) := by decide +kernel
theorem zd_X8_year_181 : decode cX8_year 181 = .ok (.aload_n 0, 1) := by decide +kernel
theorem zd_X8_year_182 : decode cX8_year 182 = .ok (.getfield 50, 3) := by decide +kernel
theorem zd_X8_year_185 : decode cX8_year 185 = .ok (.iload 5, 2) := by decide +kernel
theorem zd_X8_year_187 : decode cX8_year 187 = .ok (.iaload, 1) := by decide +kernel
theorem zd_X8_year_188 : decode cX8_year 188 = .ok (.aload_n 0, 1) := by decide +kernel
theorem zd_X8_year_189 : decode cX8_year 189 = .ok (.getfield 16, 3) := by decide +kernel
theorem zd_X8_year_192 : decode cX8_year 192 = .ok (.if_icmp .ge 54, 3) := by decide +kernel
theorem zd_X8_year_195 : decode cX8_year 195 = .ok (.aload_n 0, 1) := by decide +kernel
theorem zd_X8_year_196 : decode cX8_year 196 = .ok (.getfield 50, 3) := by decide +kernel
theorem zd_X8_year_199 : decode cX8_year 199 = .ok (.iload 5, 2) := by decide +kernel
theorem zd_X8_year_201 : decode cX8_year 201 = .ok (.iaload, 1) := by decide +kernel
theorem zd_X8_year_202 : decode cX8_year 202 = .ok (.aload_n 0, 1) := by decide +kernel
theorem zd_X8_year_203 : decode cX8_year 203 = .ok (.getfield 57, 3) := by decide +kernel
theorem zd_X8_year_206 : decode cX8_year 206 = .ok (.iload 5, 2) := by decide +kernel
theorem zd_X8_year_208 : decode cX8_year 208 = .ok (.iaload, 1) := by decide +kernel
theorem zd_X8_year_209 : decode cX8_year 209 = .ok (.iload 4, 2) := by decide +kernel
theorem zd_X8_year_211 : decode cX8_year 211 = .ok (.imul, 1) := by decide +kernel
theorem zd_X8_year_212 : decode cX8_year 212 = .ok (.bipush 16, 2) := by decide +kernel
theorem zd_X8_year_214 : decode cX8_year 214 = .ok (.idiv, 1) := by decide +kernel
theorem zd_X8_year_215 : decode cX8_year 215 = .ok (.iadd, 1) := by decide +kernel
theorem zd_X8_year_216 : decode cX8_year 216 = .ok (.istore 6, 2) := by decide +kernel
theorem zd_X8_year_218 : decode cX8_year 218 = .ok (.aload_n 0, 1) := by decide +kernel
theorem zd_X8_year_219 : decode cX8_year 219 = .ok (.getfield 50, 3) := by decide +kernel
theorem zd_X8_year_222 : decode cX8_year 222 = .ok (.iload 5, 2) := by decide +kernel
theorem zd_X8_year_224 : decode cX8_year 224 = .ok (.iload 6, 2) := by decide +kernel
theorem zd_X8_year_226 : decode cX8_year 226 = .ok (.aload_n 0, 1) := by decide +kernel
theorem zd_X8_year_227 : decode cX8_year 227 = .ok (.getfield 16, 3) := by decide +kernel
theorem zd_X8_year_230 : decode cX8_year 230 = .ok (.if_icmp .le 10, 3) := by decide +kernel
theorem zd_X8_year_233 : decode cX8_year 233 = .ok (.aload_n 0, 1) := by decide +kernel
theorem zd_X8_year_234 : decode cX8_year 234 = .ok (.getfield 16, 3) := by decide +kernel
theorem zd_X8_year_237 : decode cX8_year 237 = .ok (.goto 5, 3) := by decide +kernel
theorem zd_X8_year_240 : decode cX8_year 240 = .ok (.iload 6, 2) := by decide +kernel
theorem zd_X8_year_242 : decode cX8_year 242 = .ok (.iastore, 1) := by decide +kernel
theorem zd_X8_year_243 : decode cX8_year 243 = .ok (.goto 93, 3) := by decide +kernel
theorem zd_X8_year_246 : decode cX8_year 246 = .ok (.aload_n 0, 1) := by decide +kernel
theorem zd_X8_year_247 : decode cX8_year 247 = .ok (.getfield 60, 3) := by decide +kernel
theorem zd_X8_year_250 : decode cX8_year 250 = .ok (.iload 5, 2) := by decide +kernel
theorem zd_X8_year_252 : decode cX8_year 252 = .ok (.baload, 1) := by decide +kernel
theorem zd_X8_year_253 : decode cX8_year 253 = .ok (.ifCond .eq 44, 3) := by decide +kernel
theorem zd_X8_year_256 : decode cX8_year 256 = .ok (.aload_n 0, 1) := by decide +kernel
theorem zd_X8_year_257 : decode cX8_year 257 = .ok (.getfield 50, 3) := by decide +kernel
theorem zd_X8_year_260 : decode cX8_year 260 = .ok (.iload 5, 2) := by decide +kernel
theorem zd_X8_year_262 : decode cX8_year 262 = .ok (.dup2, 1) := by decide +kernel
theorem zd_X8_year_263 : decode cX8_year 263 = .ok (.iaload, 1) := by decide +kernel
theorem zd_X8_year_264 : decode cX8_year 264 = .ok (.aload_n 0, 1) := by decide +kernel
theorem zd_X8_year_265 : decode cX8_year 265 = .ok (.getfield 57, 3) := by decide +kernel
theorem zd_X8_year_268 : decode cX8_year 268 = .ok (.iload 5, 2) := by decide +kernel
theorem zd_X8_year_270 : decode cX8_year 270 = .ok (.iaload, 1) := by decide +kernel
theorem zd_X8_year_271 : decode cX8_year 271 = .ok (.ifCond .le 20, 3) := by decide +kernel
theorem zd_X8_year_274 : decode cX8_year 274 = .ok (.aload_n 0, 1) := by decide +kernel
theorem zd_X8_year_275 : decode cX8_year 275 = .ok (.getfield 50, 3) := by decide +kernel
theorem zd_X8_year_278 : decode cX8_year 278 = .ok (.iload 5, 2) := by decide +kernel
theorem zd_X8_year_280 : decode cX8_year 280 = .ok (.iaload, 1) := by decide +kernel
theorem zd_X8_year_281 : decode cX8_year 281 = .ok (.sipush 200, 3) := by decide +kernel
theorem zd_X8_year_284 : decode cX8_year 284 = .ok (.if_icmp .ge 7, 3) := by decide +kernel
theorem zd_X8_year_287 : decode cX8_year 287 = .ok (.iconst 1, 1) := by decide +kernel
theorem zd_X8_year_288 : decode cX8_year 288 = .ok (.goto 4, 3) := by decide +kernel
theorem zd_X8_year_291 : decode cX8_year 291 = .ok (.iconst 0, 1) := by decide +kernel
theorem zd_X8_year_292 : decode cX8_year 292 = .ok (.iadd, 1) := by decide +kernel
theorem zd_X8_year_293 : decode cX8_year 293 = .ok (.iastore, 1) := by decide +kernel
theorem zd_X8_year_294 : decode cX8_year 294 = .ok (.goto 42, 3) := by decide +kernel
theorem zd_X8_year_297 : decode cX8_year 297 = .ok (.aload_n 0, 1) := by decide +kernel
theorem zd_X8_year_298 : decode cX8_year 298 = .ok (.getfield 57, 3) := by decide +kernel
theorem zd_X8_year_301 : decode cX8_year 301 = .ok (.iload 5, 2) := by decide +kernel
theorem zd_X8_year_303 : decode cX8_year 303 = .ok (.iaload, 1) := by decide +kernel
theorem zd_X8_year_304 : decode cX8_year 304 = .ok (.bipush 16, 2) := by decide +kernel
theorem zd_X8_year_306 : decode cX8_year 306 = .ok (.if_icmp .lt 30, 3) := by decide +kernel
theorem zd_X8_year_309 : decode cX8_year 309 = .ok (.aload_n 0, 1) := by decide +kernel
theorem zd_X8_year_310 : decode cX8_year 310 = .ok (.getfield 50, 3) := by decide +kernel
theorem zd_X8_year_313 : decode cX8_year 313 = .ok (.iload 5, 2) := by decide +kernel
theorem zd_X8_year_315 : decode cX8_year 315 = .ok (.dup2, 1) := by decide +kernel
theorem zd_X8_year_316 : decode cX8_year 316 = .ok (.iaload, 1) := by decide +kernel
theorem zd_X8_year_317 : decode cX8_year 317 = .ok (.aload_n 0, 1) := by decide +kernel
theorem zd_X8_year_318 : decode cX8_year 318 = .ok (.getfield 50, 3) := by decide +kernel
theorem zd_X8_year_321 : decode cX8_year 321 = .ok (.iload 5, 2) := by decide +kernel
theorem zd_X8_year_323 : decode cX8_year 323 = .ok (.iaload, 1) := by decide +kernel
theorem zd_X8_year_324 : decode cX8_year 324 = .ok (.ifCond .le 9, 3) := by decide +kernel
theorem zd_X8_year_327 : decode cX8_year 327 = .ok (.iload_n 1, 1) := by decide +kernel
theorem zd_X8_year_328 : decode cX8_year 328 = .ok (.iconst 2, 1) := by decide +kernel
theorem zd_X8_year_329 : decode cX8_year 329 = .ok (.irem, 1) := by decide +kernel
theorem zd_X8_year_330 : decode cX8_year 330 = .ok (.goto 4, 3) := by decide +kernel
theorem zd_X8_year_333 : decode cX8_year 333 = .ok (.iconst 0, 1) := by decide +kernel
theorem zd_X8_year_334 : decode cX8_year 334 = .ok (.isub, 1) := by decide +kernel
theorem zd_X8_year_335 : decode cX8_year 335 = .ok (.iastore, 1) := by decide +kernel
theorem zd_X8_year_336 : decode cX8_year 336 = .ok (.iinc 5 1, 3) := by decide +kernel
theorem zd_X8_year_339 : decode cX8_year 339 = .ok (.goto (-164), 3) := by decide +kernel
theorem zd_X8_year_342 : decode cX8_year 342 = .ok (.return_, 1) := by decide +kernel
def zb_X8_year_0 (K : zKt) (J : Nat → zPP) : zPP := zT_ald 0 (zT_ild 2 (zT_V1 zok 8 38 zc_X8_act (zT_ald 0 (zT_getI 8 2 38 (zT_ald 0 (zT_getI 8 3 38 (zT_bin (fun x y => x * y) (zT_ist 3 (zT_push (.int 0) (zT_ist 4 (J 18)))))))))))
theorem zbs_X8_year_0 {X : zCt} (hR : zRX X = { frames := 4, cells := 0, slots := 0, locals := 100 }) (J : Nat → zPP) (hJ : ∀ h ∈ ([18, 58, 101, 175] : List Nat), zSd X RX8 "year" cX8_year 7 none h (J h)) : zSd X RX8 "year" cX8_year 7 none 0 (zb_X8_year_0 (zKX X) J) := zs_aload_n zd_X8_year_0 rfl (zs_iload_n zd_X8_year_1 rfl (zs_V (ci := 8) rfl rfl (zm_X8_act _ _ _) gw_4_76 gw_4_73 gw_4_75 gw_0_34 gw_1_7 zdn_X8_act (zrm hR (by decide) (by decide)) zd_X8_year_2 (zCl_V1 zok_l) (zs_aload_n zd_X8_year_5 rfl (zs_getI (ci := 8) (j := 2) (T := TX8) rfl inX8 (by decide) gw_3_91 rfl zd_X8_year_6 (zs_aload_n zd_X8_year_9 rfl (zs_getI (ci := 8) (j := 3) (T := TX8) rfl inX8 (by decide) gw_3_92 rfl zd_X8_year_10 (zs_imul zd_X8_year_13 (zs_istore_n zd_X8_year_14 rfl (by decide) (zs_iconst zd_X8_year_15 (by decide) (zs_istore zd_X8_year_16 (by decide) (hJ 18 (by decide))))))))))))
def zb_X8_year_18 (K : zKt) (J : Nat → zPP) : zPP := zT_ild 4 (zT_ild 3 (zT_if2 (fun x y => y ≤ x) (zT_ald 0 (zT_getR 8 26 38 (zT_ald 0 (zT_getI 8 5 38 (zT_ald 0 (zT_getI 8 6 38 (zT_iast (zT_ald 0 (zT_V0 zok 8 38 zc_X8_putInOrder (zT_push (.int 0) (zT_ist 4 (J 58)))))))))))) (zT_ald 0 (zT_getR 8 26 38 (zT_ild 4 (zT_push (.int 0) (zT_iast (zT_iinc 4 1 (J 18)))))))))
theorem zbs_X8_year_18 {X : zCt} (hR : zRX X = { frames := 4, cells := 0, slots := 0, locals := 100 }) (J : Nat → zPP) (hJ : ∀ h ∈ ([18, 58, 101, 175] : List Nat), zSd X RX8 "year" cX8_year 7 none h (J h)) : zSd X RX8 "year" cX8_year 7 none 18 (zb_X8_year_18 (zKX X) J) := zs_iload zd_X8_year_18 (zs_iload_n zd_X8_year_20 rfl (zs_icmp_ge (tgt := 38) zd_X8_year_21 (by decide) (zs_aload_n zd_X8_year_38 rfl (zs_getR (ci := 8) (j := 26) (T := TX8) rfl inX8 (by decide) gw_3_115 rfl zd_X8_year_39 (zs_aload_n zd_X8_year_42 rfl (zs_getI (ci := 8) (j := 5) (T := TX8) rfl inX8 (by decide) gw_3_94 rfl zd_X8_year_43 (zs_aload_n zd_X8_year_46 rfl (zs_getI (ci := 8) (j := 6) (T := TX8) rfl inX8 (by decide) gw_3_95 rfl zd_X8_year_47 (zs_iast zd_X8_year_50 (zs_aload_n zd_X8_year_51 rfl (zs_V (ci := 8) rfl rfl (zm_X8_putInOrder _ _ _) gw_4_80 gw_4_77 gw_4_79 gw_0_35 gw_1_7 zdn_X8_putInOrder (zrm hR (by decide) (by decide)) zd_X8_year_52 (zCl_V0 zok_l) (zs_iconst zd_X8_year_55 (by decide) (zs_istore zd_X8_year_56 (by decide) (hJ 58 (by decide))))))))))))) (zs_aload_n zd_X8_year_24 rfl (zs_getR (ci := 8) (j := 26) (T := TX8) rfl inX8 (by decide) gw_3_115 rfl zd_X8_year_25 (zs_iload zd_X8_year_28 (zs_iconst zd_X8_year_30 (by decide) (zs_iast zd_X8_year_31 (zs_iinc zd_X8_year_32 (by decide) (by decide) (zs_goto (tgt := 18) zd_X8_year_35 (by decide) (hJ 18 (by decide)))))))))))
def zb_X8_year_97 (K : zKt) (J : Nat → zPP) : zPP := zT_zast (zT_push (.int 0) (zT_ist 6 (J 101)))
theorem zbs_X8_year_97 {X : zCt} (hR : zRX X = { frames := 4, cells := 0, slots := 0, locals := 100 }) (J : Nat → zPP) (hJ : ∀ h ∈ ([18, 58, 101, 175] : List Nat), zSd X RX8 "year" cX8_year 7 none h (J h)) : zSd X RX8 "year" cX8_year 7 none 97 (zb_X8_year_97 (zKX X) J) := zs_zast zd_X8_year_97 (zs_iconst zd_X8_year_98 (by decide) (zs_istore zd_X8_year_99 (by decide) (hJ 101 (by decide))))
def zb_X8_year_58 (K : zKt) (J : Nat → zPP) : zPP := zT_ild 4 (zT_ild 3 (zT_if2 (fun x y => y ≤ x) (zT_push (.int 1) (zT_ild 1 (zT_push (.int 2) (zT_div (fun x y => x / y) (zT_push (.int 6) (zT_div (fun x y => x - x / y * y) (zT_bin (fun x y => x + y) (zT_ist 4 (zT_push (.int 0) (zT_ist 5 (J 175))))))))))) (zT_ald 0 (zT_getR 8 28 38 (zT_ild 4 (zT_ald0 0 (zT_ist 5 (zT_ald 0 (zT_getR 8 27 38 (zT_ild 5 (zT_ald 0 (zT_ild 5 (zT_ild 1 (zT_push (.int 12) (zT_div (fun x y => x / y) (zT_V2 zok 8 38 zc_X8_share (zT_if1 (fun x => x = 0) (zT_push (.int 1) (zb_X8_year_97 K J)) (zT_push (.int 0) (zb_X8_year_97 K J)))))))))))))))))))
theorem zbs_X8_year_58 {X : zCt} (hR : zRX X = { frames := 4, cells := 0, slots := 0, locals := 100 }) (J : Nat → zPP) (hJ : ∀ h ∈ ([18, 58, 101, 175] : List Nat), zSd X RX8 "year" cX8_year 7 none h (J h)) : zSd X RX8 "year" cX8_year 7 none 58 (zb_X8_year_58 (zKX X) J) := zs_iload zd_X8_year_58 (zs_iload_n zd_X8_year_60 rfl (zs_icmp_ge (tgt := 162) zd_X8_year_61 (by decide) (zs_iconst zd_X8_year_162 (by decide) (zs_iload_n zd_X8_year_163 rfl (zs_iconst zd_X8_year_164 (by decide) (zs_idiv zd_X8_year_165 (zs_bipush zd_X8_year_166 (by decide) (zs_irem zd_X8_year_168 (zs_iadd zd_X8_year_169 (zs_istore zd_X8_year_170 (by decide) (zs_iconst zd_X8_year_172 (by decide) (zs_istore zd_X8_year_173 (by decide) (hJ 175 (by decide)))))))))))) (zs_aload_n zd_X8_year_64 rfl (zs_getR (ci := 8) (j := 28) (T := TX8) rfl inX8 (by decide) gw_3_117 rfl zd_X8_year_65 (zs_iload zd_X8_year_68 (zs_iald zd_X8_year_70 (zs_istore zd_X8_year_71 (by decide) (zs_aload_n zd_X8_year_73 rfl (zs_getR (ci := 8) (j := 27) (T := TX8) rfl inX8 (by decide) gw_3_116 rfl zd_X8_year_74 (zs_iload zd_X8_year_77 (zs_aload_n zd_X8_year_79 rfl (zs_iload zd_X8_year_80 (zs_iload_n zd_X8_year_82 rfl (zs_bipush zd_X8_year_83 (by decide) (zs_idiv zd_X8_year_85 (zs_V (ci := 8) rfl rfl (zm_X8_share _ _ _) gw_4_84 gw_4_81 gw_4_83 gw_0_36 gw_1_7 zdn_X8_share (zrm hR (by decide) (by decide)) zd_X8_year_86 (zCl_V2 zok_l) (zs_if_ne (tgt := 96) zd_X8_year_89 (by decide) (zs_iconst zd_X8_year_96 (by decide) (zbs_X8_year_97 hR J hJ)) (zs_iconst zd_X8_year_92 (by decide) (zs_goto (tgt := 97) zd_X8_year_93 (by decide) (zbs_X8_year_97 hR J hJ))))))))))))))))))))
def zb_X8_year_156 (K : zKt) (J : Nat → zPP) : zPP := zT_iinc 4 1 (J 58)
theorem zbs_X8_year_156 {X : zCt} (hR : zRX X = { frames := 4, cells := 0, slots := 0, locals := 100 }) (J : Nat → zPP) (hJ : ∀ h ∈ ([18, 58, 101, 175] : List Nat), zSd X RX8 "year" cX8_year 7 none h (J h)) : zSd X RX8 "year" cX8_year 7 none 156 (zb_X8_year_156 (zKX X) J) := zs_iinc zd_X8_year_156 (by decide) (by decide) (zs_goto (tgt := 58) zd_X8_year_159 (by decide) (hJ 58 (by decide)))
def zb_X8_year_150 (K : zKt) (J : Nat → zPP) : zPP := zT_iinc 6 1 (J 101)
theorem zbs_X8_year_150 {X : zCt} (hR : zRX X = { frames := 4, cells := 0, slots := 0, locals := 100 }) (J : Nat → zPP) (hJ : ∀ h ∈ ([18, 58, 101, 175] : List Nat), zSd X RX8 "year" cX8_year 7 none h (J h)) : zSd X RX8 "year" cX8_year 7 none 150 (zb_X8_year_150 (zKX X) J) := zs_iinc zd_X8_year_150 (by decide) (by decide) (zs_goto (tgt := 101) zd_X8_year_153 (by decide) (hJ 101 (by decide)))
def zb_X8_year_101 (K : zKt) (J : Nat → zPP) : zPP := zT_ild 6 (zT_push (.int 4) (zT_if2 (fun x y => y ≤ x) (zb_X8_year_156 K J) (zT_ald 0 (zT_getR 8 27 38 (zT_ild 5 (zT_ald0 1 (zT_if1 (fun x => x = 0) (zT_ald 0 (zT_getR 8 29 38 (zT_ild 6 (zT_ald0 0 (zT_push (.int (-1)) (zT_if2 (fun x y => x = y) (zb_X8_year_150 K J) (zT_ald 0 (zT_getR 8 26 38 (zT_ald 0 (zT_getR 8 29 38 (zT_ild 6 (zT_ald0 0 (zT_dup2 (zT_ald0 0 (zT_ald 0 (zT_getR 8 30 38 (zT_ild 6 (zT_ald0 0 (zT_bin (fun x y => x + y) (zT_iast (zb_X8_year_150 K J))))))))))))))))))))) (zb_X8_year_156 K J))))))))
theorem zbs_X8_year_101 {X : zCt} (hR : zRX X = { frames := 4, cells := 0, slots := 0, locals := 100 }) (J : Nat → zPP) (hJ : ∀ h ∈ ([18, 58, 101, 175] : List Nat), zSd X RX8 "year" cX8_year 7 none h (J h)) : zSd X RX8 "year" cX8_year 7 none 101 (zb_X8_year_101 (zKX X) J) := zs_iload zd_X8_year_101 (zs_iconst zd_X8_year_103 (by decide) (zs_icmp_ge (tgt := 156) zd_X8_year_104 (by decide) (zbs_X8_year_156 hR J hJ) (zs_aload_n zd_X8_year_107 rfl (zs_getR (ci := 8) (j := 27) (T := TX8) rfl inX8 (by decide) gw_3_116 rfl zd_X8_year_108 (zs_iload zd_X8_year_111 (zs_zald zd_X8_year_113 (zs_if_ne (tgt := 156) zd_X8_year_114 (by decide) (zbs_X8_year_156 hR J hJ) (zs_aload_n zd_X8_year_117 rfl (zs_getR (ci := 8) (j := 29) (T := TX8) rfl inX8 (by decide) gw_3_118 rfl zd_X8_year_118 (zs_iload zd_X8_year_121 (zs_iald zd_X8_year_123 (zs_iconst zd_X8_year_124 (by decide) (zs_icmp_eq (tgt := 150) zd_X8_year_125 (by decide) (zbs_X8_year_150 hR J hJ) (zs_aload_n zd_X8_year_128 rfl (zs_getR (ci := 8) (j := 26) (T := TX8) rfl inX8 (by decide) gw_3_115 rfl zd_X8_year_129 (zs_aload_n zd_X8_year_132 rfl (zs_getR (ci := 8) (j := 29) (T := TX8) rfl inX8 (by decide) gw_3_118 rfl zd_X8_year_133 (zs_iload zd_X8_year_136 (zs_iald zd_X8_year_138 (zs_dup2 zd_X8_year_139 (zs_iald zd_X8_year_140 (zs_aload_n zd_X8_year_141 rfl (zs_getR (ci := 8) (j := 30) (T := TX8) rfl inX8 (by decide) gw_3_119 rfl zd_X8_year_142 (zs_iload zd_X8_year_145 (zs_iald zd_X8_year_147 (zs_iadd zd_X8_year_148 (zs_iast zd_X8_year_149 (zbs_X8_year_150 hR J hJ))))))))))))))))))))))))))))
def zb_X8_year_336 (K : zKt) (J : Nat → zPP) : zPP := zT_iinc 5 1 (J 175)
theorem zbs_X8_year_336 {X : zCt} (hR : zRX X = { frames := 4, cells := 0, slots := 0, locals := 100 }) (J : Nat → zPP) (hJ : ∀ h ∈ ([18, 58, 101, 175] : List Nat), zSd X RX8 "year" cX8_year 7 none h (J h)) : zSd X RX8 "year" cX8_year 7 none 336 (zb_X8_year_336 (zKX X) J) := zs_iinc zd_X8_year_336 (by decide) (by decide) (zs_goto (tgt := 175) zd_X8_year_339 (by decide) (hJ 175 (by decide)))
def zb_X8_year_242 (K : zKt) (J : Nat → zPP) : zPP := zT_iast (zb_X8_year_336 K J)
theorem zbs_X8_year_242 {X : zCt} (hR : zRX X = { frames := 4, cells := 0, slots := 0, locals := 100 }) (J : Nat → zPP) (hJ : ∀ h ∈ ([18, 58, 101, 175] : List Nat), zSd X RX8 "year" cX8_year 7 none h (J h)) : zSd X RX8 "year" cX8_year 7 none 242 (zb_X8_year_242 (zKX X) J) := zs_iast zd_X8_year_242 (zs_goto (tgt := 336) zd_X8_year_243 (by decide) (zbs_X8_year_336 hR J hJ))
def zb_X8_year_292 (K : zKt) (J : Nat → zPP) : zPP := zT_bin (fun x y => x + y) (zT_iast (zb_X8_year_336 K J))
theorem zbs_X8_year_292 {X : zCt} (hR : zRX X = { frames := 4, cells := 0, slots := 0, locals := 100 }) (J : Nat → zPP) (hJ : ∀ h ∈ ([18, 58, 101, 175] : List Nat), zSd X RX8 "year" cX8_year 7 none h (J h)) : zSd X RX8 "year" cX8_year 7 none 292 (zb_X8_year_292 (zKX X) J) := zs_iadd zd_X8_year_292 (zs_iast zd_X8_year_293 (zs_goto (tgt := 336) zd_X8_year_294 (by decide) (zbs_X8_year_336 hR J hJ)))
def zb_X8_year_291 (K : zKt) (J : Nat → zPP) : zPP := zT_push (.int 0) (zb_X8_year_292 K J)
theorem zbs_X8_year_291 {X : zCt} (hR : zRX X = { frames := 4, cells := 0, slots := 0, locals := 100 }) (J : Nat → zPP) (hJ : ∀ h ∈ ([18, 58, 101, 175] : List Nat), zSd X RX8 "year" cX8_year 7 none h (J h)) : zSd X RX8 "year" cX8_year 7 none 291 (zb_X8_year_291 (zKX X) J) := zs_iconst zd_X8_year_291 (by decide) (zbs_X8_year_292 hR J hJ)
def zb_X8_year_334 (K : zKt) (J : Nat → zPP) : zPP := zT_bin (fun x y => x - y) (zT_iast (zb_X8_year_336 K J))
theorem zbs_X8_year_334 {X : zCt} (hR : zRX X = { frames := 4, cells := 0, slots := 0, locals := 100 }) (J : Nat → zPP) (hJ : ∀ h ∈ ([18, 58, 101, 175] : List Nat), zSd X RX8 "year" cX8_year 7 none h (J h)) : zSd X RX8 "year" cX8_year 7 none 334 (zb_X8_year_334 (zKX X) J) := zs_isub zd_X8_year_334 (zs_iast zd_X8_year_335 (zbs_X8_year_336 hR J hJ))
def zb_X8_year_175 (K : zKt) (J : Nat → zPP) : zPP := zT_ild 5 (zT_ild 3 (zT_if2 (fun x y => y ≤ x) (zT_vret K) (zT_ald 0 (zT_getR 8 24 38 (zT_ild 5 (zT_ald0 0 (zT_ald 0 (zT_getI 8 4 38 (zT_if2 (fun x y => y ≤ x) (zT_ald 0 (zT_getR 8 27 38 (zT_ild 5 (zT_ald0 1 (zT_if1 (fun x => x = 0) (zT_ald 0 (zT_getR 8 26 38 (zT_ild 5 (zT_ald0 0 (zT_push (.int 16) (zT_if2 (fun x y => x < y) (zb_X8_year_336 K J) (zT_ald 0 (zT_getR 8 24 38 (zT_ild 5 (zT_dup2 (zT_ald0 0 (zT_ald 0 (zT_getR 8 24 38 (zT_ild 5 (zT_ald0 0 (zT_if1 (fun x => x ≤ 0) (zT_push (.int 0) (zb_X8_year_334 K J)) (zT_ild 1 (zT_push (.int 2) (zT_div (fun x y => x - x / y * y) (zb_X8_year_334 K J)))))))))))))))))))) (zT_ald 0 (zT_getR 8 24 38 (zT_ild 5 (zT_dup2 (zT_ald0 0 (zT_ald 0 (zT_getR 8 26 38 (zT_ild 5 (zT_ald0 0 (zT_if1 (fun x => x ≤ 0) (zb_X8_year_291 K J) (zT_ald 0 (zT_getR 8 24 38 (zT_ild 5 (zT_ald0 0 (zT_push (.int 200) (zT_if2 (fun x y => y ≤ x) (zb_X8_year_291 K J) (zT_push (.int 1) (zb_X8_year_292 K J))))))))))))))))))))))) (zT_ald 0 (zT_getR 8 24 38 (zT_ild 5 (zT_ald0 0 (zT_ald 0 (zT_getR 8 26 38 (zT_ild 5 (zT_ald0 0 (zT_ild 4 (zT_bin (fun x y => x * y) (zT_push (.int 16) (zT_div (fun x y => x / y) (zT_bin (fun x y => x + y) (zT_ist 6 (zT_ald 0 (zT_getR 8 24 38 (zT_ild 5 (zT_ild 6 (zT_ald 0 (zT_getI 8 4 38 (zT_if2 (fun x y => x ≤ y) (zT_ild 6 (zb_X8_year_242 K J)) (zT_ald 0 (zT_getI 8 4 38 (zb_X8_year_242 K J)))))))))))))))))))))))))))))))))
theorem zbs_X8_year_175 {X : zCt} (hR : zRX X = { frames := 4, cells := 0, slots := 0, locals := 100 }) (J : Nat → zPP) (hJ : ∀ h ∈ ([18, 58, 101, 175] : List Nat), zSd X RX8 "year" cX8_year 7 none h (J h)) : zSd X RX8 "year" cX8_year 7 none 175 (zb_X8_year_175 (zKX X) J) := zs_iload zd_X8_year_175 (zs_iload_n zd_X8_year_177 rfl (zs_icmp_ge (tgt := 342) zd_X8_year_178 (by decide) (zs_vret rfl zd_X8_year_342) (zs_aload_n zd_X8_year_181 rfl (zs_getR (ci := 8) (j := 24) (T := TX8) rfl inX8 (by decide) gw_3_113 rfl zd_X8_year_182 (zs_iload zd_X8_year_185 (zs_iald zd_X8_year_187 (zs_aload_n zd_X8_year_188 rfl (zs_getI (ci := 8) (j := 4) (T := TX8) rfl inX8 (by decide) gw_3_93 rfl zd_X8_year_189 (zs_icmp_ge (tgt := 246) zd_X8_year_192 (by decide) (zs_aload_n zd_X8_year_246 rfl (zs_getR (ci := 8) (j := 27) (T := TX8) rfl inX8 (by decide) gw_3_116 rfl zd_X8_year_247 (zs_iload zd_X8_year_250 (zs_zald zd_X8_year_252 (zs_if_eq (tgt := 297) zd_X8_year_253 (by decide) (zs_aload_n zd_X8_year_297 rfl (zs_getR (ci := 8) (j := 26) (T := TX8) rfl inX8 (by decide) gw_3_115 rfl zd_X8_year_298 (zs_iload zd_X8_year_301 (zs_iald zd_X8_year_303 (zs_bipush zd_X8_year_304 (by decide) (zs_icmp_lt (tgt := 336) zd_X8_year_306 (by decide) (zbs_X8_year_336 hR J hJ) (zs_aload_n zd_X8_year_309 rfl (zs_getR (ci := 8) (j := 24) (T := TX8) rfl inX8 (by decide) gw_3_113 rfl zd_X8_year_310 (zs_iload zd_X8_year_313 (zs_dup2 zd_X8_year_315 (zs_iald zd_X8_year_316 (zs_aload_n zd_X8_year_317 rfl (zs_getR (ci := 8) (j := 24) (T := TX8) rfl inX8 (by decide) gw_3_113 rfl zd_X8_year_318 (zs_iload zd_X8_year_321 (zs_iald zd_X8_year_323 (zs_if_le (tgt := 333) zd_X8_year_324 (by decide) (zs_iconst zd_X8_year_333 (by decide) (zbs_X8_year_334 hR J hJ)) (zs_iload_n zd_X8_year_327 rfl (zs_iconst zd_X8_year_328 (by decide) (zs_irem zd_X8_year_329 (zs_goto (tgt := 334) zd_X8_year_330 (by decide) (zbs_X8_year_334 hR J hJ))))))))))))))))))))) (zs_aload_n zd_X8_year_256 rfl (zs_getR (ci := 8) (j := 24) (T := TX8) rfl inX8 (by decide) gw_3_113 rfl zd_X8_year_257 (zs_iload zd_X8_year_260 (zs_dup2 zd_X8_year_262 (zs_iald zd_X8_year_263 (zs_aload_n zd_X8_year_264 rfl (zs_getR (ci := 8) (j := 26) (T := TX8) rfl inX8 (by decide) gw_3_115 rfl zd_X8_year_265 (zs_iload zd_X8_year_268 (zs_iald zd_X8_year_270 (zs_if_le (tgt := 291) zd_X8_year_271 (by decide) (zbs_X8_year_291 hR J hJ) (zs_aload_n zd_X8_year_274 rfl (zs_getR (ci := 8) (j := 24) (T := TX8) rfl inX8 (by decide) gw_3_113 rfl zd_X8_year_275 (zs_iload zd_X8_year_278 (zs_iald zd_X8_year_280 (zs_sipush zd_X8_year_281 (by decide) (zs_icmp_ge (tgt := 291) zd_X8_year_284 (by decide) (zbs_X8_year_291 hR J hJ) (zs_iconst zd_X8_year_287 (by decide) (zs_goto (tgt := 292) zd_X8_year_288 (by decide) (zbs_X8_year_292 hR J hJ)))))))))))))))))))))))) (zs_aload_n zd_X8_year_195 rfl (zs_getR (ci := 8) (j := 24) (T := TX8) rfl inX8 (by decide) gw_3_113 rfl zd_X8_year_196 (zs_iload zd_X8_year_199 (zs_iald zd_X8_year_201 (zs_aload_n zd_X8_year_202 rfl (zs_getR (ci := 8) (j := 26) (T := TX8) rfl inX8 (by decide) gw_3_115 rfl zd_X8_year_203 (zs_iload zd_X8_year_206 (zs_iald zd_X8_year_208 (zs_iload zd_X8_year_209 (zs_imul zd_X8_year_211 (zs_bipush zd_X8_year_212 (by decide) (zs_idiv zd_X8_year_214 (zs_iadd zd_X8_year_215 (zs_istore zd_X8_year_216 (by decide) (zs_aload_n zd_X8_year_218 rfl (zs_getR (ci := 8) (j := 24) (T := TX8) rfl inX8 (by decide) gw_3_113 rfl zd_X8_year_219 (zs_iload zd_X8_year_222 (zs_iload zd_X8_year_224 (zs_aload_n zd_X8_year_226 rfl (zs_getI (ci := 8) (j := 4) (T := TX8) rfl inX8 (by decide) gw_3_93 rfl zd_X8_year_227 (zs_icmp_le (tgt := 240) zd_X8_year_230 (by decide) (zs_iload zd_X8_year_240 (zbs_X8_year_242 hR J hJ)) (zs_aload_n zd_X8_year_233 rfl (zs_getI (ci := 8) (j := 4) (T := TX8) rfl inX8 (by decide) gw_3_93 rfl zd_X8_year_234 (zs_goto (tgt := 242) zd_X8_year_237 (by decide) (zbs_X8_year_242 hR J hJ))))))))))))))))))))))))))))))))))
def zB_X8_year (K : zKt) (J : Nat → zPP) (h : Nat) : zPP := if h = 18 then zb_X8_year_18 K J else if h = 58 then zb_X8_year_58 K J else if h = 101 then zb_X8_year_101 K J else if h = 175 then zb_X8_year_175 K J else (fun _ _ _ => False)
theorem zBs_X8_year {X : zCt} (hR : zRX X = { frames := 4, cells := 0, slots := 0, locals := 100 }) : ∀ J : Nat → zPP, (∀ h ∈ ([18, 58, 101, 175] : List Nat), zSd X RX8 "year" cX8_year 7 none h (J h)) → ∀ h ∈ ([18, 58, 101, 175] : List Nat), zSd X RX8 "year" cX8_year 7 none h (zB_X8_year (zKX X) J h) := by
  intro J hJ h hh
  unfold zB_X8_year
  simp only [List.mem_cons, List.not_mem_nil, or_false] at hh
  rcases hh with rfl | rfl | rfl | rfl
  · exact zbs_X8_year_18 hR J hJ
  · exact zbs_X8_year_58 hR J hJ
  · exact zbs_X8_year_101 hR J hJ
  · exact zbs_X8_year_175 hR J hJ
theorem zdn_X8_year : yX8_year.cls ≠ "java/lang/invoke/MethodHandle" ∧ yX8_year.cls ≠ "java/lang/invoke/VarHandle" ∧ (parseMethodDescriptor yX8_year.desc).map (fun d => d.parameters.length) = some 2 := by decide +kernel
def zc_X8_year (a : List Value) (M : zMm) (K : zKt) : Prop := match a with
  | [.ref k, .int r', .int y'] => k = 200 ∧ zMr M ∧ ∃ σ r n S, zMS M σ ∧ r' = nI r ∧ r < 36 ∧ y' = nI n ∧ n ≤ 30 ∧ zmh M (sW σ) (sH σ) S.1 ∧ zmd M (sW σ) (sH σ) S.2 ∧ (∀ e, S.1 e ≤ 200) ∧ ∀ M', zsm [209, 210, 211, 212, 213, 214, 215] M M' → zmh M' (sW σ) (sH σ) (wY σ r n S).1 → zmd M' (sW σ) (sH σ) (wY σ r n S).2 → zmg M' (sW σ) (sH σ) (wG (sW σ) (sH σ) (whk (sW σ) (sH σ) n (sA σ) S.1) (wdk (sW σ) (sH σ) n (sA σ) S.2) (wsr r) (sS σ) (sF σ)) → K none M'
  | _ => False
set_option maxHeartbeats 4000000 in
theorem zm_X8_year (l : Launch) (D : va_G) (Y : Nat → ClassId) : zMt l D Y yX8_year cX8_year 7 none 4 100 0 0 zc_X8_year := by
  refine zwhile (heads := [18, 58, 101, 175]) (by decide) (fun K J _ _ => zb_X8_year_0 K J) (fun K _ _ J h => zB_X8_year K J h) (fun X hR J hJ => zbs_X8_year_0 hR J hJ) (fun X hR => zBs_X8_year hR) (fun avs M K h => ?_)
  unfold zc_X8_year at h
  split at h
  · next k r' y' =>
    obtain ⟨rfl, g1, σ, r, n, S, g2, rfl, hr, rfl, hn, hH, hD, hS2, h⟩ := h
    obtain ⟨ok, w1, w2, w3, w4, w5, w6, w7⟩ := id g2
    obtain ⟨k1, k2, k3, k4, k5, k6, k7, k8, k9⟩ := id ok
    obtain ⟨r7, -, -, -, -, -, -, -, r24, r25, r26, r27, r28, r29, r30, -⟩ := id g1
    have hwh : sW σ * sH σ ≤ 12 * 10 := Nat.mul_le_mul k2 k4
    obtain ⟨H1, hH1⟩ : ∃ H1, H1 = whk (sW σ) (sH σ) n (sA σ) S.1 := ⟨_, rfl⟩
    obtain ⟨D1, hD1⟩ : ∃ D1, D1 = wdk (sW σ) (sH σ) n (sA σ) S.2 := ⟨_, rfl⟩
    have hH1le : ∀ e, H1 e ≤ 200 := fun e => by rw [hH1]; exact whk_le hS2 e
    have hwY1 : (wY σ r n S).1 = fun x => wst (sL σ) (wrt r) (wwr r) (H1 x) (wG (sW σ) (sH σ) H1 D1 (wsr r) (sS σ) (sF σ) x) (wpt (sW σ) (sH σ) H1 D1 x) := by rw [hH1, hD1]; rfl
    have hwY2 : (wY σ r n S).2 = D1 := by rw [hD1]; rfl
    rw [hwY1, hwY2, ← hH1, ← hD1] at h
    obtain ⟨N, hN⟩ : ∃ N, N = sW σ * sH σ := ⟨_, rfl⟩
    rw [← hN] at hwh
    have hs200 := mI_120 k2 k4 k7
    refine ⟨by simp [zent], fun q hd M' ls st => (zsm [209, 210, 211, 212, 213, 214, 215] M M' ∧ zmd M' (sW σ) (sH σ) D1) ∧ ((hd = 18 ∧ ∃ k a b, q = 10000 - k ∧ k ≤ N ∧ zmh M' (sW σ) (sH σ) H1 ∧ (∀ e, e < k → M'.2.1 211 e = 0) ∧ ls = [some (.ref 200), some (.int (nI r)), some (.int (nI n)), some (.int (nI N)), some (.int (nI k)), a, b] ∧ st = []) ∨
      ((∃ o A k, zmh M' (sW σ) (sH σ) H1 ∧ mor (sW σ) (sH σ) H1 N o ∧ (∀ i, i < N → M'.2.1 213 i = nI (mI (sW σ) (o i))) ∧ k ≤ N ∧ mfw (sW σ) (sH σ) H1 D1 (wsr r) (sS σ) (sF σ) ((List.range N).map o) k A ∧
        ((hd = 58 ∧ ∃ a b, q = 5000 - 10 * k ∧ zmg M' (sW σ) (sH σ) A ∧ (∀ i, i < k → M'.2.1 212 (mI (sW σ) (o i)) = if wpt (sW σ) (sH σ) H1 D1 (o i) = true then 1 else 0) ∧ ls = [some (.ref 200), some (.int (nI r)), some (.int (nI n)), some (.int (nI N)), some (.int (nI k)), a, b] ∧ st = []) ∨
         (hd = 101 ∧ ∃ d, q = 5000 - 10 * k - 1 - d ∧ d ≤ 4 ∧ k < N ∧ (wpt (sW σ) (sH σ) H1 D1 (o k) = true → d = 0) ∧ zmg M' (sW σ) (sH σ) (mpo (wnx (sW σ) (sH σ) (o k)) (wgv (wsr r) (A (o k)) (wdr (sW σ) (sH σ) H1 D1 (o k))) (wds (wdr (sW σ) (sH σ) H1 D1 (o k)) d) A) ∧ (∀ i, i < k + 1 → M'.2.1 212 (mI (sW σ) (o i)) = if wpt (sW σ) (sH σ) H1 D1 (o i) = true then 1 else 0) ∧ msd M' (sW σ) (sH σ) H1 D1 (o k) 4 ∧ (∀ d, d < 4 → 0 < wdr (sW σ) (sH σ) H1 D1 (o k) d → M'.2.1 215 d = nI (wgv (wsr r) (A (o k)) (wdr (sW σ) (sH σ) H1 D1 (o k)) d)) ∧ ls = [some (.ref 200), some (.int (nI r)), some (.int (nI n)), some (.int (nI N)), some (.int (nI k)), some (.int (nI (mI (sW σ) (o k)))), some (.int (nI d))] ∧ st = []))) ∨
      (hd = 175 ∧ ∃ A k b, q = 1000 - k ∧ k ≤ N ∧ (∀ x, x < 120 → wG (sW σ) (sH σ) H1 D1 (wsr r) (sS σ) (sF σ) x = A x) ∧ (∀ x, A x ≤ sF σ) ∧ zmg M' (sW σ) (sH σ) A ∧ (∀ e, wil (sW σ) (sH σ) e → M'.2.1 212 (mI (sW σ) e) = if wpt (sW σ) (sH σ) H1 D1 e = true then 1 else 0) ∧ (∀ e, wil (sW σ) (sH σ) e → M'.2.1 209 (mI (sW σ) e) = nI (if mI (sW σ) e < k then wst (sL σ) (wrt r) (wwr r) (H1 e) (A e) (wpt (sW σ) (sH σ) H1 D1 e) else H1 e)) ∧ ls = [some (.ref 200), some (.int (nI r)), some (.int (nI n)), some (.int (nI N)), some (.int (nI (wrt r))), some (.int (nI k)), b] ∧ st = []))), ?_, ?_⟩
    · rintro q J hJ hd - M' ls st ⟨⟨hs, hd1⟩, ⟨rfl, k, a, b, rfl, hk, hh, hc, rfl, rfl⟩ | ⟨o, A, k, hh, ho, hoo, hk, hf, ⟨rfl, a, b, rfl, hg, hp, rfl, rfl⟩ | ⟨rfl, d, rfl, hd, hkn, hd0, hg, hp, hsd, hgi, rfl, rfl⟩⟩ | ⟨rfl, A, k, b, rfl, hk, hG, hA, hg, hp, hh, rfl, rfl⟩⟩
      · have e0 : M'.2.1 200 = M.2.1 200 := hs.at (by simp)
        have eR := hs.R
        simp only [zB_X8_year, zb_X8_year_18, ↓reduceIte, zsh_200, zsh_211, eR, r26, e0, w4, w5, Nat.reduceEqDiff, zT_push, zT_bin, zT_div, zT_bil, zT_shl, zT_un, zT_i2l, zT_l2i, zT_lcmp, zT_ild, zT_lld, zT_ald, zT_ist, zT_lst, zT_ast, zT_iinc, zT_dup, zT_dup2, zT_pop, zT_if1, zT_if2, zT_ifn, zT_getI, zT_getJ, zT_getR, zT_putI, zT_putZ, zT_putJ, zT_putR, zT_ald0, zT_lald, zT_aald, zT_iast, zT_zast, zT_bast, zT_last, zT_aast, zT_iret, zT_nret, zT_aret, zT_vret, zT_oi, zT_mm, zT_ialX, zT_S1, zT_S2, zT_S3, zT_V0, zT_V1, zT_V2, zT_V3, zT_V4, zT_V5, zT_V6, zT_I0, zT_I1, zT_I2, zlg, zlset, zlpr, zent, zok, va_rf, List.length_cons, List.length_nil, List.replicate, List.cons_append, List.nil_append, List.append_nil, Option.toList_some, Option.toList_none, Option.toList, Nat.reduceAdd, Nat.reduceSub, Nat.reduceLeDiff, Nat.zero_add, Nat.zero_le, true_and, and_true, Nat.le_refl, ge_iff_le, Nat.reduceEqDiff]
        rw [nI_clamp (n := k) (by omega), nI_clamp (n := mI (sW σ) (sS σ)) (by omega)]
        refine ⟨fun h1 => ⟨vp_in_nI hs200 (by decide), ?_⟩, fun h1 => ?_⟩
        · have := zn_ge' h1 (by omega) (by omega)
          have e : k = N := by omega
          subst e
          unfold zc_X8_putInOrder
          dsimp only
          have hsw : zsm [209, 210, 211, 212, 213, 214, 215] M (zwI M' 211 (mI (sW σ) (sS σ)) (nI (sF σ))) := hs.w (by simp)
          have e0w : (zwI M' 211 (mI (sW σ) (sS σ)) (nI (sF σ))).2.1 200 = M.2.1 200 := hsw.at (by simp)
          refine ⟨rfl, g1.to hsw, sW σ, sH σ, H1, by rw [e0w]; exact w1, by rw [e0w]; exact w2, by omega, k2, by omega, k4, hh.w (by decide), fun M2 o hs2 ho hoo => ?_⟩
          rw [← hN] at ho hoo
          have hLL := (mor_L (by omega) k2 k4 (by rw [← hN]; exact ho)).1
          rw [← hN] at hLL
          refine hJ 5000 (by omega) 58 (by simp) _ _ _ ⟨⟨hsw.tr (hs2.up (by simp)), (hd1.w (by decide)).to hs2 (by simp)⟩, Or.inr (Or.inl ⟨o, fun x => if x = sS σ then sF σ else 0, 0, (hh.w (by decide)).to hs2 (by simp), ho, hoo, Nat.zero_le _, mfw_0 hLL k7, Or.inl ⟨rfl, a, b, rfl, fun e he => ?_, fun i hi => absurd hi (Nat.not_lt_zero _), rfl, rfl⟩⟩)⟩
          rw [hs2.at (by simp)]
          simp only [zwI_L, zwI_I, zwI_J, zwI_R, zwJ_L, zwJ_I, zwJ_J, zwJ_R, zwR_L, zwR_I, zwR_J, zwR_R, zw2_s, zw2_n, ne_eq, not_false_eq_true, reduceCtorEq, not_true_eq_false, Nat.reduceEqDiff]
          by_cases z : e = sS σ
          · rw [z, zup_s, if_pos rfl]
          · rw [zup_n (fun y => z (mI_inj he.1 k7.1 y)), if_neg z, hc _ (by rw [hN]; exact mI_lt k2 k4 he)]
            rfl
        · have hlt := zn_ge h1 (by omega) (by omega)
          refine ⟨vp_in_nI (by omega) (by decide), hJ (10000 - (k + 1)) (by omega) 18 (by simp) _ _ _ ⟨⟨hs.w (by simp), hd1.w (by decide)⟩, Or.inl ⟨rfl, k + 1, a, b, rfl, hlt, hh.w (by decide), fun e he => ?_, by rw [nI_1], rfl⟩⟩⟩
          simp only [zwI_L, zwI_I, zwI_J, zwI_R, zwJ_L, zwJ_I, zwJ_J, zwJ_R, zwR_L, zwR_I, zwR_J, zwR_R, zw2_s, zw2_n, ne_eq, not_false_eq_true, reduceCtorEq, not_true_eq_false, Nat.reduceEqDiff]
          by_cases z : e = k
          · rw [z, zup_s]
          · rw [zup_n z]; exact hc e (by omega)
      · have e0 : M'.2.1 200 = M.2.1 200 := hs.at (by simp)
        have eR := hs.R
        simp only [zB_X8_year, zb_X8_year_58, ↓reduceIte, zsh_200, zsh_211, zsh_213, zsh_212, eR, r26, r27, r28, e0, Nat.reduceEqDiff, zT_push, zT_bin, zT_div, zT_bil, zT_shl, zT_un, zT_i2l, zT_l2i, zT_lcmp, zT_ild, zT_lld, zT_ald, zT_ist, zT_lst, zT_ast, zT_iinc, zT_dup, zT_dup2, zT_pop, zT_if1, zT_if2, zT_ifn, zT_getI, zT_getJ, zT_getR, zT_putI, zT_putZ, zT_putJ, zT_putR, zT_ald0, zT_lald, zT_aald, zT_iast, zT_zast, zT_bast, zT_last, zT_aast, zT_iret, zT_nret, zT_aret, zT_vret, zT_oi, zT_mm, zT_ialX, zT_S1, zT_S2, zT_S3, zT_V0, zT_V1, zT_V2, zT_V3, zT_V4, zT_V5, zT_V6, zT_I0, zT_I1, zT_I2, zlg, zlset, zlpr, zent, zok, va_rf, List.length_cons, List.length_nil, List.replicate, List.cons_append, List.nil_append, List.append_nil, Option.toList_some, Option.toList_none, Option.toList, Nat.reduceAdd, Nat.reduceSub, Nat.reduceLeDiff, Nat.zero_add, Nat.zero_le, true_and, and_true, Nat.le_refl, ge_iff_le, Nat.reduceEqDiff]
        have hLL := mor_L (by omega) k2 k4 (by rw [← hN]; exact ho)
        rw [← hN] at hLL
        obtain ⟨hL1, hL2, hL3⟩ := hLL
        rw [nI_clamp (n := k) (by omega)]
        refine ⟨fun h1 => ⟨by decide, by decide, ?_⟩, fun h1 => ?_⟩
        · have := zn_ge' h1 (by omega) (by omega)
          have e : k = N := by omega
          subst e
          have hf' : mfw (sW σ) (sH σ) H1 D1 (wsr r) (sS σ) (sF σ) ((List.range k).map o) ((List.range k).map o).length A := by
            rw [hL2]
            exact hf
          obtain ⟨z1, z2⟩ := mfw_end k2 k4 hL1 hf' (fun x _ => hH1le x)
          refine hJ 1000 (by omega) 175 (by simp) _ _ _ ⟨⟨hs, hd1⟩, Or.inr (Or.inr ⟨rfl, A, 0, b, rfl, Nat.zero_le _, z1, z2, hg, fun e he => ?_, fun e he => ?_, ?_, rfl⟩)⟩
          · obtain ⟨i, hi, rfl⟩ := ho.2.2 e he (by rw [hN]; exact mI_lt k2 k4 he)
            exact hp i hi
          · rw [if_neg (Nat.not_lt_zero _)]
            exact (hh e he).1
          · have e2 : nI r / 2 = nI (r / 2) := pk_div (a := r) (d := 2) (by omega) (by omega) (by omega)
            have e3 : nI (r / 2) - nI (r / 2) / 6 * 6 = nI (r / 2 % 6) := pk_rem (a := r / 2) (d := 6) (by omega) (by omega) (by omega)
            rw [e2, e3, show (1 : Int32) + nI (r / 2 % 6) = nI (wrt r) from nI_add 1 _]
            rfl
        · have hlt := zn_ge h1 (by omega) (by omega)
          obtain ⟨o1, o2⟩ := ho.1 k hlt
          have o120 := mI_120 k2 k4 o1
          obtain ⟨f1, f2⟩ := mfw_step k2 k4 hL1 hf (hL3 k hlt)
          refine ⟨vp_in_nI (by omega) (by decide), by decide, ?_⟩
          rw [hoo k hlt, show nI r / 12 = nI (wsr r) from pk_div (a := r) (d := 12) (by omega) (by omega) (by omega)]
          unfold zc_X8_share
          dsimp only
          refine ⟨rfl, g1.to hs, sW σ, sH σ, H1, D1, o k, A (o k), wsr r, by rw [e0]; exact w1, by rw [e0]; exact w2, by omega, k2, by omega, k4, o1, hh, hd1, hg _ o1, by omega, rfl, rfl, by unfold wsr; omega, fun M2 hs2 hsd hgi => ?_⟩
          simp only [zT_push, zT_bin, zT_div, zT_bil, zT_shl, zT_un, zT_i2l, zT_l2i, zT_lcmp, zT_ild, zT_lld, zT_ald, zT_ist, zT_lst, zT_ast, zT_iinc, zT_dup, zT_dup2, zT_pop, zT_if1, zT_if2, zT_ifn, zT_getI, zT_getJ, zT_getR, zT_putI, zT_putZ, zT_putJ, zT_putR, zT_ald0, zT_lald, zT_aald, zT_iast, zT_zast, zT_bast, zT_last, zT_aast, zT_iret, zT_nret, zT_aret, zT_vret, zT_oi, zT_mm, zT_ialX, zT_S1, zT_S2, zT_S3, zT_V0, zT_V1, zT_V2, zT_V3, zT_V4, zT_V5, zT_V6, zT_I0, zT_I1, zT_I2, zlg, zlset, zlpr, zent, zok, va_rf, List.length_cons, List.length_nil, List.replicate, List.cons_append, List.nil_append, List.append_nil, Option.toList_some, Option.toList_none, Option.toList, Nat.reduceAdd, Nat.reduceSub, Nat.reduceLeDiff, Nat.zero_add, Nat.zero_le, true_and, and_true, Nat.le_refl, ge_iff_le, Nat.reduceEqDiff]
          have S97 : ∀ v, v = 0 ∨ v = 1 → v = (if wpt (sW σ) (sH σ) H1 D1 (o k) = true then 1 else 0) → zb_X8_year_97 K J M2 [some (.ref 200), some (.int (nI r)), some (.int (nI n)), some (.int (nI N)), some (.int (nI k)), some (.int (nI (mI (sW σ) (o k)))), b] [.int v, .int (nI (mI (sW σ) (o k))), .ref 212] := by
            intro v hv01 hv
            simp only [zb_X8_year_97, zsh_212, nI_clamp (show mI (sW σ) (o k) < 2 ^ 31 by omega), zT_push, zT_bin, zT_div, zT_bil, zT_shl, zT_un, zT_i2l, zT_l2i, zT_lcmp, zT_ild, zT_lld, zT_ald, zT_ist, zT_lst, zT_ast, zT_iinc, zT_dup, zT_dup2, zT_pop, zT_if1, zT_if2, zT_ifn, zT_getI, zT_getJ, zT_getR, zT_putI, zT_putZ, zT_putJ, zT_putR, zT_ald0, zT_lald, zT_aald, zT_iast, zT_zast, zT_bast, zT_last, zT_aast, zT_iret, zT_nret, zT_aret, zT_vret, zT_oi, zT_mm, zT_ialX, zT_S1, zT_S2, zT_S3, zT_V0, zT_V1, zT_V2, zT_V3, zT_V4, zT_V5, zT_V6, zT_I0, zT_I1, zT_I2, zlg, zlset, zlpr, zent, zok, va_rf, List.length_cons, List.length_nil, List.replicate, List.cons_append, List.nil_append, List.append_nil, Option.toList_some, Option.toList_none, Option.toList, Nat.reduceAdd, Nat.reduceSub, Nat.reduceLeDiff, Nat.zero_add, Nat.zero_le, true_and, and_true, Nat.le_refl, ge_iff_le, Nat.reduceEqDiff]
            refine ⟨vp_in_nI o120 (by decide), hv01, hJ (5000 - 10 * k - 1) (by omega) 101 (by simp) _ _ _ ⟨⟨(hs.tr (hs2.up (by simp))).w (by simp), (hd1.to hs2 (by simp)).w (by decide)⟩, Or.inr (Or.inl ⟨o, A, k, (hh.to hs2 (by simp)).w (by decide), ho, fun i hi => ?_, hk, hf, Or.inr ⟨rfl, 0, rfl, by omega, hlt, fun _ => rfl, ?_, fun i hi => ?_, fun d hd => ?_, fun d hd hp => ?_, rfl, rfl⟩⟩)⟩⟩
            · simp only [zwI_L, zwI_I, zwI_J, zwI_R, zwJ_L, zwJ_I, zwJ_J, zwJ_R, zwR_L, zwR_I, zwR_J, zwR_R, zw2_s, zw2_n, ne_eq, not_false_eq_true, reduceCtorEq, not_true_eq_false, Nat.reduceEqDiff]
              rw [hs2.at (by simp)]
              exact hoo i hi
            · have e : ∀ nb gv r, mpo nb gv (wds r 0) A = A := fun nb gv r => by funext x; simp [mpo, wsl, wds]
              rw [e]
              exact (hg.to hs2 (by simp)).w (by decide)
            · simp only [zwI_L, zwI_I, zwI_J, zwI_R, zwJ_L, zwJ_I, zwJ_J, zwJ_R, zwR_L, zwR_I, zwR_J, zwR_R, zw2_s, zw2_n, ne_eq, not_false_eq_true, reduceCtorEq, not_true_eq_false, Nat.reduceEqDiff]
              by_cases z : i = k
              · rw [z, zup_s]; exact hv
              · have hne : o i ≠ o k := (ho.2.1 i k (by omega) hlt).2
                rw [zup_n (fun y => hne (mI_inj (ho.1 i (by omega)).1.1 o1.1 y)), hs2.at (by simp)]
                exact hp i (by omega)
            · simp only [zwI_L, zwI_I, zwI_J, zwI_R, zwJ_L, zwJ_I, zwJ_J, zwJ_R, zwR_L, zwR_I, zwR_J, zwR_R, zw2_s, zw2_n, ne_eq, not_false_eq_true, reduceCtorEq, not_true_eq_false, Nat.reduceEqDiff]
              exact hsd d hd
            · simp only [zwI_L, zwI_I, zwI_J, zwI_R, zwJ_L, zwJ_I, zwJ_J, zwJ_R, zwR_L, zwR_I, zwR_J, zwR_R, zw2_s, zw2_n, ne_eq, not_false_eq_true, reduceCtorEq, not_true_eq_false, Nat.reduceEqDiff]
              exact hgi d hd hp
          refine ⟨fun q => S97 _ (Or.inr rfl) ?_, fun q => S97 _ (Or.inl rfl) ?_⟩
          · have : wpt (sW σ) (sH σ) H1 D1 (o k) = true := by
              unfold wpt
              rw [decide_eq_true_eq]
              rcases Nat.eq_zero_or_pos (wct (wpo (wdr (sW σ) (sH σ) H1 D1 (o k))) 4) with z | z
              · exact z
              · rw [if_neg (by omega)] at q
                exact absurd q (by decide)
            rw [this]; rfl
          · have : ¬ wpt (sW σ) (sH σ) H1 D1 (o k) = true := by
              unfold wpt
              rw [decide_eq_true_eq]
              intro z
              rw [if_pos z] at q
              exact absurd rfl q
            rw [if_neg this]
      · have e0 : M'.2.1 200 = M.2.1 200 := hs.at (by simp)
        have eR := hs.R
        simp only [zB_X8_year, zb_X8_year_101, ↓reduceIte, zsh_200, zsh_211, zsh_213, zsh_212, zsh_214, zsh_215, eR, r26, r27, r28, r29, r30, e0, Nat.reduceEqDiff, zT_push, zT_bin, zT_div, zT_bil, zT_shl, zT_un, zT_i2l, zT_l2i, zT_lcmp, zT_ild, zT_lld, zT_ald, zT_ist, zT_lst, zT_ast, zT_iinc, zT_dup, zT_dup2, zT_pop, zT_if1, zT_if2, zT_ifn, zT_getI, zT_getJ, zT_getR, zT_putI, zT_putZ, zT_putJ, zT_putR, zT_ald0, zT_lald, zT_aald, zT_iast, zT_zast, zT_bast, zT_last, zT_aast, zT_iret, zT_nret, zT_aret, zT_vret, zT_oi, zT_mm, zT_ialX, zT_S1, zT_S2, zT_S3, zT_V0, zT_V1, zT_V2, zT_V3, zT_V4, zT_V5, zT_V6, zT_I0, zT_I1, zT_I2, zlg, zlset, zlpr, zent, zok, va_rf, List.length_cons, List.length_nil, List.replicate, List.cons_append, List.nil_append, List.append_nil, Option.toList_some, Option.toList_none, Option.toList, Nat.reduceAdd, Nat.reduceSub, Nat.reduceLeDiff, Nat.zero_add, Nat.zero_le, true_and, and_true, Nat.le_refl, ge_iff_le, Nat.reduceEqDiff]
        have hLL := mor_L (by omega) k2 k4 (by rw [← hN]; exact ho)
        rw [← hN] at hLL
        obtain ⟨hL1, hL2, hL3⟩ := hLL
        obtain ⟨o1, o2⟩ := ho.1 k hkn
        have o120 := mI_120 k2 k4 o1
        obtain ⟨f1, f2⟩ := mfw_step k2 k4 hL1 hf (hL3 k hkn)
        have hc12 := hp k (by omega)
        rw [nI_clamp (n := d) (by omega), nI_clamp (n := mI (sW σ) (o k)) (by omega), hc12]
        have S156 : wds (wdr (sW σ) (sH σ) H1 D1 (o k)) d = wds (wdr (sW σ) (sH σ) H1 D1 (o k)) 4 → zb_X8_year_156 K J M' [some (.ref 200), some (.int (nI r)), some (.int (nI n)), some (.int (nI N)), some (.int (nI k)), some (.int (nI (mI (sW σ) (o k)))), some (.int (nI d))] [] := by
          intro he
          rw [he] at hg
          simp only [zb_X8_year_156, zT_push, zT_bin, zT_div, zT_bil, zT_shl, zT_un, zT_i2l, zT_l2i, zT_lcmp, zT_ild, zT_lld, zT_ald, zT_ist, zT_lst, zT_ast, zT_iinc, zT_dup, zT_dup2, zT_pop, zT_if1, zT_if2, zT_ifn, zT_getI, zT_getJ, zT_getR, zT_putI, zT_putZ, zT_putJ, zT_putR, zT_ald0, zT_lald, zT_aald, zT_iast, zT_zast, zT_bast, zT_last, zT_aast, zT_iret, zT_nret, zT_aret, zT_vret, zT_oi, zT_mm, zT_ialX, zT_S1, zT_S2, zT_S3, zT_V0, zT_V1, zT_V2, zT_V3, zT_V4, zT_V5, zT_V6, zT_I0, zT_I1, zT_I2, zlg, zlset, zlpr, zent, zok, va_rf, List.length_cons, List.length_nil, List.replicate, List.cons_append, List.nil_append, List.append_nil, Option.toList_some, Option.toList_none, Option.toList, Nat.reduceAdd, Nat.reduceSub, Nat.reduceLeDiff, Nat.zero_add, Nat.zero_le, true_and, and_true, Nat.le_refl, ge_iff_le, Nat.reduceEqDiff]
          exact hJ (5000 - 10 * (k + 1)) (by omega) 58 (by simp) _ _ _ ⟨⟨hs, hd1⟩, Or.inr (Or.inl ⟨o, _, k + 1, hh, ho, hoo, hkn, f1, Or.inl ⟨rfl, _, _, rfl, hg, hp, by rw [nI_1], rfl⟩⟩)⟩
        refine ⟨fun h1 => ?_, fun h1 => ⟨vp_in_nI o120 (by decide), fun h2 => ?_, fun h2 => ?_⟩⟩
        · have := zn_ge' (b := 4) h1 (by omega) (by omega)
          have e : d = 4 := by omega
          exact S156 (by rw [e])
        · have hlt := zn_ge (b := 4) h1 (by omega) (by omega)
          have hnp : ¬ wpt (sW σ) (sH σ) H1 D1 (o k) = true := by
            intro z
            rw [if_pos z] at h2
            exact absurd h2 (by decide)
          have hin : vp_in (nI d) 4 := vp_in_nI hlt (by decide)
          have hsdd := hsd d hlt
          have S150 : ∀ M2, zsm [209, 210, 211, 212, 213, 214, 215] M M2 → zsm [211] M' M2 → zmg M2 (sW σ) (sH σ) (mpo (wnx (sW σ) (sH σ) (o k)) (wgv (wsr r) (A (o k)) (wdr (sW σ) (sH σ) H1 D1 (o k))) (wds (wdr (sW σ) (sH σ) H1 D1 (o k)) (d + 1)) A) → zb_X8_year_150 K J M2 [some (.ref 200), some (.int (nI r)), some (.int (nI n)), some (.int (nI N)), some (.int (nI k)), some (.int (nI (mI (sW σ) (o k)))), some (.int (nI d))] [] := by
            intro M2 hs2 hs3 hg2
            simp only [zb_X8_year_150, zT_push, zT_bin, zT_div, zT_bil, zT_shl, zT_un, zT_i2l, zT_l2i, zT_lcmp, zT_ild, zT_lld, zT_ald, zT_ist, zT_lst, zT_ast, zT_iinc, zT_dup, zT_dup2, zT_pop, zT_if1, zT_if2, zT_ifn, zT_getI, zT_getJ, zT_getR, zT_putI, zT_putZ, zT_putJ, zT_putR, zT_ald0, zT_lald, zT_aald, zT_iast, zT_zast, zT_bast, zT_last, zT_aast, zT_iret, zT_nret, zT_aret, zT_vret, zT_oi, zT_mm, zT_ialX, zT_S1, zT_S2, zT_S3, zT_V0, zT_V1, zT_V2, zT_V3, zT_V4, zT_V5, zT_V6, zT_I0, zT_I1, zT_I2, zlg, zlset, zlpr, zent, zok, va_rf, List.length_cons, List.length_nil, List.replicate, List.cons_append, List.nil_append, List.append_nil, Option.toList_some, Option.toList_none, Option.toList, Nat.reduceAdd, Nat.reduceSub, Nat.reduceLeDiff, Nat.zero_add, Nat.zero_le, true_and, and_true, Nat.le_refl, ge_iff_le, Nat.reduceEqDiff]
            refine hJ (5000 - 10 * k - 1 - (d + 1)) (by omega) 101 (by simp) _ _ _ ⟨⟨hs2, hd1.to hs3 (by simp)⟩, Or.inr (Or.inl ⟨o, A, k, hh.to hs3 (by simp), ho, fun i hi => by rw [hs3.at (by simp)]; exact hoo i hi, hk, hf, Or.inr ⟨rfl, d + 1, rfl, hlt, hkn, fun z => absurd z hnp, hg2, fun i hi => by rw [hs3.at (by simp)]; exact hp i hi, fun d hd => by rw [hs3.at (by simp)]; exact hsd d hd, fun d hd hp => by rw [hs3.at (by simp)]; exact hgi d hd hp, by rw [nI_1], rfl⟩⟩)⟩
          refine ⟨hin, fun h3 => S150 _ hs zsm.rf ?_, fun h3 => ?_⟩
          · have h0 : ¬ 0 < wdr (sW σ) (sH σ) H1 D1 (o k) d := by
              intro z
              rw [if_pos z, h3] at hsdd
              exact absurd hsdd.symm (nI_nm1 (Nat.lt_trans (mI_120 k2 k4 (wdr_way k2 o1 hlt z).2.1) (by decide)))
            rw [wds_s, if_neg (fun z => h0 (wpo_t.mp z)), List.append_nil]
            exact hg
          · have h0 : 0 < wdr (sW σ) (sH σ) H1 D1 (o k) d := by
              rcases Nat.eq_zero_or_pos (wdr (sW σ) (sH σ) H1 D1 (o k) d) with z | z
              · rw [if_neg (by omega)] at hsdd
                exact absurd hsdd h3
              · exact z
            rw [if_pos h0] at hsdd
            obtain ⟨q1, q2, q3, q4, q5⟩ := wdr_way k2 o1 hlt h0
            have q120 := mI_120 k2 k4 q2
            rw [hsdd, nI_clamp (n := mI (sW σ) (wnx (sW σ) (sH σ) (o k) d)) (by omega), hgi d hlt h0, hg _ q2, nI_add]
            have hinx : vp_in (nI (mI (sW σ) (wnx (sW σ) (sH σ) (o k) d))) 120 := vp_in_nI q120 (by decide)
            refine ⟨hin, hinx, hin, hinx, S150 _ (hs.w (by simp)) (zsm.rf.w (by simp)) (fun e he => ?_)⟩
            rw [wds_s, if_pos (wpo_t.mpr h0)]
            simp only [zwI_L, zwI_I, zwI_J, zwI_R, zwJ_L, zwJ_I, zwJ_J, zwJ_R, zwR_L, zwR_I, zwR_J, zwR_R, zw2_s, zw2_n, ne_eq, not_false_eq_true, reduceCtorEq, not_true_eq_false, Nat.reduceEqDiff]
            have hval : ∀ x, mpo (wnx (sW σ) (sH σ) (o k)) (wgv (wsr r) (A (o k)) (wdr (sW σ) (sH σ) H1 D1 (o k))) (wds (wdr (sW σ) (sH σ) H1 D1 (o k)) d ++ [d]) A x = mpo (wnx (sW σ) (sH σ) (o k)) (wgv (wsr r) (A (o k)) (wdr (sW σ) (sH σ) H1 D1 (o k))) (wds (wdr (sW σ) (sH σ) H1 D1 (o k)) d) A x + (if wnx (sW σ) (sH σ) (o k) d = x then wgv (wsr r) (A (o k)) (wdr (sW σ) (sH σ) H1 D1 (o k)) d else 0) := by
              intro x
              unfold mpo
              rw [wsl_app, Nat.add_assoc, wsl_cons]
              rfl
            rw [hval]
            by_cases z : e = wnx (sW σ) (sH σ) (o k) d
            · rw [z, zup_s, if_pos rfl]
            · rw [zup_n (fun y => z (mI_inj he.1 q2.1 y)), if_neg (fun y => z y.symm)]
              exact hg e he
        · have hpt : wpt (sW σ) (sH σ) H1 D1 (o k) = true := by
            cases z : wpt (sW σ) (sH σ) H1 D1 (o k) with
            | true => rfl
            | false => rw [z, if_neg (by decide)] at h2; exact absurd rfl h2
          have e : d = 0 := hd0 hpt
          refine S156 ?_
          unfold wpt at hpt
          rw [decide_eq_true_eq] at hpt
          have e4 : (wds (wdr (sW σ) (sH σ) H1 D1 (o k)) 4).length = 0 := by rw [wds_len]; exact hpt
          rw [e, List.length_eq_zero_iff.mp e4]
          rfl
      · have e0 : M'.2.1 200 = M.2.1 200 := hs.at (by simp)
        have eR := hs.R
        simp only [zB_X8_year, zb_X8_year_175, ↓reduceIte, zsh_200, zsh_209, zsh_211, zsh_213, zsh_212, zsh_214, zsh_215, eR, r24, r26, r27, r28, r29, r30, e0, w3, Nat.reduceEqDiff, zT_push, zT_bin, zT_div, zT_bil, zT_shl, zT_un, zT_i2l, zT_l2i, zT_lcmp, zT_ild, zT_lld, zT_ald, zT_ist, zT_lst, zT_ast, zT_iinc, zT_dup, zT_dup2, zT_pop, zT_if1, zT_if2, zT_ifn, zT_getI, zT_getJ, zT_getR, zT_putI, zT_putZ, zT_putJ, zT_putR, zT_ald0, zT_lald, zT_aald, zT_iast, zT_zast, zT_bast, zT_last, zT_aast, zT_iret, zT_nret, zT_aret, zT_vret, zT_oi, zT_mm, zT_ialX, zT_S1, zT_S2, zT_S3, zT_V0, zT_V1, zT_V2, zT_V3, zT_V4, zT_V5, zT_V6, zT_I0, zT_I1, zT_I2, zlg, zlset, zlpr, zent, zok, va_rf, List.length_cons, List.length_nil, List.replicate, List.cons_append, List.nil_append, List.append_nil, Option.toList_some, Option.toList_none, Option.toList, Nat.reduceAdd, Nat.reduceSub, Nat.reduceLeDiff, Nat.zero_add, Nat.zero_le, true_and, and_true, Nat.le_refl, ge_iff_le, Nat.reduceEqDiff]
        rw [nI_clamp (n := k) (by omega)]
        refine ⟨fun h1 => ?_, fun h1 => ?_⟩
        · have := zn_ge' h1 (by omega) (by omega)
          have e : k = N := by omega
          subst e
          refine h M' hs (fun e he => ⟨?_, wst_le k5 (hH1le e)⟩) hd1 (fun e he => ?_)
          · show _ = nI (wst (sL σ) (wrt r) (wwr r) (H1 e) (wG (sW σ) (sH σ) H1 D1 (wsr r) (sS σ) (sF σ) e) (wpt (sW σ) (sH σ) H1 D1 e))
            rw [hh e he, if_pos (by rw [hN]; exact mI_lt k2 k4 he), hG e (by unfold wil at he; omega)]
          · rw [hG e (by unfold wil at he; omega)]; exact hg e he
        · have hlt := zn_ge h1 (by omega) (by omega)
          have hin : vp_in (nI k) 120 := vp_in_nI (by omega) (by decide)
          obtain ⟨m1, m2, -⟩ := mB_wil (w := sW σ) (h := sH σ) (c := k) (by omega) k2 (by rw [← hN]; exact hlt)
          have hhk := hh _ m1
          have hgk := hg _ m1
          have hpk := hp _ m1
          rw [m2] at hhk hgk hpk
          rw [if_neg (Nat.lt_irrefl _)] at hhk
          generalize hx : mB (sW σ) k = x at m1 m2 hhk hgk hpk
          have hAx := hA x
          have hHx := hH1le x
          have hwr : wrt r ≤ 6 := by unfold wrt; omega
          have hprod : A x * wrt r ≤ 1000 * 6 := Nat.mul_le_mul (by omega) hwr
          rw [hhk, hgk, hpk, pk_mul, show nI (A x * wrt r) / 16 = nI (A x * wrt r / 16) from pk_div (a := A x * wrt r) (d := 16) (by omega) (by decide) (by decide), nI_add]
          have hdv : A x * wrt r / 16 ≤ 6000 := Nat.le_trans (Nat.div_le_self _ _) hprod
          have S336 : ∀ M2 b', zsm [209, 210, 211, 212, 213, 214, 215] M M2 → zsm [209] M' M2 → (∀ j, j ≠ k → M2.2.1 209 j = M'.2.1 209 j) → M2.2.1 209 k = nI (wst (sL σ) (wrt r) (wwr r) (H1 x) (A x) (wpt (sW σ) (sH σ) H1 D1 x)) → zb_X8_year_336 K J M2 [some (.ref 200), some (.int (nI r)), some (.int (nI n)), some (.int (nI N)), some (.int (nI (wrt r))), some (.int (nI k)), b'] [] := by
            intro M2 b' hs2 hs3 hj hv
            simp only [zb_X8_year_336, zT_push, zT_bin, zT_div, zT_bil, zT_shl, zT_un, zT_i2l, zT_l2i, zT_lcmp, zT_ild, zT_lld, zT_ald, zT_ist, zT_lst, zT_ast, zT_iinc, zT_dup, zT_dup2, zT_pop, zT_if1, zT_if2, zT_ifn, zT_getI, zT_getJ, zT_getR, zT_putI, zT_putZ, zT_putJ, zT_putR, zT_ald0, zT_lald, zT_aald, zT_iast, zT_zast, zT_bast, zT_last, zT_aast, zT_iret, zT_nret, zT_aret, zT_vret, zT_oi, zT_mm, zT_ialX, zT_S1, zT_S2, zT_S3, zT_V0, zT_V1, zT_V2, zT_V3, zT_V4, zT_V5, zT_V6, zT_I0, zT_I1, zT_I2, zlg, zlset, zlpr, zent, zok, va_rf, List.length_cons, List.length_nil, List.replicate, List.cons_append, List.nil_append, List.append_nil, Option.toList_some, Option.toList_none, Option.toList, Nat.reduceAdd, Nat.reduceSub, Nat.reduceLeDiff, Nat.zero_add, Nat.zero_le, true_and, and_true, Nat.le_refl, ge_iff_le, Nat.reduceEqDiff]
            refine hJ (1000 - (k + 1)) (by omega) 175 (by simp) _ _ _ ⟨⟨hs2, hd1.to hs3 (by simp)⟩, Or.inr (Or.inr ⟨rfl, A, k + 1, b', rfl, hlt, hG, hA, hg.to hs3 (by simp), fun e he => by rw [hs3.at (by simp)]; exact hp e he, fun e he => ?_, by rw [nI_1], rfl⟩)⟩
            by_cases z : mI (sW σ) e = k
            · have : e = x := mI_inj he.1 m1.1 (z.trans m2.symm)
              rw [z, this, if_pos (Nat.lt_succ_self _)]
              exact hv
            · rw [hj _ z, hh e he]
              by_cases y : mI (sW σ) e < k
              · rw [if_pos y, if_pos (by omega)]
              · rw [if_neg y, if_neg (by omega)]
          have SW : ∀ v b', v = nI (wst (sL σ) (wrt r) (wwr r) (H1 x) (A x) (wpt (sW σ) (sH σ) H1 D1 x)) → zb_X8_year_336 K J (zwI M' 209 k v) [some (.ref 200), some (.int (nI r)), some (.int (nI n)), some (.int (nI N)), some (.int (nI (wrt r))), some (.int (nI k)), b'] [] := by
            intro v b' hv
            refine S336 _ b' (hs.w (by simp)) (zsm.rf.w (by simp)) (fun j hj => ?_) ?_
            · simp only [zwI_L, zwI_I, zwI_J, zwI_R, zwJ_L, zwJ_I, zwJ_J, zwJ_R, zwR_L, zwR_I, zwR_J, zwR_R, zw2_s, zw2_n, ne_eq, not_false_eq_true, reduceCtorEq, not_true_eq_false, Nat.reduceEqDiff]; rw [zup_n hj]
            · simp only [zwI_L, zwI_I, zwI_J, zwI_R, zwJ_L, zwJ_I, zwJ_J, zwJ_R, zwR_L, zwR_I, zwR_J, zwR_R, zw2_s, zw2_n, ne_eq, not_false_eq_true, reduceCtorEq, not_true_eq_false, Nat.reduceEqDiff]; rw [zup_s]; exact hv
          have S292 : ∀ v, v + 0 = v → nI (H1 x) + v = nI (wst (sL σ) (wrt r) (wwr r) (H1 x) (A x) (wpt (sW σ) (sH σ) H1 D1 x)) → zb_X8_year_292 K J M' [some (.ref 200), some (.int (nI r)), some (.int (nI n)), some (.int (nI N)), some (.int (nI (wrt r))), some (.int (nI k)), b] [.int v, .int (nI (H1 x)), .int (nI k), .ref 209] := by
            intro v _ hv
            simp only [zb_X8_year_292, zsh_209, nI_clamp (show k < 2 ^ 31 by omega), zT_push, zT_bin, zT_div, zT_bil, zT_shl, zT_un, zT_i2l, zT_l2i, zT_lcmp, zT_ild, zT_lld, zT_ald, zT_ist, zT_lst, zT_ast, zT_iinc, zT_dup, zT_dup2, zT_pop, zT_if1, zT_if2, zT_ifn, zT_getI, zT_getJ, zT_getR, zT_putI, zT_putZ, zT_putJ, zT_putR, zT_ald0, zT_lald, zT_aald, zT_iast, zT_zast, zT_bast, zT_last, zT_aast, zT_iret, zT_nret, zT_aret, zT_vret, zT_oi, zT_mm, zT_ialX, zT_S1, zT_S2, zT_S3, zT_V0, zT_V1, zT_V2, zT_V3, zT_V4, zT_V5, zT_V6, zT_I0, zT_I1, zT_I2, zlg, zlset, zlpr, zent, zok, va_rf, List.length_cons, List.length_nil, List.replicate, List.cons_append, List.nil_append, List.append_nil, Option.toList_some, Option.toList_none, Option.toList, Nat.reduceAdd, Nat.reduceSub, Nat.reduceLeDiff, Nat.zero_add, Nat.zero_le, true_and, and_true, Nat.le_refl, ge_iff_le, Nat.reduceEqDiff]
            exact ⟨hin, SW _ _ hv⟩
          have S291 : H1 x = wst (sL σ) (wrt r) (wwr r) (H1 x) (A x) (wpt (sW σ) (sH σ) H1 D1 x) → zb_X8_year_291 K J M' [some (.ref 200), some (.int (nI r)), some (.int (nI n)), some (.int (nI N)), some (.int (nI (wrt r))), some (.int (nI k)), b] [.int (nI (H1 x)), .int (nI k), .ref 209] := by
            intro hv
            simp only [zb_X8_year_291, zT_push, zT_bin, zT_div, zT_bil, zT_shl, zT_un, zT_i2l, zT_l2i, zT_lcmp, zT_ild, zT_lld, zT_ald, zT_ist, zT_lst, zT_ast, zT_iinc, zT_dup, zT_dup2, zT_pop, zT_if1, zT_if2, zT_ifn, zT_getI, zT_getJ, zT_getR, zT_putI, zT_putZ, zT_putJ, zT_putR, zT_ald0, zT_lald, zT_aald, zT_iast, zT_zast, zT_bast, zT_last, zT_aast, zT_iret, zT_nret, zT_aret, zT_vret, zT_oi, zT_mm, zT_ialX, zT_S1, zT_S2, zT_S3, zT_V0, zT_V1, zT_V2, zT_V3, zT_V4, zT_V5, zT_V6, zT_I0, zT_I1, zT_I2, zlg, zlset, zlpr, zent, zok, va_rf, List.length_cons, List.length_nil, List.replicate, List.cons_append, List.nil_append, List.append_nil, Option.toList_some, Option.toList_none, Option.toList, Nat.reduceAdd, Nat.reduceSub, Nat.reduceLeDiff, Nat.zero_add, Nat.zero_le, true_and, and_true, Nat.le_refl, ge_iff_le, Nat.reduceEqDiff]
            exact S292 0 (Int32.add_zero _) (by rw [← hv]; exact Int32.add_zero _)
          have S334 : ∀ v, nI (H1 x) - v = nI (wst (sL σ) (wrt r) (wwr r) (H1 x) (A x) (wpt (sW σ) (sH σ) H1 D1 x)) → zb_X8_year_334 K J M' [some (.ref 200), some (.int (nI r)), some (.int (nI n)), some (.int (nI N)), some (.int (nI (wrt r))), some (.int (nI k)), b] [.int v, .int (nI (H1 x)), .int (nI k), .ref 209] := by
            intro v hv
            simp only [zb_X8_year_334, zsh_209, nI_clamp (show k < 2 ^ 31 by omega), zT_push, zT_bin, zT_div, zT_bil, zT_shl, zT_un, zT_i2l, zT_l2i, zT_lcmp, zT_ild, zT_lld, zT_ald, zT_ist, zT_lst, zT_ast, zT_iinc, zT_dup, zT_dup2, zT_pop, zT_if1, zT_if2, zT_ifn, zT_getI, zT_getJ, zT_getR, zT_putI, zT_putZ, zT_putJ, zT_putR, zT_ald0, zT_lald, zT_aald, zT_iast, zT_zast, zT_bast, zT_last, zT_aast, zT_iret, zT_nret, zT_aret, zT_vret, zT_oi, zT_mm, zT_ialX, zT_S1, zT_S2, zT_S3, zT_V0, zT_V1, zT_V2, zT_V3, zT_V4, zT_V5, zT_V6, zT_I0, zT_I1, zT_I2, zlg, zlset, zlpr, zent, zok, va_rf, List.length_cons, List.length_nil, List.replicate, List.cons_append, List.nil_append, List.append_nil, Option.toList_some, Option.toList_none, Option.toList, Nat.reduceAdd, Nat.reduceSub, Nat.reduceLeDiff, Nat.zero_add, Nat.zero_le, true_and, and_true, Nat.le_refl, ge_iff_le, Nat.reduceEqDiff]
            exact ⟨hin, SW _ _ hv⟩
          have S242 : ∀ v b', v = nI (wst (sL σ) (wrt r) (wwr r) (H1 x) (A x) (wpt (sW σ) (sH σ) H1 D1 x)) → zb_X8_year_242 K J M' [some (.ref 200), some (.int (nI r)), some (.int (nI n)), some (.int (nI N)), some (.int (nI (wrt r))), some (.int (nI k)), b'] [.int v, .int (nI k), .ref 209] := by
            intro v b' hv
            simp only [zb_X8_year_242, zsh_209, nI_clamp (show k < 2 ^ 31 by omega), zT_push, zT_bin, zT_div, zT_bil, zT_shl, zT_un, zT_i2l, zT_l2i, zT_lcmp, zT_ild, zT_lld, zT_ald, zT_ist, zT_lst, zT_ast, zT_iinc, zT_dup, zT_dup2, zT_pop, zT_if1, zT_if2, zT_ifn, zT_getI, zT_getJ, zT_getR, zT_putI, zT_putZ, zT_putJ, zT_putR, zT_ald0, zT_lald, zT_aald, zT_iast, zT_zast, zT_bast, zT_last, zT_aast, zT_iret, zT_nret, zT_aret, zT_vret, zT_oi, zT_mm, zT_ialX, zT_S1, zT_S2, zT_S3, zT_V0, zT_V1, zT_V2, zT_V3, zT_V4, zT_V5, zT_V6, zT_I0, zT_I1, zT_I2, zlg, zlset, zlpr, zent, zok, va_rf, List.length_cons, List.length_nil, List.replicate, List.cons_append, List.nil_append, List.append_nil, Option.toList_some, Option.toList_none, Option.toList, Nat.reduceAdd, Nat.reduceSub, Nat.reduceLeDiff, Nat.zero_add, Nat.zero_le, true_and, and_true, Nat.le_refl, ge_iff_le, Nat.reduceEqDiff]
            exact ⟨hin, SW _ _ hv⟩
          have hpc : ∀ (P : Prop), (if wpt (sW σ) (sH σ) H1 D1 x = true then (1 : Int32) else 0) = 0 → wpt (sW σ) (sH σ) H1 D1 x = false := by
            intro _ z
            cases y : wpt (sW σ) (sH σ) H1 D1 x with
            | false => rfl
            | true => rw [y, if_pos rfl] at z; exact absurd z (by decide)
          have hpc2 : ¬ (if wpt (sW σ) (sH σ) H1 D1 x = true then (1 : Int32) else 0) = 0 → wpt (sW σ) (sH σ) H1 D1 x = true := by
            intro z
            cases y : wpt (sW σ) (sH σ) H1 D1 x with
            | true => rfl
            | false => rw [y, if_neg (by decide)] at z; exact absurd rfl z
          refine ⟨hin, fun h2 => ⟨hin, fun h3 => ⟨hin, fun h4 => S336 _ _ hs zsm.rf (fun _ _ => rfl) ?_, fun h4 => ⟨hin, hin, fun h5 => S334 _ ?_, fun h5 => ⟨by decide, S334 _ ?_⟩⟩⟩, fun h3 => ⟨hin, hin, fun h4 => S291 ?_, fun h4 => ⟨hin, fun h5 => S291 ?_, fun h5 => S292 _ (Int32.add_zero _) ?_⟩⟩⟩, fun h2 => ⟨hin, hin, by decide, fun h3 => S242 _ _ ?_, fun h3 => S242 _ _ ?_⟩⟩
          · have z1 := zn_ge' h2 (by omega) (by omega)
            have z2 : A x < 16 := (nI_ltI (b := 16) (by omega) (by decide)).mp h4
            rw [hhk]
            unfold wst
            rw [if_neg (by omega), hpc True h3, if_neg (by decide), if_neg (by omega)]
          · have z1 := zn_ge' h2 (by omega) (by omega)
            have z2 : ¬ A x < 16 := fun z => h4 ((nI_ltI (b := 16) (by omega) (by decide)).mpr z)
            have z3 := zn_ge' (a := 0) h5 (by omega) (by omega)
            unfold wst
            rw [if_neg (by omega), hpc True h3, if_neg (by decide), if_pos (by omega), show H1 x = 0 by omega, Nat.zero_sub]
            rfl
          · have z1 := zn_ge' h2 (by omega) (by omega)
            have z2 : ¬ A x < 16 := fun z => h4 ((nI_ltI (b := 16) (by omega) (by decide)).mpr z)
            have z3 := zn_ge (a := 0) h5 (by omega) (by omega)
            unfold wst
            rw [if_neg (by omega), hpc True h3, if_neg (by decide), if_pos (by omega), show nI r - nI r / 2 * 2 = nI (wwr r) from pk_rem (a := r) (d := 2) (by omega) (by decide) (by decide)]
            exact pk_sub (by unfold wwr; omega)
          · have z1 := zn_ge' h2 (by omega) (by omega)
            have z2 := zn_ge' (a := 0) h4 (by omega) (by omega)
            unfold wst
            rw [if_neg (by omega), hpc2 h3, if_pos rfl, if_neg (by omega)]
          · have z1 := zn_ge' h2 (by omega) (by omega)
            have z2 := zn_ge (a := 0) h4 (by omega) (by omega)
            have z3 : 200 ≤ H1 x := zn_ge' (b := 200) h5 (by omega) (by omega)
            unfold wst
            rw [if_neg (by omega), hpc2 h3, if_pos rfl, if_pos (by omega), if_pos (by omega)]
            omega
          · have z1 := zn_ge' h2 (by omega) (by omega)
            have z2 := zn_ge (a := 0) h4 (by omega) (by omega)
            have z3 : H1 x < 200 := zn_ge (b := 200) h5 (by omega) (by omega)
            unfold wst
            rw [if_neg (by omega), hpc2 h3, if_pos rfl, if_pos (by omega), if_neg (by omega)]
            exact nI_1 _
          · have z1 := zn_ge h2 (by omega) (by omega)
            have z2 := zn_ge' h3 (by omega) (by omega)
            unfold wst
            rw [if_pos (by omega), if_neg (by omega)]
          · have z1 := zn_ge h2 (by omega) (by omega)
            have z2 := zn_ge h3 (by omega) (by omega)
            unfold wst
            rw [if_pos (by omega), if_pos (by omega)]
    · intro J hJ
      simp only [zb_X8_year_0, zT_push, zT_bin, zT_div, zT_bil, zT_shl, zT_un, zT_i2l, zT_l2i, zT_lcmp, zT_ild, zT_lld, zT_ald, zT_ist, zT_lst, zT_ast, zT_iinc, zT_dup, zT_dup2, zT_pop, zT_if1, zT_if2, zT_ifn, zT_getI, zT_getJ, zT_getR, zT_putI, zT_putZ, zT_putJ, zT_putR, zT_ald0, zT_lald, zT_aald, zT_iast, zT_zast, zT_bast, zT_last, zT_aast, zT_iret, zT_nret, zT_aret, zT_vret, zT_oi, zT_mm, zT_ialX, zT_S1, zT_S2, zT_S3, zT_V0, zT_V1, zT_V2, zT_V3, zT_V4, zT_V5, zT_V6, zT_I0, zT_I1, zT_I2, zlg, zlset, zlpr, zent, zok, va_rf, List.length_cons, List.length_nil, List.replicate, List.cons_append, List.nil_append, List.append_nil, Option.toList_some, Option.toList_none, Option.toList, Nat.reduceAdd, Nat.reduceSub, Nat.reduceLeDiff, Nat.zero_add, Nat.zero_le, true_and, and_true, Nat.le_refl, ge_iff_le, Nat.reduceEqDiff]
      unfold zc_X8_act
      dsimp only
      refine ⟨zsh_200, rfl, g1, σ, n, S.1, S.2, g2, rfl, hn, hH, hD, fun M' hs hh hd => ?_⟩
      have e0 : M'.2.1 200 = M.2.1 200 := hs.at (by simp)
      simp only [zsh_200, e0, w1, w2, pk_mul, zT_push, zT_bin, zT_div, zT_bil, zT_shl, zT_un, zT_i2l, zT_l2i, zT_lcmp, zT_ild, zT_lld, zT_ald, zT_ist, zT_lst, zT_ast, zT_iinc, zT_dup, zT_dup2, zT_pop, zT_if1, zT_if2, zT_ifn, zT_getI, zT_getJ, zT_getR, zT_putI, zT_putZ, zT_putJ, zT_putR, zT_ald0, zT_lald, zT_aald, zT_iast, zT_zast, zT_bast, zT_last, zT_aast, zT_iret, zT_nret, zT_aret, zT_vret, zT_oi, zT_mm, zT_ialX, zT_S1, zT_S2, zT_S3, zT_V0, zT_V1, zT_V2, zT_V3, zT_V4, zT_V5, zT_V6, zT_I0, zT_I1, zT_I2, zlg, zlset, zlpr, zent, zok, va_rf, List.length_cons, List.length_nil, List.replicate, List.cons_append, List.nil_append, List.append_nil, Option.toList_some, Option.toList_none, Option.toList, Nat.reduceAdd, Nat.reduceSub, Nat.reduceLeDiff, Nat.zero_add, Nat.zero_le, true_and, and_true, Nat.le_refl, ge_iff_le, Nat.reduceEqDiff]
      rw [← hN]
      rw [← hH1] at hh
      rw [← hD1] at hd
      exact hJ 10000 18 (by simp) _ _ _ ⟨⟨hs.up (by simp), hd⟩, Or.inl ⟨rfl, 0, none, none, rfl, by omega, hh, fun e he => absurd he (Nat.not_lt_zero _), rfl, rfl⟩⟩
  · exact h.elim
