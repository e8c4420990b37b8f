/-! DeltaRunsModel next -/
theorem zd_X8_next_0 : decode cX8_next 0 = .ok (.aload_n 0, 1) := by decide +kernel
theorem zd_X8_next_1 : decode cX8_next 1 = .ok (.aload_n 0, 1) := by decide +kernel
theorem zd_X8_next_2 : decode cX8_next 2 = .ok (.getfield 134, 3) := by decide +kernel
theorem zd_X8_next_5 : decode cX8_next 5 = .ok (.putfield 137, 3) := by decide +kernel
theorem zd_X8_next_8 : decode cX8_next 8 = .ok (.aload_n 0, 1) := by decide +kernel
theorem zd_X8_next_9 : decode cX8_next 9 = .ok (.getfield 137, 3) := by decide +kernel
theorem zd_X8_next_12 : decode cX8_next 12 = .ok (.aload_n 0, 1) := by decide +kernel
theorem zd_X8_next_13 : decode cX8_next 13 = .ok (.getfield 127, 3) := by decide +kernel
theorem zd_X8_next_16 : decode cX8_next 16 = .ok (.if_icmp .ge 30, 3) := by decide +kernel
theorem zd_X8_next_19 : decode cX8_next 19 = .ok (.aload_n 0, 1) := by decide +kernel
theorem zd_X8_next_20 : decode cX8_next 20 = .ok (.getfield 44, 3) := by decide +kernel
theorem zd_X8_next_23 : decode cX8_next 23 = .ok (.aload_n 0, 1) := by decide +kernel
theorem zd_X8_next_24 : decode cX8_next 24 = .ok (.getfield 137, 3) := by decide +kernel
theorem zd_X8_next_27 : decode cX8_next 27 = .ok (.iaload, 1) := by decide +kernel
theorem zd_X8_next_28 : decode cX8_next 28 = .ok (.bipush 32, 2) := by decide +kernel
theorem zd_X8_next_30 : decode cX8_next 30 = .ok (.if_icmp .ne 16, 3) := by decide +kernel
theorem zd_X8_next_33 : decode cX8_next 33 = .ok (.aload_n 0, 1) := by decide +kernel
theorem zd_X8_next_34 : decode cX8_next 34 = .ok (.dup, 1) := by decide +kernel
theorem zd_X8_next_35 : decode cX8_next 35 = .ok (.getfield 137, 3) := by decide +kernel
theorem zd_X8_next_38 : decode cX8_next 38 = .ok (.iconst 1, 1) := by decide +kernel
theorem zd_X8_next_39 : decode cX8_next 39 = .ok (.iadd, 1) := by decide +kernel
theorem zd_X8_next_40 : decode cX8_next 40 = .ok (.putfield 137, 3) := by decide +kernel
theorem zd_X8_next_43 : decode cX8_next 43 = .ok (.goto (-35), 3) := by decide +kernel
theorem zd_X8_next_46 : decode cX8_next 46 = .ok (.aload_n 0, 1) := by decide +kernel
theorem zd_X8_next_47 : decode cX8_next 47 = .ok (.aload_n 0, 1) := by decide +kernel
theorem zd_X8_next_48 : decode cX8_next 48 = .ok (.getfield 137, 3) := by decide +kernel
theorem zd_X8_next_51 : decode cX8_next 51 = .ok (.putfield 134, 3) := by decide +kernel
theorem zd_X8_next_54 : decode cX8_next 54 = .ok (.aload_n 0, 1) := by decide +kernel
theorem zd_X8_next_55 : decode cX8_next 55 = .ok (.lconst 0, 1) := by decide +kernel
theorem zd_X8_next_56 : decode cX8_next 56 = .ok (.putfield 140, 3) := by decide +kernel
theorem zd_X8_next_59 : decode cX8_next 59 = .ok (.aload_n 0, 1) := by decide +kernel
theorem zd_X8_next_60 : decode cX8_next 60 = .ok (.aload_n 0, 1) := by decide +kernel
theorem zd_X8_next_61 : decode cX8_next 61 = .ok (.getfield 137, 3) := by decide +kernel
theorem zd_X8_next_64 : decode cX8_next 64 = .ok (.aload_n 0, 1) := by decide +kernel
theorem zd_X8_next_65 : decode cX8_next 65 = .ok (.getfield 127, 3) := by decide +kernel
theorem zd_X8_next_68 : decode cX8_next 68 = .ok (.if_icmp .ne 7, 3) := by decide +kernel
theorem zd_X8_next_71 : decode cX8_next 71 = .ok (.iconst 0, 1) := by decide +kernel
theorem zd_X8_next_72 : decode cX8_next 72 = .ok (.goto 42, 3) := by decide +kernel
theorem zd_X8_next_75 : decode cX8_next 75 = .ok (.aload_n 0, 1) := by decide +kernel
theorem zd_X8_next_76 : decode cX8_next 76 = .ok (.getfield 44, 3) := by decide +kernel
theorem zd_X8_next_79 : decode cX8_next 79 = .ok (.aload_n 0, 1) := by decide +kernel
theorem zd_X8_next_80 : decode cX8_next 80 = .ok (.getfield 137, 3) := by decide +kernel
theorem zd_X8_next_83 : decode cX8_next 83 = .ok (.iaload, 1) := by decide +kernel
theorem zd_X8_next_84 : decode cX8_next 84 = .ok (.invokestatic 144, 3) := by decide +kernel
theorem zd_X8_next_87 : decode cX8_next 87 = .ok (.ifCond .eq 7, 3) := by decide +kernel
theorem zd_X8_next_90 : decode cX8_next 90 = .ok (.iconst 1, 1) := by decide +kernel
theorem zd_X8_next_91 : decode cX8_next 91 = .ok (.goto 23, 3) := by decide +kernel
theorem zd_X8_next_94 : decode cX8_next 94 = .ok (.aload_n 0, 1) := by decide +kernel
theorem zd_X8_next_95 : decode cX8_next 95 = .ok (.getfield 44, 3) := by decide +kernel
theorem zd_X8_next_98 : decode cX8_next 98 = .ok (.aload_n 0, 1) := by decide +kernel
theorem zd_X8_next_99 : decode cX8_next 99 = .ok (.getfield 137, 3) := by decide +kernel
theorem zd_X8_next_102 : decode cX8_next 102 = .ok (.iaload, 1) := by decide +kernel
theorem zd_X8_next_103 : decode cX8_next 103 = .ok (.invokestatic 148, 3) := by decide +kernel
theorem zd_X8_next_106 : decode cX8_next 106 = .ok (.ifCond .eq 7, 3) := by decide +kernel
theorem zd_X8_next_109 : decode cX8_next 109 = .ok (.iconst 2, 1) := by decide +kernel
theorem zd_X8_next_110 : decode cX8_next 110 = .ok (.goto 4, 3) := by decide +kernel
theorem zd_X8_next_113 : decode cX8_next 113 = .ok (.iconst 3, 1) := by decide +kernel
theorem zd_X8_next_114 : decode cX8_next 114 = .ok (.putfield 151, 3) := by decide +kernel
theorem zd_X8_next_117 : decode cX8_next 117 = .ok (.aload_n 0, 1) := by decide +kernel
theorem zd_X8_next_118 : decode cX8_next 118 = .ok (.getfield 151, 3) := by decide +kernel
theorem zd_X8_next_121 : decode cX8_next 121 = .ok (.iconst 3, 1) := by decide +kernel
theorem zd_X8_next_122 : decode cX8_next 122 = .ok (.if_icmp .ne 27, 3) := by decide +kernel
theorem zd_X8_next_125 : decode cX8_next 125 = .ok (.aload_n 0, 1) := by decide +kernel
theorem zd_X8_next_126 : decode cX8_next 126 = .ok (.aload_n 0, 1) := by decide +kernel
theorem zd_X8_next_127 : decode cX8_next 127 = .ok (.getfield 44, 3) := by decide +kernel
theorem zd_X8_next_130 : decode cX8_next 130 = .ok (.aload_n 0, 1) := by decide +kernel
theorem zd_X8_next_131 : decode cX8_next 131 = .ok (.getfield 137, 3) := by decide +kernel
theorem zd_X8_next_134 : decode cX8_next 134 = .ok (.iaload, 1) := by decide +kernel
theorem zd_X8_next_135 : decode cX8_next 135 = .ok (.i2l, 1) := by decide +kernel
theorem zd_X8_next_136 : decode cX8_next 136 = .ok (.putfield 140, 3) := by decide +kernel
theorem zd_X8_next_139 : decode cX8_next 139 = .ok (.aload_n 0, 1) := by decide +kernel
theorem zd_X8_next_140 : decode cX8_next 140 = .ok (.dup, 1) := by decide +kernel
theorem zd_X8_next_141 : decode cX8_next 141 = .ok (.getfield 134, 3) := by decide +kernel
theorem zd_X8_next_144 : decode cX8_next 144 = .ok (.iconst 1, 1) := by decide +kernel
theorem zd_X8_next_145 : decode cX8_next 145 = .ok (.iadd, 1) := by decide +kernel
theorem zd_X8_next_146 : decode cX8_next 146 = .ok (.putfield 134, 3) := by decide +kernel
theorem zd_X8_next_149 : decode cX8_next 149 = .ok (.aload_n 0, 1) := by decide +kernel
theorem zd_X8_next_150 : decode cX8_next 150 = .ok (.getfield 151, 3) := by decide +kernel
theorem zd_X8_next_153 : decode cX8_next 153 = .ok (.iconst 1, 1) := by decide +kernel
theorem zd_X8_next_154 : decode cX8_next 154 = .ok (.if_icmp .ne 89, 3) := by decide +kernel
theorem zd_X8_next_157 : decode cX8_next 157 = .ok (.aload_n 0, 1) := by decide +kernel
theorem zd_X8_next_158 : decode cX8_next 158 = .ok (.getfield 134, 3) := by decide +kernel
theorem zd_X8_next_161 : decode cX8_next 161 = .ok (.aload_n 0, 1) := by decide +kernel
theorem zd_X8_next_162 : decode cX8_next 162 = .ok (.getfield 127, 3) := by decide +kernel
theorem zd_X8_next_165 : decode cX8_next 165 = .ok (.if_icmp .ge 78, 3) := by decide +kernel
theorem zd_X8_next_168 : decode cX8_next 168 = .ok (.aload_n 0, 1) := by decide +kernel
theorem zd_X8_next_169 : decode cX8_next 169 = .ok (.getfield 44, 3) := by decide +kernel
theorem zd_X8_next_172 : decode cX8_next 172 = .ok (.aload_n 0, 1) := by decide +kernel
theorem zd_X8_next_173 : decode cX8_next 173 = .ok (.getfield 134, 3) := by decide +kernel
theorem zd_X8_next_176 : decode cX8_next 176 = .ok (.iaload, 1) := by decide +kernel
theorem zd_X8_next_177 : decode cX8_next 177 = .ok (.invokestatic 144, 3) := by decide +kernel
theorem zd_X8_next_180 : decode cX8_next 180 = .ok (.ifCond .eq 63, 3) := by decide +kernel
theorem zd_X8_next_183 : decode cX8_next 183 = .ok (.aload_n 0, 1) := by decide +kernel
theorem zd_X8_next_184 : decode cX8_next 184 = .ok (.aload_n 0, 1) := by decide +kernel
theorem zd_X8_next_185 : decode cX8_next 185 = .ok (.getfield 134, 3) := by decide +kernel
theorem zd_X8_next_188 : decode cX8_next 188 = .ok (.aload_n 0, 1) := by decide +kernel
theorem zd_X8_next_189 : decode cX8_next 189 = .ok (.getfield 137, 3) := by decide +kernel
theorem zd_X8_next_192 : decode cX8_next 192 = .ok (.isub, 1) := by decide +kernel
theorem zd_X8_next_193 : decode cX8_next 193 = .ok (.bipush 7, 2) := by decide +kernel
theorem zd_X8_next_195 : decode cX8_next 195 = .ok (.if_icmp .ge 29, 3) := by decide +kernel
theorem zd_X8_next_198 : decode cX8_next 198 = .ok (.aload_n 0, 1) := by decide +kernel
theorem zd_X8_next_199 : decode cX8_next 199 = .ok (.getfield 140, 3) := by decide +kernel
theorem zd_X8_next_202 : decode cX8_next 202 = .ok (.ldc2_w 154, 3) := by decide +kernel
theorem zd_X8_next_205 : decode cX8_next 205 = .ok (.lmul, 1) := by decide +kernel
theorem zd_X8_next_206 : decode cX8_next 206 = .ok (.aload_n 0, 1) := by decide +kernel
theorem zd_X8_next_207 : decode cX8_next 207 = .ok (.getfield 44, 3) := by decide +kernel
theorem zd_X8_next_210 : decode cX8_next 210 = .ok (.aload_n 0, 1) := by decide +kernel
theorem zd_X8_next_211 : decode cX8_next 211 = .ok (.getfield 134, 3) := by decide +kernel
theorem zd_X8_next_214 : decode cX8_next 214 = .ok (.iaload, 1) := by decide +kernel
theorem zd_X8_next_215 : decode cX8_next 215 = .ok (.i2l, 1) := by decide +kernel
theorem zd_X8_next_216 : decode cX8_next 216 = .ok (.ladd, 1) := by decide +kernel
theorem zd_X8_next_217 : decode cX8_next 217 = .ok (.ldc2_w 156, 3) := by decide +kernel
theorem zd_X8_next_220 : decode cX8_next 220 = .ok (.lsub, 1) := by decide +kernel
theorem zd_X8_next_221 : decode cX8_next 221 = .ok (.goto 6, 3) := by decide +kernel
theorem zd_X8_next_224 : decode cX8_next 224 = .ok (.ldc2_w 158, 3) := by decide +kernel
theorem zd_X8_next_227 : decode cX8_next 227 = .ok (.putfield 140, 3) := by decide +kernel
theorem zd_X8_next_230 : decode cX8_next 230 = .ok (.aload_n 0, 1) := by decide +kernel
theorem zd_X8_next_231 : decode cX8_next 231 = .ok (.dup, 1) := by decide +kernel
theorem zd_X8_next_232 : decode cX8_next 232 = .ok (.getfield 134, 3) := by decide +kernel
theorem zd_X8_next_235 : decode cX8_next 235 = .ok (.iconst 1, 1) := by decide +kernel
theorem zd_X8_next_236 : decode cX8_next 236 = .ok (.iadd, 1) := by decide +kernel
theorem zd_X8_next_237 : decode cX8_next 237 = .ok (.putfield 134, 3) := by decide +kernel
theorem zd_X8_next_240 : decode cX8_next 240 = .ok (.goto (-91), 3) := by decide +kernel
theorem zd_X8_next_243 : decode cX8_next 243 = .ok (.aload_n 0, 1) := by decide +kernel
theorem zd_X8_next_244 : decode cX8_next 244 = .ok (.getfield 151, 3) := by decide +kernel
theorem zd_X8_next_247 : decode cX8_next 247 = .ok (.iconst 2, 1) := by decide +kernel
theorem zd_X8_next_248 : decode cX8_next 248 = .ok (.if_icmp .ne 87, 3) := by decide +kernel
theorem zd_X8_next_251 : decode cX8_next 251 = .ok (.aload_n 0, 1) := by decide +kernel
theorem zd_X8_next_252 : decode cX8_next 252 = .ok (.getfield 134, 3) := by decide +kernel
theorem zd_X8_next_255 : decode cX8_next 255 = .ok (.aload_n 0, 1) := by decide +kernel
theorem zd_X8_next_256 : decode cX8_next 256 = .ok (.getfield 127, 3) := by decide +kernel
theorem zd_X8_next_259 : decode cX8_next 259 = .ok (.if_icmp .ge 76, 3) := by decide +kernel
theorem zd_X8_next_262 : decode cX8_next 262 = .ok (.aload_n 0, 1) := by decide +kernel
theorem zd_X8_next_263 : decode cX8_next 263 = .ok (.getfield 44, 3) := by decide +kernel
theorem zd_X8_next_266 : decode cX8_next 266 = .ok (.aload_n 0, 1) := by decide +kernel
theorem zd_X8_next_267 : decode cX8_next 267 = .ok (.getfield 134, 3) := by decide +kernel
theorem zd_X8_next_270 : decode cX8_next 270 = .ok (.iaload, 1) := by decide +kernel
theorem zd_X8_next_271 : decode cX8_next 271 = .ok (.invokestatic 148, 3) := by decide +kernel
theorem zd_X8_next_274 : decode cX8_next 274 = .ok (.ifCond .eq 61, 3) := by decide +kernel
theorem zd_X8_next_277 : decode cX8_next 277 = .ok (.aload_n 0, 1) := by decide +kernel
theorem zd_X8_next_278 : decode cX8_next 278 = .ok (.aload_n 0, 1) := by decide +kernel
theorem zd_X8_next_279 : decode cX8_next 279 = .ok (.getfield 140, 3) := by decide +kernel
theorem zd_X8_next_282 : decode cX8_next 282 = .ok (.ldc2_w 125, 3) := by decide +kernel
theorem zd_X8_next_285 : decode cX8_next 285 = .ok (.lcmp, 1) := by decide +kernel
theorem zd_X8_next_286 : decode cX8_next 286 = .ok (.ifCond .le 10, 3) := by decide +kernel
theorem zd_X8_next_289 : decode cX8_next 289 = .ok (.aload_n 0, 1) := by decide +kernel
theorem zd_X8_next_290 : decode cX8_next 290 = .ok (.getfield 140, 3) := by decide +kernel
theorem zd_X8_next_293 : decode cX8_next 293 = .ok (.goto 26, 3) := by decide +kernel
theorem zd_X8_next_296 : decode cX8_next 296 = .ok (.aload_n 0, 1) := by decide +kernel
theorem zd_X8_next_297 : decode cX8_next 297 = .ok (.getfield 140, 3) := by decide +kernel
theorem zd_X8_next_300 : decode cX8_next 300 = .ok (.ldc2_w 113, 3) := by decide +kernel
theorem zd_X8_next_303 : decode cX8_next 303 = .ok (.lmul, 1) := by decide +kernel
theorem zd_X8_next_304 : decode cX8_next 304 = .ok (.aload_n 0, 1) := by decide +kernel
theorem zd_X8_next_305 : decode cX8_next 305 = .ok (.getfield 44, 3) := by decide +kernel
theorem zd_X8_next_308 : decode cX8_next 308 = .ok (.aload_n 0, 1) := by decide +kernel
theorem zd_X8_next_309 : decode cX8_next 309 = .ok (.getfield 134, 3) := by decide +kernel
theorem zd_X8_next_312 : decode cX8_next 312 = .ok (.iaload, 1) := by decide +kernel
theorem zd_X8_next_313 : decode cX8_next 313 = .ok (.i2l, 1) := by decide +kernel
theorem zd_X8_next_314 : decode cX8_next 314 = .ok (.ladd, 1) := by decide +kernel
theorem zd_X8_next_315 : decode cX8_next 315 = .ok (.ldc2_w 160, 3) := by decide +kernel
theorem zd_X8_next_318 : decode cX8_next 318 = .ok (.lsub, 1) := by decide +kernel
theorem zd_X8_next_319 : decode cX8_next 319 = .ok (.putfield 140, 3) := by decide +kernel
theorem zd_X8_next_322 : decode cX8_next 322 = .ok (.aload_n 0, 1) := by decide +kernel
theorem zd_X8_next_323 : decode cX8_next 323 = .ok (.dup, 1) := by decide +kernel
theorem zd_X8_next_324 : decode cX8_next 324 = .ok (.getfield 134, 3) := by decide +kernel
theorem zd_X8_next_327 : decode cX8_next 327 = .ok (.iconst 1, 1) := by decide +kernel
theorem zd_X8_next_328 : decode cX8_next 328 = .ok (.iadd, 1) := by decide +kernel
theorem zd_X8_next_329 : decode cX8_next 329 = .ok (.putfield 134, 3) := by decide +kernel
theorem zd_X8_next_332 : decode cX8_next 332 = .ok (.goto (-89), 3) := by decide +kernel
theorem zd_X8_next_335 : decode cX8_next 335 = .ok (.return_, 1) := by decide +kernel
def zb_X8_next_0 (K : zKt) (J : Nat → zPP) : zPP := zT_ald 0 (zT_ald 0 (zT_getI 8 19 38 (zT_putI 8 18 38 (J 8))))
theorem zbs_X8_next_0 {X : zCt} (hR : zRX X = { frames := 1, cells := 0, slots := 0, locals := 20 }) (J : Nat → zPP) (hJ : ∀ h ∈ ([8, 149, 243] : List Nat), zSd X RX8 "next" cX8_next 1 none h (J h)) : zSd X RX8 "next" cX8_next 1 none 0 (zb_X8_next_0 (zKX X) J) := zs_aload_n zd_X8_next_0 rfl (zs_aload_n zd_X8_next_1 rfl (zs_getI (ci := 8) (j := 19) (T := TX8) rfl inX8 (by decide) gw_3_108 rfl zd_X8_next_2 (zs_putI (ci := 8) (j := 18) (T := TX8) rfl inX8 tyX8_ok nmX8 (by decide) gw_3_107 rfl rfl rfl zd_X8_next_5 (hJ 8 (by decide)))))
def zb_X8_next_114 (K : zKt) (J : Nat → zPP) : zPP := zT_putI 8 20 38 (zT_ald 0 (zT_getI 8 20 38 (zT_push (.int 3) (zT_if2 (fun x y => x = y) (zT_ald 0 (zT_ald 0 (zT_getR 8 16 38 (zT_ald 0 (zT_getI 8 18 38 (zT_ald0 0 (zT_i2l (zT_putJ 8 21 38 (zT_ald 0 (zT_dup (zT_getI 8 19 38 (zT_push (.int 1) (zT_bin (fun x y => x + y) (zT_putI 8 19 38 (J 149))))))))))))))) (J 149)))))
theorem zbs_X8_next_114 {X : zCt} (hR : zRX X = { frames := 1, cells := 0, slots := 0, locals := 20 }) (J : Nat → zPP) (hJ : ∀ h ∈ ([8, 149, 243] : List Nat), zSd X RX8 "next" cX8_next 1 none h (J h)) : zSd X RX8 "next" cX8_next 1 none 114 (zb_X8_next_114 (zKX X) J) := zs_putI (ci := 8) (j := 20) (T := TX8) rfl inX8 tyX8_ok nmX8 (by decide) gw_3_109 rfl rfl rfl zd_X8_next_114 (zs_aload_n zd_X8_next_117 rfl (zs_getI (ci := 8) (j := 20) (T := TX8) rfl inX8 (by decide) gw_3_109 rfl zd_X8_next_118 (zs_iconst zd_X8_next_121 (by decide) (zs_icmp_ne (tgt := 149) zd_X8_next_122 (by decide) (hJ 149 (by decide)) (zs_aload_n zd_X8_next_125 rfl (zs_aload_n zd_X8_next_126 rfl (zs_getR (ci := 8) (j := 16) (T := TX8) rfl inX8 (by decide) gw_3_105 rfl zd_X8_next_127 (zs_aload_n zd_X8_next_130 rfl (zs_getI (ci := 8) (j := 18) (T := TX8) rfl inX8 (by decide) gw_3_107 rfl zd_X8_next_131 (zs_iald zd_X8_next_134 (zs_i2l zd_X8_next_135 (zs_putJ (ci := 8) (j := 21) (T := TX8) rfl inX8 tyX8_ok nmX8 (by decide) gw_3_110 rfl rfl rfl zd_X8_next_136 (zs_aload_n zd_X8_next_139 rfl (zs_dup zd_X8_next_140 (zs_getI (ci := 8) (j := 19) (T := TX8) rfl inX8 (by decide) gw_3_108 rfl zd_X8_next_141 (zs_iconst zd_X8_next_144 (by decide) (zs_iadd zd_X8_next_145 (zs_putI (ci := 8) (j := 19) (T := TX8) rfl inX8 tyX8_ok nmX8 (by decide) gw_3_108 rfl rfl rfl zd_X8_next_146 (hJ 149 (by decide))))))))))))))))))))
def zb_X8_next_46 (K : zKt) (J : Nat → zPP) : zPP := zT_ald 0 (zT_ald 0 (zT_getI 8 18 38 (zT_putI 8 19 38 (zT_ald 0 (zT_push (.long 0) (zT_putJ 8 21 38 (zT_ald 0 (zT_ald 0 (zT_getI 8 18 38 (zT_ald 0 (zT_getI 8 17 38 (zT_if2 (fun x y => x = y) (zT_push (.int 0) (zb_X8_next_114 K J)) (zT_ald 0 (zT_getR 8 16 38 (zT_ald 0 (zT_getI 8 18 38 (zT_ald0 0 (zT_S1 zok zc_X8_isSmall (zT_if1 (fun x => x = 0) (zT_ald 0 (zT_getR 8 16 38 (zT_ald 0 (zT_getI 8 18 38 (zT_ald0 0 (zT_S1 zok zc_X8_isDigit (zT_if1 (fun x => x = 0) (zT_push (.int 3) (zb_X8_next_114 K J)) (zT_push (.int 2) (zb_X8_next_114 K J))))))))) (zT_push (.int 1) (zb_X8_next_114 K J)))))))))))))))))))))
theorem zbs_X8_next_46 {X : zCt} (hR : zRX X = { frames := 1, cells := 0, slots := 0, locals := 20 }) (J : Nat → zPP) (hJ : ∀ h ∈ ([8, 149, 243] : List Nat), zSd X RX8 "next" cX8_next 1 none h (J h)) : zSd X RX8 "next" cX8_next 1 none 46 (zb_X8_next_46 (zKX X) J) := zs_aload_n zd_X8_next_46 rfl (zs_aload_n zd_X8_next_47 rfl (zs_getI (ci := 8) (j := 18) (T := TX8) rfl inX8 (by decide) gw_3_107 rfl zd_X8_next_48 (zs_putI (ci := 8) (j := 19) (T := TX8) rfl inX8 tyX8_ok nmX8 (by decide) gw_3_108 rfl rfl rfl zd_X8_next_51 (zs_aload_n zd_X8_next_54 rfl (zs_lconst zd_X8_next_55 (by decide) (zs_putJ (ci := 8) (j := 21) (T := TX8) rfl inX8 tyX8_ok nmX8 (by decide) gw_3_110 rfl rfl rfl zd_X8_next_56 (zs_aload_n zd_X8_next_59 rfl (zs_aload_n zd_X8_next_60 rfl (zs_getI (ci := 8) (j := 18) (T := TX8) rfl inX8 (by decide) gw_3_107 rfl zd_X8_next_61 (zs_aload_n zd_X8_next_64 rfl (zs_getI (ci := 8) (j := 17) (T := TX8) rfl inX8 (by decide) gw_3_106 rfl zd_X8_next_65 (zs_icmp_ne (tgt := 75) zd_X8_next_68 (by decide) (zs_aload_n zd_X8_next_75 rfl (zs_getR (ci := 8) (j := 16) (T := TX8) rfl inX8 (by decide) gw_3_105 rfl zd_X8_next_76 (zs_aload_n zd_X8_next_79 rfl (zs_getI (ci := 8) (j := 18) (T := TX8) rfl inX8 (by decide) gw_3_107 rfl zd_X8_next_80 (zs_iald zd_X8_next_83 (zs_S (zm_X8_isSmall _ _ _) gw_4_18 gw_4_16 gw_4_17 gw_1_7 zdn_X8_isSmall (zrm hR (by decide) (by decide)) zd_X8_next_84 (zCl_S1 zok_l) (zs_if_eq (tgt := 94) zd_X8_next_87 (by decide) (zs_aload_n zd_X8_next_94 rfl (zs_getR (ci := 8) (j := 16) (T := TX8) rfl inX8 (by decide) gw_3_105 rfl zd_X8_next_95 (zs_aload_n zd_X8_next_98 rfl (zs_getI (ci := 8) (j := 18) (T := TX8) rfl inX8 (by decide) gw_3_107 rfl zd_X8_next_99 (zs_iald zd_X8_next_102 (zs_S (zm_X8_isDigit _ _ _) gw_4_21 gw_4_19 gw_4_20 gw_1_7 zdn_X8_isDigit (zrm hR (by decide) (by decide)) zd_X8_next_103 (zCl_S1 zok_l) (zs_if_eq (tgt := 113) zd_X8_next_106 (by decide) (zs_iconst zd_X8_next_113 (by decide) (zbs_X8_next_114 hR J hJ)) (zs_iconst zd_X8_next_109 (by decide) (zs_goto (tgt := 114) zd_X8_next_110 (by decide) (zbs_X8_next_114 hR J hJ)))))))))) (zs_iconst zd_X8_next_90 (by decide) (zs_goto (tgt := 114) zd_X8_next_91 (by decide) (zbs_X8_next_114 hR J hJ)))))))))) (zs_iconst zd_X8_next_71 (by decide) (zs_goto (tgt := 114) zd_X8_next_72 (by decide) (zbs_X8_next_114 hR J hJ)))))))))))))))
def zb_X8_next_8 (K : zKt) (J : Nat → zPP) : zPP := zT_ald 0 (zT_getI 8 18 38 (zT_ald 0 (zT_getI 8 17 38 (zT_if2 (fun x y => y ≤ x) (zb_X8_next_46 K J) (zT_ald 0 (zT_getR 8 16 38 (zT_ald 0 (zT_getI 8 18 38 (zT_ald0 0 (zT_push (.int 32) (zT_if2 (fun x y => x = y) (zT_ald 0 (zT_dup (zT_getI 8 18 38 (zT_push (.int 1) (zT_bin (fun x y => x + y) (zT_putI 8 18 38 (J 8))))))) (zb_X8_next_46 K J))))))))))))
theorem zbs_X8_next_8 {X : zCt} (hR : zRX X = { frames := 1, cells := 0, slots := 0, locals := 20 }) (J : Nat → zPP) (hJ : ∀ h ∈ ([8, 149, 243] : List Nat), zSd X RX8 "next" cX8_next 1 none h (J h)) : zSd X RX8 "next" cX8_next 1 none 8 (zb_X8_next_8 (zKX X) J) := zs_aload_n zd_X8_next_8 rfl (zs_getI (ci := 8) (j := 18) (T := TX8) rfl inX8 (by decide) gw_3_107 rfl zd_X8_next_9 (zs_aload_n zd_X8_next_12 rfl (zs_getI (ci := 8) (j := 17) (T := TX8) rfl inX8 (by decide) gw_3_106 rfl zd_X8_next_13 (zs_icmp_ge (tgt := 46) zd_X8_next_16 (by decide) (zbs_X8_next_46 hR J hJ) (zs_aload_n zd_X8_next_19 rfl (zs_getR (ci := 8) (j := 16) (T := TX8) rfl inX8 (by decide) gw_3_105 rfl zd_X8_next_20 (zs_aload_n zd_X8_next_23 rfl (zs_getI (ci := 8) (j := 18) (T := TX8) rfl inX8 (by decide) gw_3_107 rfl zd_X8_next_24 (zs_iald zd_X8_next_27 (zs_bipush zd_X8_next_28 (by decide) (zs_icmp_ne (tgt := 46) zd_X8_next_30 (by decide) (zbs_X8_next_46 hR J hJ) (zs_aload_n zd_X8_next_33 rfl (zs_dup zd_X8_next_34 (zs_getI (ci := 8) (j := 18) (T := TX8) rfl inX8 (by decide) gw_3_107 rfl zd_X8_next_35 (zs_iconst zd_X8_next_38 (by decide) (zs_iadd zd_X8_next_39 (zs_putI (ci := 8) (j := 18) (T := TX8) rfl inX8 tyX8_ok nmX8 (by decide) gw_3_107 rfl rfl rfl zd_X8_next_40 (zs_goto (tgt := 8) zd_X8_next_43 (by decide) (hJ 8 (by decide))))))))))))))))))))
def zb_X8_next_227 (K : zKt) (J : Nat → zPP) : zPP := zT_putJ 8 21 38 (zT_ald 0 (zT_dup (zT_getI 8 19 38 (zT_push (.int 1) (zT_bin (fun x y => x + y) (zT_putI 8 19 38 (J 149)))))))
theorem zbs_X8_next_227 {X : zCt} (hR : zRX X = { frames := 1, cells := 0, slots := 0, locals := 20 }) (J : Nat → zPP) (hJ : ∀ h ∈ ([8, 149, 243] : List Nat), zSd X RX8 "next" cX8_next 1 none h (J h)) : zSd X RX8 "next" cX8_next 1 none 227 (zb_X8_next_227 (zKX X) J) := zs_putJ (ci := 8) (j := 21) (T := TX8) rfl inX8 tyX8_ok nmX8 (by decide) gw_3_110 rfl rfl rfl zd_X8_next_227 (zs_aload_n zd_X8_next_230 rfl (zs_dup zd_X8_next_231 (zs_getI (ci := 8) (j := 19) (T := TX8) rfl inX8 (by decide) gw_3_108 rfl zd_X8_next_232 (zs_iconst zd_X8_next_235 (by decide) (zs_iadd zd_X8_next_236 (zs_putI (ci := 8) (j := 19) (T := TX8) rfl inX8 tyX8_ok nmX8 (by decide) gw_3_108 rfl rfl rfl zd_X8_next_237 (zs_goto (tgt := 149) zd_X8_next_240 (by decide) (hJ 149 (by decide)))))))))
def zb_X8_next_149 (K : zKt) (J : Nat → zPP) : zPP := zT_ald 0 (zT_getI 8 20 38 (zT_push (.int 1) (zT_if2 (fun x y => x = y) (zT_ald 0 (zT_getI 8 19 38 (zT_ald 0 (zT_getI 8 17 38 (zT_if2 (fun x y => y ≤ x) (J 243) (zT_ald 0 (zT_getR 8 16 38 (zT_ald 0 (zT_getI 8 19 38 (zT_ald0 0 (zT_S1 zok zc_X8_isSmall (zT_if1 (fun x => x = 0) (J 243) (zT_ald 0 (zT_ald 0 (zT_getI 8 19 38 (zT_ald 0 (zT_getI 8 18 38 (zT_bin (fun x y => x - y) (zT_push (.int 7) (zT_if2 (fun x y => y ≤ x) (zT_push (.long (-1)) (zb_X8_next_227 K J)) (zT_ald 0 (zT_getJ 8 21 38 (zT_push (.long 32) (zT_bil (fun x y => x * y) (zT_ald 0 (zT_getR 8 16 38 (zT_ald 0 (zT_getI 8 19 38 (zT_ald0 0 (zT_i2l (zT_bil (fun x y => x + y) (zT_push (.long 96) (zT_bil (fun x y => x - y) (zb_X8_next_227 K J)))))))))))))))))))))))))))))))))) (J 243))))
theorem zbs_X8_next_149 {X : zCt} (hR : zRX X = { frames := 1, cells := 0, slots := 0, locals := 20 }) (J : Nat → zPP) (hJ : ∀ h ∈ ([8, 149, 243] : List Nat), zSd X RX8 "next" cX8_next 1 none h (J h)) : zSd X RX8 "next" cX8_next 1 none 149 (zb_X8_next_149 (zKX X) J) := zs_aload_n zd_X8_next_149 rfl (zs_getI (ci := 8) (j := 20) (T := TX8) rfl inX8 (by decide) gw_3_109 rfl zd_X8_next_150 (zs_iconst zd_X8_next_153 (by decide) (zs_icmp_ne (tgt := 243) zd_X8_next_154 (by decide) (hJ 243 (by decide)) (zs_aload_n zd_X8_next_157 rfl (zs_getI (ci := 8) (j := 19) (T := TX8) rfl inX8 (by decide) gw_3_108 rfl zd_X8_next_158 (zs_aload_n zd_X8_next_161 rfl (zs_getI (ci := 8) (j := 17) (T := TX8) rfl inX8 (by decide) gw_3_106 rfl zd_X8_next_162 (zs_icmp_ge (tgt := 243) zd_X8_next_165 (by decide) (hJ 243 (by decide)) (zs_aload_n zd_X8_next_168 rfl (zs_getR (ci := 8) (j := 16) (T := TX8) rfl inX8 (by decide) gw_3_105 rfl zd_X8_next_169 (zs_aload_n zd_X8_next_172 rfl (zs_getI (ci := 8) (j := 19) (T := TX8) rfl inX8 (by decide) gw_3_108 rfl zd_X8_next_173 (zs_iald zd_X8_next_176 (zs_S (zm_X8_isSmall _ _ _) gw_4_18 gw_4_16 gw_4_17 gw_1_7 zdn_X8_isSmall (zrm hR (by decide) (by decide)) zd_X8_next_177 (zCl_S1 zok_l) (zs_if_eq (tgt := 243) zd_X8_next_180 (by decide) (hJ 243 (by decide)) (zs_aload_n zd_X8_next_183 rfl (zs_aload_n zd_X8_next_184 rfl (zs_getI (ci := 8) (j := 19) (T := TX8) rfl inX8 (by decide) gw_3_108 rfl zd_X8_next_185 (zs_aload_n zd_X8_next_188 rfl (zs_getI (ci := 8) (j := 18) (T := TX8) rfl inX8 (by decide) gw_3_107 rfl zd_X8_next_189 (zs_isub zd_X8_next_192 (zs_bipush zd_X8_next_193 (by decide) (zs_icmp_ge (tgt := 224) zd_X8_next_195 (by decide) (zs_ldc2 zd_X8_next_224 gw_4_24 (zbs_X8_next_227 hR J hJ)) (zs_aload_n zd_X8_next_198 rfl (zs_getJ (ci := 8) (j := 21) (T := TX8) rfl inX8 (by decide) gw_3_110 rfl zd_X8_next_199 (zs_ldc2 zd_X8_next_202 gw_4_22 (zs_lmul zd_X8_next_205 (zs_aload_n zd_X8_next_206 rfl (zs_getR (ci := 8) (j := 16) (T := TX8) rfl inX8 (by decide) gw_3_105 rfl zd_X8_next_207 (zs_aload_n zd_X8_next_210 rfl (zs_getI (ci := 8) (j := 19) (T := TX8) rfl inX8 (by decide) gw_3_108 rfl zd_X8_next_211 (zs_iald zd_X8_next_214 (zs_i2l zd_X8_next_215 (zs_ladd zd_X8_next_216 (zs_ldc2 zd_X8_next_217 gw_4_23 (zs_lsub zd_X8_next_220 (zs_goto (tgt := 227) zd_X8_next_221 (by decide) (zbs_X8_next_227 hR J hJ))))))))))))))))))))))))))))))))))))))
def zb_X8_next_335 (K : zKt) (J : Nat → zPP) : zPP := zT_vret K
theorem zbs_X8_next_335 {X : zCt} (hR : zRX X = { frames := 1, cells := 0, slots := 0, locals := 20 }) (J : Nat → zPP) (hJ : ∀ h ∈ ([8, 149, 243] : List Nat), zSd X RX8 "next" cX8_next 1 none h (J h)) : zSd X RX8 "next" cX8_next 1 none 335 (zb_X8_next_335 (zKX X) J) := zs_vret rfl zd_X8_next_335
def zb_X8_next_319 (K : zKt) (J : Nat → zPP) : zPP := zT_putJ 8 21 38 (zT_ald 0 (zT_dup (zT_getI 8 19 38 (zT_push (.int 1) (zT_bin (fun x y => x + y) (zT_putI 8 19 38 (J 243)))))))
theorem zbs_X8_next_319 {X : zCt} (hR : zRX X = { frames := 1, cells := 0, slots := 0, locals := 20 }) (J : Nat → zPP) (hJ : ∀ h ∈ ([8, 149, 243] : List Nat), zSd X RX8 "next" cX8_next 1 none h (J h)) : zSd X RX8 "next" cX8_next 1 none 319 (zb_X8_next_319 (zKX X) J) := zs_putJ (ci := 8) (j := 21) (T := TX8) rfl inX8 tyX8_ok nmX8 (by decide) gw_3_110 rfl rfl rfl zd_X8_next_319 (zs_aload_n zd_X8_next_322 rfl (zs_dup zd_X8_next_323 (zs_getI (ci := 8) (j := 19) (T := TX8) rfl inX8 (by decide) gw_3_108 rfl zd_X8_next_324 (zs_iconst zd_X8_next_327 (by decide) (zs_iadd zd_X8_next_328 (zs_putI (ci := 8) (j := 19) (T := TX8) rfl inX8 tyX8_ok nmX8 (by decide) gw_3_108 rfl rfl rfl zd_X8_next_329 (zs_goto (tgt := 243) zd_X8_next_332 (by decide) (hJ 243 (by decide)))))))))
def zb_X8_next_243 (K : zKt) (J : Nat → zPP) : zPP := zT_ald 0 (zT_getI 8 20 38 (zT_push (.int 2) (zT_if2 (fun x y => x = y) (zT_ald 0 (zT_getI 8 19 38 (zT_ald 0 (zT_getI 8 17 38 (zT_if2 (fun x y => y ≤ x) (zb_X8_next_335 K J) (zT_ald 0 (zT_getR 8 16 38 (zT_ald 0 (zT_getI 8 19 38 (zT_ald0 0 (zT_S1 zok zc_X8_isDigit (zT_if1 (fun x => x = 0) (zb_X8_next_335 K J) (zT_ald 0 (zT_ald 0 (zT_getJ 8 21 38 (zT_push (.long 1000) (zT_lcmp (zT_if1 (fun x => x ≤ 0) (zT_ald 0 (zT_getJ 8 21 38 (zT_push (.long 10) (zT_bil (fun x y => x * y) (zT_ald 0 (zT_getR 8 16 38 (zT_ald 0 (zT_getI 8 19 38 (zT_ald0 0 (zT_i2l (zT_bil (fun x y => x + y) (zT_push (.long 48) (zT_bil (fun x y => x - y) (zb_X8_next_319 K J)))))))))))))) (zT_ald 0 (zT_getJ 8 21 38 (zb_X8_next_319 K J))))))))))))))))))))) (zb_X8_next_335 K J))))
theorem zbs_X8_next_243 {X : zCt} (hR : zRX X = { frames := 1, cells := 0, slots := 0, locals := 20 }) (J : Nat → zPP) (hJ : ∀ h ∈ ([8, 149, 243] : List Nat), zSd X RX8 "next" cX8_next 1 none h (J h)) : zSd X RX8 "next" cX8_next 1 none 243 (zb_X8_next_243 (zKX X) J) := zs_aload_n zd_X8_next_243 rfl (zs_getI (ci := 8) (j := 20) (T := TX8) rfl inX8 (by decide) gw_3_109 rfl zd_X8_next_244 (zs_iconst zd_X8_next_247 (by decide) (zs_icmp_ne (tgt := 335) zd_X8_next_248 (by decide) (zbs_X8_next_335 hR J hJ) (zs_aload_n zd_X8_next_251 rfl (zs_getI (ci := 8) (j := 19) (T := TX8) rfl inX8 (by decide) gw_3_108 rfl zd_X8_next_252 (zs_aload_n zd_X8_next_255 rfl (zs_getI (ci := 8) (j := 17) (T := TX8) rfl inX8 (by decide) gw_3_106 rfl zd_X8_next_256 (zs_icmp_ge (tgt := 335) zd_X8_next_259 (by decide) (zbs_X8_next_335 hR J hJ) (zs_aload_n zd_X8_next_262 rfl (zs_getR (ci := 8) (j := 16) (T := TX8) rfl inX8 (by decide) gw_3_105 rfl zd_X8_next_263 (zs_aload_n zd_X8_next_266 rfl (zs_getI (ci := 8) (j := 19) (T := TX8) rfl inX8 (by decide) gw_3_108 rfl zd_X8_next_267 (zs_iald zd_X8_next_270 (zs_S (zm_X8_isDigit _ _ _) gw_4_21 gw_4_19 gw_4_20 gw_1_7 zdn_X8_isDigit (zrm hR (by decide) (by decide)) zd_X8_next_271 (zCl_S1 zok_l) (zs_if_eq (tgt := 335) zd_X8_next_274 (by decide) (zbs_X8_next_335 hR J hJ) (zs_aload_n zd_X8_next_277 rfl (zs_aload_n zd_X8_next_278 rfl (zs_getJ (ci := 8) (j := 21) (T := TX8) rfl inX8 (by decide) gw_3_110 rfl zd_X8_next_279 (zs_ldc2 zd_X8_next_282 gw_3_235 (zs_lcmp zd_X8_next_285 (zs_if_le (tgt := 296) zd_X8_next_286 (by decide) (zs_aload_n zd_X8_next_296 rfl (zs_getJ (ci := 8) (j := 21) (T := TX8) rfl inX8 (by decide) gw_3_110 rfl zd_X8_next_297 (zs_ldc2 zd_X8_next_300 gw_3_213 (zs_lmul zd_X8_next_303 (zs_aload_n zd_X8_next_304 rfl (zs_getR (ci := 8) (j := 16) (T := TX8) rfl inX8 (by decide) gw_3_105 rfl zd_X8_next_305 (zs_aload_n zd_X8_next_308 rfl (zs_getI (ci := 8) (j := 19) (T := TX8) rfl inX8 (by decide) gw_3_108 rfl zd_X8_next_309 (zs_iald zd_X8_next_312 (zs_i2l zd_X8_next_313 (zs_ladd zd_X8_next_314 (zs_ldc2 zd_X8_next_315 gw_4_25 (zs_lsub zd_X8_next_318 (zbs_X8_next_319 hR J hJ)))))))))))))) (zs_aload_n zd_X8_next_289 rfl (zs_getJ (ci := 8) (j := 21) (T := TX8) rfl inX8 (by decide) gw_3_110 rfl zd_X8_next_290 (zs_goto (tgt := 319) zd_X8_next_293 (by decide) (zbs_X8_next_319 hR J hJ)))))))))))))))))))))))))
def zB_X8_next (K : zKt) (J : Nat → zPP) (h : Nat) : zPP := if h = 8 then zb_X8_next_8 K J else if h = 149 then zb_X8_next_149 K J else if h = 243 then zb_X8_next_243 K J else (fun _ _ _ => False)
theorem zBs_X8_next {X : zCt} (hR : zRX X = { frames := 1, cells := 0, slots := 0, locals := 20 }) : ∀ J : Nat → zPP, (∀ h ∈ ([8, 149, 243] : List Nat), zSd X RX8 "next" cX8_next 1 none h (J h)) → ∀ h ∈ ([8, 149, 243] : List Nat), zSd X RX8 "next" cX8_next 1 none h (zB_X8_next (zKX X) J h) := by
  intro J hJ h hh
  unfold zB_X8_next
  simp only [List.mem_cons, List.not_mem_nil, or_false] at hh
  rcases hh with rfl | rfl | rfl
  · exact zbs_X8_next_8 hR J hJ
  · exact zbs_X8_next_149 hR J hJ
  · exact zbs_X8_next_243 hR J hJ
theorem zdn_X8_next : yX8_next.cls ≠ "java/lang/invoke/MethodHandle" ∧ yX8_next.cls ≠ "java/lang/invoke/VarHandle" ∧ (parseMethodDescriptor yX8_next.desc).map (fun d => d.parameters.length) = some 0 := by decide +kernel
/-- from, to, sort and worth may have changed -/
def mcn (M M' : zMm) : Prop := M'.1 = M.1 ∧ M'.2.2.2 = M.2.2.2 ∧ (∀ k, k ≠ 200 → M'.2.1 k = M.2.1 k) ∧ ∀ j, j < 18 ∨ 21 < j → M'.2.1 200 j = M.2.1 200 j
theorem mcn.rf {M : zMm} : mcn M M := ⟨rfl, rfl, fun _ _ => rfl, fun _ _ => rfl⟩
theorem mcn.tr {M M' M'' : zMm} (h : mcn M M') (h' : mcn M' M'') : mcn M M'' := ⟨h'.1.trans h.1, h'.2.1.trans h.2.1, fun k hk => (h'.2.2.1 k hk).trans (h.2.2.1 k hk), fun j hj => (h'.2.2.2 j hj).trans (h.2.2.2 j hj)⟩
theorem mcn.w {M M' : zMm} (h : mcn M M') {j : Nat} {x : Int32} (hj : 18 ≤ j ∧ j ≤ 21) : mcn M (zwI M' 200 j x) := ⟨h.1, h.2.1, fun k hk => (zw2_n hk).trans (h.2.2.1 k hk), fun i hi => by
  simp only [zwI_L, zwI_I, zwI_J, zwI_R, zwJ_L, zwJ_I, zwJ_J, zwJ_R, zwR_L, zwR_I, zwR_J, zwR_R, zw2_s, zw2_n, ne_eq, not_false_eq_true, reduceCtorEq, not_true_eq_false, Nat.reduceEqDiff]
  rw [zup_n (by omega)]
  exact h.2.2.2 i hi⟩
theorem mcn.wJ {M M' : zMm} (h : mcn M M') {j : Nat} {x : Int64} : mcn M (zwJ M' 200 j x) := h
def mTk (M : zMm) (tp : List Nat) (a : Nat) : Prop := M.2.1 200 18 = nI a ∧ M.2.1 200 19 = nI (wte tp a) ∧ M.2.1 200 20 = nI (msr tp a) ∧ M.2.2.1 200 21 = mwo tp a
theorem zMT.at {M : zMm} {tp : List Nat} (h : zMT M tp) {i : Nat} (hi : i < tp.length) : bt tp i < 256 ∧ M.2.1 208 i = nI (bt tp i) := by
  have hg : tp[i]? = some (bt tp i) := by
    unfold bt
    rw [List.getD_eq_getElem?_getD, List.getElem?_eq_getElem hi]
    rfl
  exact h.2.2 i _ hg
theorem sml {b : Nat} (hb : b < 256) : zbI (97 ≤ nI b ∧ nI b ≤ 122) = zbI (ltr b = true) := zbI_c (by
  have h1 : (97 ≤ nI b) ↔ 97 ≤ b := nI_leI (a := 97) (by decide) (by omega)
  have h2 : (nI b ≤ 122) ↔ b ≤ 122 := nI_leI (b := 122) (by omega) (by decide)
  unfold ltr
  rw [h1, h2, decide_eq_true_eq])
theorem dig {b : Nat} (hb : b < 256) : zbI (48 ≤ nI b ∧ nI b ≤ 57) = zbI (dgt b = true) := zbI_c (by
  have h1 : (48 ≤ nI b) ↔ 48 ≤ b := nI_leI (a := 48) (by decide) (by omega)
  have h2 : (nI b ≤ 57) ↔ b ≤ 57 := nI_leI (b := 57) (by omega) (by decide)
  unfold dgt
  rw [h1, h2, decide_eq_true_eq])
theorem digP {b : Nat} (hb : b < 256) : (48 ≤ nI b ∧ nI b ≤ 57) = (dgt b = true) := by
  have h1 : (48 ≤ nI b) ↔ 48 ≤ b := nI_leI (a := 48) (by decide) (by omega)
  have h2 : (nI b ≤ 57) ↔ b ≤ 57 := nI_leI (b := 57) (by omega) (by decide)
  unfold dgt
  rw [h1, h2, decide_eq_true_eq]
def zc_X8_next (a : List Value) (M : zMm) (K : zKt) : Prop := match a with
  | [.ref k] => k = 200 ∧ M.2.2.2 200 16 = some 208 ∧ ∃ tp s, zMT M tp ∧ M.2.1 200 19 = nI s ∧ s ≤ tp.length ∧ ∀ M', mcn M M' → mTk M' tp (wsk tp s) → K none M'
  | _ => False
set_option maxHeartbeats 4000000 in
theorem zm_X8_next (l : Launch) (D : va_G) (Y : Nat → ClassId) : zMt l D Y yX8_next cX8_next 1 none 1 20 0 0 zc_X8_next := by
  refine zwhile (heads := [8, 149, 243]) (by decide) (fun K J _ _ => zb_X8_next_0 K J) (fun K _ _ J h => zB_X8_next K J h) (fun X hR J hJ => zbs_X8_next_0 hR J hJ) (fun X hR => zBs_X8_next hR) (fun avs M K h => ?_)
  unfold zc_X8_next at h
  split at h
  · obtain ⟨rfl, r16, tp, s, hT, h19, hs, h⟩ := h
    obtain ⟨t1, t2, t3⟩ := id hT
    have tb : ∀ i, i < tp.length → bt tp i < 256 ∧ M.2.1 208 i = nI (bt tp i) := fun i hi => hT.at hi
    obtain ⟨a, hae⟩ : ∃ a, a = wsk tp s := ⟨_, rfl⟩
    obtain ⟨ha1, ha2⟩ := wsk_bd hs
    rw [← hae] at h ha1 ha2
    refine ⟨by simp [zent], fun q hd M' ls st => (mcn M M' ∧ ls = [some (.ref 200)] ∧ st = []) ∧ ((hd = 8 ∧ ∃ i, q = 2000 - i ∧ i ≤ tp.length ∧ wsk tp i = a ∧ M'.2.1 200 18 = nI i) ∨
      ((M'.2.1 200 18 = nI a ∧ M'.2.1 200 20 = nI (msr tp a)) ∧ ((hd = 149 ∧ ((msr tp a = 1 ∧ ∃ j, q = 1500 - j ∧ a ≤ j ∧ j ≤ tp.length ∧ (∀ m, a ≤ m → m < j → ltr (bt tp m) = true) ∧ M'.2.1 200 19 = nI j ∧ M'.2.2.1 200 21 = mwl tp a (j - a)) ∨ (msr tp a ≠ 1 ∧ q = 1200 ∧ M'.2.1 200 19 = nI (if msr tp a = 3 then a + 1 else a) ∧ M'.2.2.1 200 21 = if msr tp a = 3 then lN (bt tp a) else 0))) ∨
        (hd = 243 ∧ ((msr tp a = 2 ∧ ∃ j, q = 1000 - j ∧ a ≤ j ∧ j ≤ tp.length ∧ (∀ m, a ≤ m → m < j → dgt (bt tp m) = true) ∧ M'.2.1 200 19 = nI j ∧ M'.2.2.1 200 21 = lN (mcp tp a (j - a))) ∨ (msr tp a ≠ 2 ∧ q = 500 ∧ M'.2.1 200 19 = nI (wte tp a) ∧ M'.2.2.1 200 21 = mwo tp a)))))), ?_, ?_⟩
    · rintro q J hJ hd - M' ls st ⟨⟨hs, rfl, rfl⟩, ⟨rfl, i, rfl, hi, hia, h18⟩ | ⟨⟨h18, h20⟩, ⟨rfl, h149⟩ | ⟨rfl, h243⟩⟩⟩
      · have eR := hs.2.1
        have e8 : M'.2.1 208 = M.2.1 208 := hs.2.2.1 208 (by decide)
        have e17 : M'.2.1 200 17 = nI tp.length := by rw [hs.2.2.2 17 (by omega)]; exact t1
        simp only [zB_X8_next, zb_X8_next_8, ↓reduceIte, zsh_200, zsh_208, eR, r16, h18, e17, e8, zT_push, zT_bin, zT_div, zT_bil, zT_shl, zT_un, zT_i2l, zT_l2i, zT_lcmp, zT_ild, zT_lld, zT_ald, zT_ist, zT_lst, zT_ast, zT_iinc, zT_dup, zT_dup2, zT_pop, zT_if1, zT_if2, zT_ifn, zT_getI, zT_getJ, zT_getR, zT_putI, zT_putZ, zT_putJ, zT_putR, zT_ald0, zT_lald, zT_aald, zT_iast, zT_zast, zT_bast, zT_last, zT_aast, zT_iret, zT_nret, zT_aret, zT_vret, zT_oi, zT_mm, zT_ialX, zT_S1, zT_S2, zT_S3, zT_V0, zT_V1, zT_V2, zT_V3, zT_V4, zT_V5, zT_V6, zT_I0, zT_I1, zT_I2, zlg, zlset, zlpr, zent, zok, va_rf, List.length_cons, List.length_nil, List.replicate, List.cons_append, List.nil_append, List.append_nil, Option.toList_some, Option.toList_none, Option.toList, Nat.reduceAdd, Nat.reduceSub, Nat.reduceLeDiff, Nat.zero_add, Nat.zero_le, true_and, and_true, Nat.le_refl, ge_iff_le, Nat.reduceEqDiff]
        have S46 : i = a → zb_X8_next_46 K J M' [some (.ref 200)] [] := by
          intro e
          subst e
          have hs2 : mcn M (zwJ (zwI M' 200 19 (nI i)) 200 21 0) := (hs.w (by omega)).wJ
          have eL : (zwI M' 200 19 (nI i)).2.1 200 18 = nI i := by simp only [zwI_L, zwI_I, zwI_J, zwI_R, zwJ_L, zwJ_I, zwJ_J, zwJ_R, zwR_L, zwR_I, zwR_J, zwR_R, zw2_s, zw2_n, ne_eq, not_false_eq_true, reduceCtorEq, not_true_eq_false, Nat.reduceEqDiff]; rw [zup_n (by decide), h18]
          have S114 : ∀ v, v = nI (msr tp i) → zb_X8_next_114 K J (zwJ (zwI M' 200 19 (nI i)) 200 21 0) [some (.ref 200)] [.int v, .ref 200] := by
            intro v hv
            simp only [zb_X8_next_114, zsh_200, zsh_208, zwI_R, zwJ_R, eR, r16, zwI_L, zwI_I, zwI_J, zwI_R, zwJ_L, zwJ_I, zwJ_J, zwJ_R, zwR_L, zwR_I, zwR_J, zwR_R, zw2_s, zw2_n, ne_eq, not_false_eq_true, reduceCtorEq, not_true_eq_false, Nat.reduceEqDiff, zup_s, zup_n, h18, e8, zT_push, zT_bin, zT_div, zT_bil, zT_shl, zT_un, zT_i2l, zT_l2i, zT_lcmp, zT_ild, zT_lld, zT_ald, zT_ist, zT_lst, zT_ast, zT_iinc, zT_dup, zT_dup2, zT_pop, zT_if1, zT_if2, zT_ifn, zT_getI, zT_getJ, zT_getR, zT_putI, zT_putZ, zT_putJ, zT_putR, zT_ald0, zT_lald, zT_aald, zT_iast, zT_zast, zT_bast, zT_last, zT_aast, zT_iret, zT_nret, zT_aret, zT_vret, zT_oi, zT_mm, zT_ialX, zT_S1, zT_S2, zT_S3, zT_V0, zT_V1, zT_V2, zT_V3, zT_V4, zT_V5, zT_V6, zT_I0, zT_I1, zT_I2, zlg, zlset, zlpr, zent, zok, va_rf, List.length_cons, List.length_nil, List.replicate, List.cons_append, List.nil_append, List.append_nil, Option.toList_some, Option.toList_none, Option.toList, Nat.reduceAdd, Nat.reduceSub, Nat.reduceLeDiff, Nat.zero_add, Nat.zero_le, true_and, and_true, Nat.le_refl, ge_iff_le, Nat.reduceEqDiff]
            have hv3 : v = 3 ↔ msr tp i = 3 := by
              rw [hv]
              have := msr_le (tp := tp) (a := i)
              exact nI_eq (b := 3) (by omega) (by decide)
            refine ⟨fun h1 => ?_, fun h1 => ?_⟩
            · have h3 := hv3.mp h1
              obtain ⟨hlt, -⟩ := msr_3.mp h3
              obtain ⟨b1, b2⟩ := tb i hlt
              rw [nI_clamp (by omega), b2]
              refine ⟨vp_in_nI (by omega) (by decide), hJ 1200 (by omega) 149 (by simp) _ _ _ ⟨⟨((hs2.w (by omega)).wJ).w (by omega), rfl, rfl⟩, Or.inr ⟨⟨?_, ?_⟩, Or.inl ⟨rfl, Or.inr ⟨by omega, rfl, ?_, ?_⟩⟩⟩⟩⟩
              · simp only [zwI_L, zwI_I, zwI_J, zwI_R, zwJ_L, zwJ_I, zwJ_J, zwJ_R, zwR_L, zwR_I, zwR_J, zwR_R, zw2_s, zw2_n, ne_eq, not_false_eq_true, reduceCtorEq, not_true_eq_false, Nat.reduceEqDiff, zup_s, zup_n, h18]
              · simp only [zwI_L, zwI_I, zwI_J, zwI_R, zwJ_L, zwJ_I, zwJ_J, zwJ_R, zwR_L, zwR_I, zwR_J, zwR_R, zw2_s, zw2_n, ne_eq, not_false_eq_true, reduceCtorEq, not_true_eq_false, Nat.reduceEqDiff, zup_s, zup_n]
                exact hv
              · simp only [zwI_L, zwI_I, zwI_J, zwI_R, zwJ_L, zwJ_I, zwJ_J, zwJ_R, zwR_L, zwR_I, zwR_J, zwR_R, zw2_s, zw2_n, ne_eq, not_false_eq_true, reduceCtorEq, not_true_eq_false, Nat.reduceEqDiff, zup_s, zup_n]
                rw [if_pos h3, nI_1]
              · simp only [zwI_L, zwI_I, zwI_J, zwI_R, zwJ_L, zwJ_I, zwJ_J, zwJ_R, zwR_L, zwR_I, zwR_J, zwR_R, zw2_s, zw2_n, ne_eq, not_false_eq_true, reduceCtorEq, not_true_eq_false, Nat.reduceEqDiff, zup_s, zup_n]
                rw [if_pos h3, nI_l (by omega)]
            · have h3 : ¬ msr tp i = 3 := fun z => h1 (hv3.mpr z)
              have k18 : (zwI (zwJ (zwI M' 200 19 (nI i)) 200 21 0) 200 20 v).2.1 200 18 = nI i := by simp only [zwI_L, zwI_I, zwI_J, zwI_R, zwJ_L, zwJ_I, zwJ_J, zwJ_R, zwR_L, zwR_I, zwR_J, zwR_R, zw2_s, zw2_n, ne_eq, not_false_eq_true, reduceCtorEq, not_true_eq_false, Nat.reduceEqDiff, zup_s, zup_n, h18]
              have k19 : (zwI (zwJ (zwI M' 200 19 (nI i)) 200 21 0) 200 20 v).2.1 200 19 = nI i := by simp only [zwI_L, zwI_I, zwI_J, zwI_R, zwJ_L, zwJ_I, zwJ_J, zwJ_R, zwR_L, zwR_I, zwR_J, zwR_R, zw2_s, zw2_n, ne_eq, not_false_eq_true, reduceCtorEq, not_true_eq_false, Nat.reduceEqDiff, zup_s, zup_n]
              have k20 : (zwI (zwJ (zwI M' 200 19 (nI i)) 200 21 0) 200 20 v).2.1 200 20 = nI (msr tp i) := by
                simp only [zwI_L, zwI_I, zwI_J, zwI_R, zwJ_L, zwJ_I, zwJ_J, zwJ_R, zwR_L, zwR_I, zwR_J, zwR_R, zw2_s, zw2_n, ne_eq, not_false_eq_true, reduceCtorEq, not_true_eq_false, Nat.reduceEqDiff, zup_s, zup_n]
                exact hv
              have k21 : (zwI (zwJ (zwI M' 200 19 (nI i)) 200 21 0) 200 20 v).2.2.1 200 21 = 0 := by simp only [zwI_L, zwI_I, zwI_J, zwI_R, zwJ_L, zwJ_I, zwJ_J, zwJ_R, zwR_L, zwR_I, zwR_J, zwR_R, zw2_s, zw2_n, ne_eq, not_false_eq_true, reduceCtorEq, not_true_eq_false, Nat.reduceEqDiff, zup_s, zup_n]
              by_cases h11 : msr tp i = 1
              · refine hJ (1500 - i) (by omega) 149 (by simp) _ _ _ ⟨⟨hs2.w (by omega), rfl, rfl⟩, Or.inr ⟨⟨k18, k20⟩, Or.inl ⟨rfl, Or.inl ⟨h11, i, rfl, Nat.le_refl _, hi, fun m z1 z2 => by omega, k19, ?_⟩⟩⟩⟩
                rw [k21, Nat.sub_self]
                rfl
              · refine hJ 1200 (by omega) 149 (by simp) _ _ _ ⟨⟨hs2.w (by omega), rfl, rfl⟩, Or.inr ⟨⟨k18, k20⟩, Or.inl ⟨rfl, Or.inr ⟨h11, rfl, ?_, ?_⟩⟩⟩⟩
                · rw [if_neg h3]; exact k19
                · rw [if_neg h3]; exact k21
          simp only [zb_X8_next_46, zsh_200, zsh_208, zwI_R, zwJ_R, eR, r16, zwI_L, zwI_I, zwI_J, zwI_R, zwJ_L, zwJ_I, zwJ_J, zwJ_R, zwR_L, zwR_I, zwR_J, zwR_R, zw2_s, zw2_n, ne_eq, not_false_eq_true, reduceCtorEq, not_true_eq_false, Nat.reduceEqDiff, zup_s, zup_n, h18, e17, e8, zT_push, zT_bin, zT_div, zT_bil, zT_shl, zT_un, zT_i2l, zT_l2i, zT_lcmp, zT_ild, zT_lld, zT_ald, zT_ist, zT_lst, zT_ast, zT_iinc, zT_dup, zT_dup2, zT_pop, zT_if1, zT_if2, zT_ifn, zT_getI, zT_getJ, zT_getR, zT_putI, zT_putZ, zT_putJ, zT_putR, zT_ald0, zT_lald, zT_aald, zT_iast, zT_zast, zT_bast, zT_last, zT_aast, zT_iret, zT_nret, zT_aret, zT_vret, zT_oi, zT_mm, zT_ialX, zT_S1, zT_S2, zT_S3, zT_V0, zT_V1, zT_V2, zT_V3, zT_V4, zT_V5, zT_V6, zT_I0, zT_I1, zT_I2, zlg, zlset, zlpr, zent, zok, va_rf, List.length_cons, List.length_nil, List.replicate, List.cons_append, List.nil_append, List.append_nil, Option.toList_some, Option.toList_none, Option.toList, Nat.reduceAdd, Nat.reduceSub, Nat.reduceLeDiff, Nat.zero_add, Nat.zero_le, true_and, and_true, Nat.le_refl, ge_iff_le, Nat.reduceEqDiff]
          refine ⟨fun h1 => S114 _ ?_, fun h1 => ?_⟩
          · have e := (nI_eq (by omega) (by omega)).mp h1
            rw [msr_0.mpr (by omega)]; rfl
          · have hlt : i < tp.length := by
              rcases Nat.lt_or_ge i tp.length with z | z
              · exact z
              · exact absurd (by rw [show i = tp.length by omega]) h1
            obtain ⟨b1, b2⟩ := tb i hlt
            rw [nI_clamp (by omega), b2]
            have hin : vp_in (nI i) 300 := vp_in_nI (by omega) (by decide)
            unfold zc_X8_isSmall zc_X8_isDigit
            simp only [sml b1, zbI_0, zsh_200, zsh_208, zwI_R, zwJ_R, eR, r16, zwI_L, zwI_I, zwI_J, zwI_R, zwJ_L, zwJ_I, zwJ_J, zwJ_R, zwR_L, zwR_I, zwR_J, zwR_R, zw2_s, zw2_n, ne_eq, not_false_eq_true, reduceCtorEq, not_true_eq_false, Nat.reduceEqDiff, zup_s, zup_n, h18, e8, zT_push, zT_bin, zT_div, zT_bil, zT_shl, zT_un, zT_i2l, zT_l2i, zT_lcmp, zT_ild, zT_lld, zT_ald, zT_ist, zT_lst, zT_ast, zT_iinc, zT_dup, zT_dup2, zT_pop, zT_if1, zT_if2, zT_ifn, zT_getI, zT_getJ, zT_getR, zT_putI, zT_putZ, zT_putJ, zT_putR, zT_ald0, zT_lald, zT_aald, zT_iast, zT_zast, zT_bast, zT_last, zT_aast, zT_iret, zT_nret, zT_aret, zT_vret, zT_oi, zT_mm, zT_ialX, zT_S1, zT_S2, zT_S3, zT_V0, zT_V1, zT_V2, zT_V3, zT_V4, zT_V5, zT_V6, zT_I0, zT_I1, zT_I2, zlg, zlset, zlpr, zent, zok, va_rf, List.length_cons, List.length_nil, List.replicate, List.cons_append, List.nil_append, List.append_nil, Option.toList_some, Option.toList_none, Option.toList, Nat.reduceAdd, Nat.reduceSub, Nat.reduceLeDiff, Nat.zero_add, Nat.zero_le, true_and, and_true, Nat.le_refl, ge_iff_le, Nat.reduceEqDiff]
            rw [nI_clamp (by omega), b2]
            rw [digP b1]
            refine ⟨hin, fun h2 => ⟨hin, fun h3 => S114 _ ?_, fun h3 => S114 _ ?_⟩, fun h2 => S114 _ ?_⟩
            · rw [msr_3.mpr ⟨hlt, by simpa using h2, by simpa using h3⟩]; rfl
            · rw [msr_2.mpr ⟨hlt, Classical.not_not.mp h3⟩]; rfl
            · rw [msr_1.mpr ⟨hlt, Classical.not_not.mp h2⟩]; rfl
        rw [nI_clamp (n := i) (by omega)]
        refine ⟨fun h1 => S46 ?_, fun h1 => ?_⟩
        · have := zn_ge' h1 (by omega) (by omega)
          rw [← hia]
          have e : i = tp.length := by omega
          unfold wsk
          rw [e, Nat.sub_self]
          rfl
        · have hlt := zn_ge h1 (by omega) (by omega)
          obtain ⟨b1, b2⟩ := tb i hlt
          rw [b2]
          refine ⟨vp_in_nI (by omega) (by decide), fun h2 => ?_, fun h2 => S46 ?_⟩
          · have e32 : bt tp i = 32 := (nI_eq (b := 32) (by omega) (by decide)).mp h2
            refine hJ (2000 - (i + 1)) (by omega) 8 (by simp) _ _ _ ⟨⟨hs.w (by omega), rfl, rfl⟩, Or.inl ⟨rfl, i + 1, rfl, hlt, ?_, ?_⟩⟩
            · rw [← hia]
              unfold wsk
              exact (wrun_t hlt (by unfold wsp; rw [e32]; rfl)).symm
            · simp only [zwI_L, zwI_I, zwI_J, zwI_R, zwJ_L, zwJ_I, zwJ_J, zwJ_R, zwR_L, zwR_I, zwR_J, zwR_R, zw2_s, zw2_n, ne_eq, not_false_eq_true, reduceCtorEq, not_true_eq_false, Nat.reduceEqDiff]
              rw [zup_s, nI_1]
          · rw [← hia]
            unfold wsk
            exact (wrun_f hlt (by unfold wsp; rw [decide_eq_false_iff_not]; intro z; exact h2 (by rw [z]; rfl))).symm
      · have eR := hs.2.1
        have e8 : M'.2.1 208 = M.2.1 208 := hs.2.2.1 208 (by decide)
        have e17 : M'.2.1 200 17 = nI tp.length := by rw [hs.2.2.2 17 (by omega)]; exact t1
        simp only [zB_X8_next, zb_X8_next_149, ↓reduceIte, zsh_200, zsh_208, eR, r16, h18, h20, e17, e8, Nat.reduceEqDiff, zT_push, zT_bin, zT_div, zT_bil, zT_shl, zT_un, zT_i2l, zT_l2i, zT_lcmp, zT_ild, zT_lld, zT_ald, zT_ist, zT_lst, zT_ast, zT_iinc, zT_dup, zT_dup2, zT_pop, zT_if1, zT_if2, zT_ifn, zT_getI, zT_getJ, zT_getR, zT_putI, zT_putZ, zT_putJ, zT_putR, zT_ald0, zT_lald, zT_aald, zT_iast, zT_zast, zT_bast, zT_last, zT_aast, zT_iret, zT_nret, zT_aret, zT_vret, zT_oi, zT_mm, zT_ialX, zT_S1, zT_S2, zT_S3, zT_V0, zT_V1, zT_V2, zT_V3, zT_V4, zT_V5, zT_V6, zT_I0, zT_I1, zT_I2, zlg, zlset, zlpr, zent, zok, va_rf, List.length_cons, List.length_nil, List.replicate, List.cons_append, List.nil_append, List.append_nil, Option.toList_some, Option.toList_none, Option.toList, Nat.reduceAdd, Nat.reduceSub, Nat.reduceLeDiff, Nat.zero_add, Nat.zero_le, true_and, and_true, Nat.le_refl, ge_iff_le, Nat.reduceEqDiff]
        have out : (msr tp a = 1 → M'.2.1 200 19 = nI (wte tp a) ∧ M'.2.2.1 200 21 = mwo tp a) → (msr tp a ≠ 1 → M'.2.1 200 19 = nI (if msr tp a = 3 then a + 1 else a) ∧ M'.2.2.1 200 21 = if msr tp a = 3 then lN (bt tp a) else 0) → 1000 < q → J 243 M' [some (.ref 200)] [] := by
          intro h1 h2 hq
          by_cases e1 : msr tp a = 1
          · obtain ⟨z1, z2⟩ := h1 e1
            exact hJ 500 (by omega) 243 (by simp) _ _ _ ⟨⟨hs, rfl, rfl⟩, Or.inr ⟨⟨h18, h20⟩, Or.inr ⟨rfl, Or.inr ⟨by omega, rfl, z1, z2⟩⟩⟩⟩
          · obtain ⟨z1, z2⟩ := h2 e1
            by_cases e2 : msr tp a = 2
            · rw [if_neg (by omega)] at z1 z2
              refine hJ (1000 - a) (by omega) 243 (by simp) _ _ _ ⟨⟨hs, rfl, rfl⟩, Or.inr ⟨⟨h18, h20⟩, Or.inr ⟨rfl, Or.inl ⟨e2, a, rfl, Nat.le_refl _, ha2, fun m q1 q2 => by omega, z1, ?_⟩⟩⟩⟩
              rw [z2, Nat.sub_self]
              rfl
            · refine hJ 500 (by omega) 243 (by simp) _ _ _ ⟨⟨hs, rfl, rfl⟩, Or.inr ⟨⟨h18, h20⟩, Or.inr ⟨rfl, Or.inr ⟨e2, rfl, ?_, ?_⟩⟩⟩⟩
              · rw [z1]
                by_cases e3 : msr tp a = 3
                · obtain ⟨y1, y2, y3⟩ := msr_3.mp e3
                  rw [if_pos e3, wte_sign y1 y2 y3]
                · have hle := msr_le (tp := tp) (a := a)
                  have e0 := msr_0.mp (show msr tp a = 0 by omega)
                  rw [if_neg e3]
                  unfold wte
                  rw [if_pos e0]
              · rw [z2]
                unfold mwo
                by_cases e3 : msr tp a = 3
                · obtain ⟨y1, y2, y3⟩ := msr_3.mp e3
                  rw [if_pos e3, if_neg (by omega), y2, y3, if_neg (by decide), if_neg (by decide)]
                · have hle := msr_le (tp := tp) (a := a)
                  have e0 := msr_0.mp (show msr tp a = 0 by omega)
                  rw [if_neg e3, if_pos e0]
        have hle := msr_le (tp := tp) (a := a)
        rcases h149 with ⟨e1, j, rfl, hj1, hj2, hlet, h19, h21⟩ | ⟨e1, rfl, h19, h21⟩
        · obtain ⟨hlt, hl⟩ := msr_1.mp e1
          rw [h19, nI_clamp (n := j) (by omega)]
          have fin : (j = tp.length ∨ ltr (bt tp j) = false) → J 243 M' [some (.ref 200)] [] := by
            intro hend
            have hja : a < j := by
              rcases Nat.lt_or_ge a j with z | z
              · exact z
              · have : j = a := by omega
                rcases hend with q | q
                · omega
                · rw [this, hl] at q; cases q
            have ew := wte_u (j := j) hlt (fun i => wq_l hl) hja hj2 (fun m z1 z2 => hlet m (by omega) z2) hend
            refine out (fun _ => ⟨by rw [ew]; exact h19, ?_⟩) (fun z => absurd e1 z) (by omega)
            unfold mwo
            rw [if_neg (by omega), if_pos hl, ew]
            exact h21
          refine ⟨fun _ => ⟨fun h1 => ?_, fun h1 => ?_⟩, fun z => absurd (by rw [e1]; rfl) z⟩
          · have := zn_ge' h1 (by omega) (by omega)
            exact fin (Or.inl (by omega))
          · have hlt2 := zn_ge h1 (by omega) (by omega)
            obtain ⟨b1, b2⟩ := tb j hlt2
            have hin : vp_in (nI j) 300 := vp_in_nI (by omega) (by decide)
            rw [b2]
            unfold zc_X8_isSmall
            simp only [sml b1, zbI_0, zsh_200, zsh_208, eR, r16, h18, h19, h21, e8, zT_push, zT_bin, zT_div, zT_bil, zT_shl, zT_un, zT_i2l, zT_l2i, zT_lcmp, zT_ild, zT_lld, zT_ald, zT_ist, zT_lst, zT_ast, zT_iinc, zT_dup, zT_dup2, zT_pop, zT_if1, zT_if2, zT_ifn, zT_getI, zT_getJ, zT_getR, zT_putI, zT_putZ, zT_putJ, zT_putR, zT_ald0, zT_lald, zT_aald, zT_iast, zT_zast, zT_bast, zT_last, zT_aast, zT_iret, zT_nret, zT_aret, zT_vret, zT_oi, zT_mm, zT_ialX, zT_S1, zT_S2, zT_S3, zT_V0, zT_V1, zT_V2, zT_V3, zT_V4, zT_V5, zT_V6, zT_I0, zT_I1, zT_I2, zlg, zlset, zlpr, zent, zok, va_rf, List.length_cons, List.length_nil, List.replicate, List.cons_append, List.nil_append, List.append_nil, Option.toList_some, Option.toList_none, Option.toList, Nat.reduceAdd, Nat.reduceSub, Nat.reduceLeDiff, Nat.zero_add, Nat.zero_le, true_and, and_true, Nat.le_refl, ge_iff_le, Nat.reduceEqDiff]
            rw [nI_clamp (n := j) (by omega), b2]
            have es : nI j - nI a = nI (j - a) := pk_sub hj1
            rw [es]
            refine ⟨hin, fun h2 => fin (Or.inr (by simpa using h2)), fun h2 => ?_⟩
            have h2' := Classical.not_not.mp h2
            have S227 : ∀ v, v = mwl tp a (j + 1 - a) → zb_X8_next_227 K J M' [some (.ref 200)] [.long v, .ref 200] := by
              intro v hv
              simp only [zb_X8_next_227, zsh_200, zwI_L, zwI_I, zwI_J, zwI_R, zwJ_L, zwJ_I, zwJ_J, zwJ_R, zwR_L, zwR_I, zwR_J, zwR_R, zw2_s, zw2_n, ne_eq, not_false_eq_true, reduceCtorEq, not_true_eq_false, Nat.reduceEqDiff, h19, zT_push, zT_bin, zT_div, zT_bil, zT_shl, zT_un, zT_i2l, zT_l2i, zT_lcmp, zT_ild, zT_lld, zT_ald, zT_ist, zT_lst, zT_ast, zT_iinc, zT_dup, zT_dup2, zT_pop, zT_if1, zT_if2, zT_ifn, zT_getI, zT_getJ, zT_getR, zT_putI, zT_putZ, zT_putJ, zT_putR, zT_ald0, zT_lald, zT_aald, zT_iast, zT_zast, zT_bast, zT_last, zT_aast, zT_iret, zT_nret, zT_aret, zT_vret, zT_oi, zT_mm, zT_ialX, zT_S1, zT_S2, zT_S3, zT_V0, zT_V1, zT_V2, zT_V3, zT_V4, zT_V5, zT_V6, zT_I0, zT_I1, zT_I2, zlg, zlset, zlpr, zent, zok, va_rf, List.length_cons, List.length_nil, List.replicate, List.cons_append, List.nil_append, List.append_nil, Option.toList_some, Option.toList_none, Option.toList, Nat.reduceAdd, Nat.reduceSub, Nat.reduceLeDiff, Nat.zero_add, Nat.zero_le, true_and, and_true, Nat.le_refl, ge_iff_le, Nat.reduceEqDiff]
              refine hJ (1500 - (j + 1)) (by omega) 149 (by simp) _ _ _ ⟨⟨(hs.wJ).w (by omega), rfl, rfl⟩, Or.inr ⟨⟨?_, ?_⟩, Or.inl ⟨rfl, Or.inl ⟨e1, j + 1, rfl, by omega, hlt2, fun m z1 z2 => ?_, ?_, ?_⟩⟩⟩⟩
              · simp only [zwI_L, zwI_I, zwI_J, zwI_R, zwJ_L, zwJ_I, zwJ_J, zwJ_R, zwR_L, zwR_I, zwR_J, zwR_R, zw2_s, zw2_n, ne_eq, not_false_eq_true, reduceCtorEq, not_true_eq_false, Nat.reduceEqDiff, zup_s, zup_n, h18]
              · simp only [zwI_L, zwI_I, zwI_J, zwI_R, zwJ_L, zwJ_I, zwJ_J, zwJ_R, zwR_L, zwR_I, zwR_J, zwR_R, zw2_s, zw2_n, ne_eq, not_false_eq_true, reduceCtorEq, not_true_eq_false, Nat.reduceEqDiff, zup_s, zup_n, h20]
              · rcases Nat.lt_or_ge m j with z | z
                · exact hlet m z1 z
                · have : m = j := by omega
                  rw [this]; exact h2'
              · simp only [zwI_L, zwI_I, zwI_J, zwI_R, zwJ_L, zwJ_I, zwJ_J, zwJ_R, zwR_L, zwR_I, zwR_J, zwR_R, zw2_s, zw2_n, ne_eq, not_false_eq_true, reduceCtorEq, not_true_eq_false, Nat.reduceEqDiff, zup_s, zup_n]
                rw [nI_1]
              · simp only [zwI_L, zwI_I, zwI_J, zwI_R, zwJ_L, zwJ_I, zwJ_J, zwJ_R, zwR_L, zwR_I, zwR_J, zwR_R, zw2_s, zw2_n, ne_eq, not_false_eq_true, reduceCtorEq, not_true_eq_false, Nat.reduceEqDiff, zup_s, zup_n]
                exact hv
            refine ⟨fun h3 => S227 _ ?_, fun h3 => ⟨hin, S227 _ ?_⟩⟩
            · have : 7 ≤ j - a := zn_ge' (b := 7) h3 (by omega) (by omega)
              unfold mwl
              rw [if_neg (by omega)]
            · have : j - a < 7 := zn_ge (b := 7) h3 (by omega) (by omega)
              have hb := ltr_b h2'
              unfold mwl
              rw [if_pos (by omega), if_pos (by omega), show j + 1 - a = (j - a) + 1 by omega]
              show lN (mwv tp a (j - a)) * lN 32 + (nI (bt tp j)).toInt64 - lN 96 = lN (32 * mwv tp a (j - a) + (bt tp (a + (j - a)) - 96))
              rw [nI_l (by omega), lM_mul, lM_add, lM_sub (by omega), show a + (j - a) = j by omega]
              congr 1
              omega
        · refine ⟨fun z => absurd ((nI_eq (b := 1) (by omega) (by decide)).mp z) e1, fun _ => out (fun z => absurd z e1) (fun _ => ⟨h19, h21⟩) (by omega)⟩
      · have eR := hs.2.1
        have e8 : M'.2.1 208 = M.2.1 208 := hs.2.2.1 208 (by decide)
        have e17 : M'.2.1 200 17 = nI tp.length := by rw [hs.2.2.2 17 (by omega)]; exact t1
        simp only [zB_X8_next, zb_X8_next_243, ↓reduceIte, zsh_200, zsh_208, eR, r16, h18, h20, e17, e8, Nat.reduceEqDiff, zT_push, zT_bin, zT_div, zT_bil, zT_shl, zT_un, zT_i2l, zT_l2i, zT_lcmp, zT_ild, zT_lld, zT_ald, zT_ist, zT_lst, zT_ast, zT_iinc, zT_dup, zT_dup2, zT_pop, zT_if1, zT_if2, zT_ifn, zT_getI, zT_getJ, zT_getR, zT_putI, zT_putZ, zT_putJ, zT_putR, zT_ald0, zT_lald, zT_aald, zT_iast, zT_zast, zT_bast, zT_last, zT_aast, zT_iret, zT_nret, zT_aret, zT_vret, zT_oi, zT_mm, zT_ialX, zT_S1, zT_S2, zT_S3, zT_V0, zT_V1, zT_V2, zT_V3, zT_V4, zT_V5, zT_V6, zT_I0, zT_I1, zT_I2, zlg, zlset, zlpr, zent, zok, va_rf, List.length_cons, List.length_nil, List.replicate, List.cons_append, List.nil_append, List.append_nil, Option.toList_some, Option.toList_none, Option.toList, Nat.reduceAdd, Nat.reduceSub, Nat.reduceLeDiff, Nat.zero_add, Nat.zero_le, true_and, and_true, Nat.le_refl, ge_iff_le, Nat.reduceEqDiff]
        have hle := msr_le (tp := tp) (a := a)
        have out : M'.2.1 200 19 = nI (wte tp a) → M'.2.2.1 200 21 = mwo tp a → zb_X8_next_335 K J M' [some (.ref 200)] [] := by
          intro h1 h2
          simp only [zb_X8_next_335, zT_push, zT_bin, zT_div, zT_bil, zT_shl, zT_un, zT_i2l, zT_l2i, zT_lcmp, zT_ild, zT_lld, zT_ald, zT_ist, zT_lst, zT_ast, zT_iinc, zT_dup, zT_dup2, zT_pop, zT_if1, zT_if2, zT_ifn, zT_getI, zT_getJ, zT_getR, zT_putI, zT_putZ, zT_putJ, zT_putR, zT_ald0, zT_lald, zT_aald, zT_iast, zT_zast, zT_bast, zT_last, zT_aast, zT_iret, zT_nret, zT_aret, zT_vret, zT_oi, zT_mm, zT_ialX, zT_S1, zT_S2, zT_S3, zT_V0, zT_V1, zT_V2, zT_V3, zT_V4, zT_V5, zT_V6, zT_I0, zT_I1, zT_I2, zlg, zlset, zlpr, zent, zok, va_rf, List.length_cons, List.length_nil, List.replicate, List.cons_append, List.nil_append, List.append_nil, Option.toList_some, Option.toList_none, Option.toList, Nat.reduceAdd, Nat.reduceSub, Nat.reduceLeDiff, Nat.zero_add, Nat.zero_le, true_and, and_true, Nat.le_refl, ge_iff_le, Nat.reduceEqDiff]
          exact h M' hs ⟨h18, h1, h20, h2⟩
        rcases h243 with ⟨e1, j, rfl, hj1, hj2, hlet, h19, h21⟩ | ⟨e1, rfl, h19, h21⟩
        · obtain ⟨hlt, hl⟩ := msr_2.mp e1
          rw [h19, nI_clamp (n := j) (by omega)]
          have fin : (j = tp.length ∨ dgt (bt tp j) = false) → zb_X8_next_335 K J M' [some (.ref 200)] [] := by
            intro hend
            have hja : a < j := by
              rcases Nat.lt_or_ge a j with z | z
              · exact z
              · have : j = a := by omega
                rcases hend with q | q
                · omega
                · rw [this, hl] at q; cases q
            have ew := wte_u (j := j) hlt (fun i => wq_d hl) hja hj2 (fun m z1 z2 => hlet m (by omega) z2) hend
            refine out (by rw [ew]; exact h19) ?_
            unfold mwo
            rw [if_neg (by omega), dgt_ltr hl, if_neg (by decide), if_pos hl, ew]
            exact h21
          refine ⟨fun _ => ⟨fun h1 => ?_, fun h1 => ?_⟩, fun z => absurd (by rw [e1]; rfl) z⟩
          · have := zn_ge' h1 (by omega) (by omega)
            exact fin (Or.inl (by omega))
          · have hlt2 := zn_ge h1 (by omega) (by omega)
            obtain ⟨b1, b2⟩ := tb j hlt2
            have hin : vp_in (nI j) 300 := vp_in_nI (by omega) (by decide)
            have hcl := mcp_le (tp := tp) (a := a) (n := j - a) (fun i hi => hlet _ (by omega) (by omega))
            have hc1000 : (lN (mcp tp a (j - a)) ≤ 1000) ↔ mcp tp a (j - a) ≤ 1000 := lM_le (b := 1000) (by omega) (by decide)
            rw [b2]
            unfold zc_X8_isDigit
            simp only [dig b1, zbI_0, zsh_200, zsh_208, eR, r16, h18, h19, h21, e8, lcmp_le, zT_push, zT_bin, zT_div, zT_bil, zT_shl, zT_un, zT_i2l, zT_l2i, zT_lcmp, zT_ild, zT_lld, zT_ald, zT_ist, zT_lst, zT_ast, zT_iinc, zT_dup, zT_dup2, zT_pop, zT_if1, zT_if2, zT_ifn, zT_getI, zT_getJ, zT_getR, zT_putI, zT_putZ, zT_putJ, zT_putR, zT_ald0, zT_lald, zT_aald, zT_iast, zT_zast, zT_bast, zT_last, zT_aast, zT_iret, zT_nret, zT_aret, zT_vret, zT_oi, zT_mm, zT_ialX, zT_S1, zT_S2, zT_S3, zT_V0, zT_V1, zT_V2, zT_V3, zT_V4, zT_V5, zT_V6, zT_I0, zT_I1, zT_I2, zlg, zlset, zlpr, zent, zok, va_rf, List.length_cons, List.length_nil, List.replicate, List.cons_append, List.nil_append, List.append_nil, Option.toList_some, Option.toList_none, Option.toList, Nat.reduceAdd, Nat.reduceSub, Nat.reduceLeDiff, Nat.zero_add, Nat.zero_le, true_and, and_true, Nat.le_refl, ge_iff_le, Nat.reduceEqDiff]
            rw [nI_clamp (n := j) (by omega), b2]
            refine ⟨hin, fun h2 => fin (Or.inr (by simpa using h2)), fun h2 => ?_⟩
            have h2' := Classical.not_not.mp h2
            have S319 : ∀ v, v = lN (mcp tp a (j + 1 - a)) → zb_X8_next_319 K J M' [some (.ref 200)] [.long v, .ref 200] := by
              intro v hv
              simp only [zb_X8_next_319, zsh_200, zwI_L, zwI_I, zwI_J, zwI_R, zwJ_L, zwJ_I, zwJ_J, zwJ_R, zwR_L, zwR_I, zwR_J, zwR_R, zw2_s, zw2_n, ne_eq, not_false_eq_true, reduceCtorEq, not_true_eq_false, Nat.reduceEqDiff, h19, zT_push, zT_bin, zT_div, zT_bil, zT_shl, zT_un, zT_i2l, zT_l2i, zT_lcmp, zT_ild, zT_lld, zT_ald, zT_ist, zT_lst, zT_ast, zT_iinc, zT_dup, zT_dup2, zT_pop, zT_if1, zT_if2, zT_ifn, zT_getI, zT_getJ, zT_getR, zT_putI, zT_putZ, zT_putJ, zT_putR, zT_ald0, zT_lald, zT_aald, zT_iast, zT_zast, zT_bast, zT_last, zT_aast, zT_iret, zT_nret, zT_aret, zT_vret, zT_oi, zT_mm, zT_ialX, zT_S1, zT_S2, zT_S3, zT_V0, zT_V1, zT_V2, zT_V3, zT_V4, zT_V5, zT_V6, zT_I0, zT_I1, zT_I2, zlg, zlset, zlpr, zent, zok, va_rf, List.length_cons, List.length_nil, List.replicate, List.cons_append, List.nil_append, List.append_nil, Option.toList_some, Option.toList_none, Option.toList, Nat.reduceAdd, Nat.reduceSub, Nat.reduceLeDiff, Nat.zero_add, Nat.zero_le, true_and, and_true, Nat.le_refl, ge_iff_le, Nat.reduceEqDiff]
              refine hJ (1000 - (j + 1)) (by omega) 243 (by simp) _ _ _ ⟨⟨(hs.wJ).w (by omega), rfl, rfl⟩, Or.inr ⟨⟨?_, ?_⟩, Or.inr ⟨rfl, Or.inl ⟨e1, j + 1, rfl, by omega, hlt2, fun m z1 z2 => ?_, ?_, ?_⟩⟩⟩⟩
              · simp only [zwI_L, zwI_I, zwI_J, zwI_R, zwJ_L, zwJ_I, zwJ_J, zwJ_R, zwR_L, zwR_I, zwR_J, zwR_R, zw2_s, zw2_n, ne_eq, not_false_eq_true, reduceCtorEq, not_true_eq_false, Nat.reduceEqDiff, zup_s, zup_n, h18]
              · simp only [zwI_L, zwI_I, zwI_J, zwI_R, zwJ_L, zwJ_I, zwJ_J, zwJ_R, zwR_L, zwR_I, zwR_J, zwR_R, zw2_s, zw2_n, ne_eq, not_false_eq_true, reduceCtorEq, not_true_eq_false, Nat.reduceEqDiff, zup_s, zup_n, h20]
              · rcases Nat.lt_or_ge m j with z | z
                · exact hlet m z1 z
                · have : m = j := by omega
                  rw [this]; exact h2'
              · simp only [zwI_L, zwI_I, zwI_J, zwI_R, zwJ_L, zwJ_I, zwJ_J, zwJ_R, zwR_L, zwR_I, zwR_J, zwR_R, zw2_s, zw2_n, ne_eq, not_false_eq_true, reduceCtorEq, not_true_eq_false, Nat.reduceEqDiff, zup_s, zup_n]
                rw [nI_1]
              · simp only [zwI_L, zwI_I, zwI_J, zwI_R, zwJ_L, zwJ_I, zwJ_J, zwJ_R, zwR_L, zwR_I, zwR_J, zwR_R, zw2_s, zw2_n, ne_eq, not_false_eq_true, reduceCtorEq, not_true_eq_false, Nat.reduceEqDiff, zup_s, zup_n]
                exact hv
            have hun : mcp tp a (j + 1 - a) = if 1000 < mcp tp a (j - a) then mcp tp a (j - a) else 10 * mcp tp a (j - a) + (bt tp j - 48) := by
              rw [show j + 1 - a = (j - a) + 1 by omega]
              show (if 1000 < mcp tp a (j - a) then mcp tp a (j - a) else 10 * mcp tp a (j - a) + (bt tp (a + (j - a)) - 48)) = _
              rw [show a + (j - a) = j by omega]
            refine ⟨fun h3 => ⟨hin, S319 _ ?_⟩, fun h3 => S319 _ ?_⟩
            · have h3' := hc1000.mp h3
              have hb := dgt_b h2'
              rw [hun, if_neg (by omega)]
              show lN (mcp tp a (j - a)) * lN 10 + (nI (bt tp j)).toInt64 - lN 48 = lN (10 * mcp tp a (j - a) + (bt tp j - 48))
              rw [nI_l (by omega), lM_mul, lM_add, lM_sub (by omega)]
              congr 1
              omega
            · have h3' : ¬ mcp tp a (j - a) ≤ 1000 := fun z => h3 (hc1000.mpr z)
              rw [hun, if_pos (by omega)]
        · refine ⟨fun z => absurd ((nI_eq (b := 2) (by omega) (by decide)).mp z) e1, fun _ => out h19 h21⟩
    · intro J hJ
      simp only [zb_X8_next_0, zsh_200, h19, zT_push, zT_bin, zT_div, zT_bil, zT_shl, zT_un, zT_i2l, zT_l2i, zT_lcmp, zT_ild, zT_lld, zT_ald, zT_ist, zT_lst, zT_ast, zT_iinc, zT_dup, zT_dup2, zT_pop, zT_if1, zT_if2, zT_ifn, zT_getI, zT_getJ, zT_getR, zT_putI, zT_putZ, zT_putJ, zT_putR, zT_ald0, zT_lald, zT_aald, zT_iast, zT_zast, zT_bast, zT_last, zT_aast, zT_iret, zT_nret, zT_aret, zT_vret, zT_oi, zT_mm, zT_ialX, zT_S1, zT_S2, zT_S3, zT_V0, zT_V1, zT_V2, zT_V3, zT_V4, zT_V5, zT_V6, zT_I0, zT_I1, zT_I2, zlg, zlset, zlpr, zent, zok, va_rf, List.length_cons, List.length_nil, List.replicate, List.cons_append, List.nil_append, List.append_nil, Option.toList_some, Option.toList_none, Option.toList, Nat.reduceAdd, Nat.reduceSub, Nat.reduceLeDiff, Nat.zero_add, Nat.zero_le, true_and, and_true, Nat.le_refl, ge_iff_le, Nat.reduceEqDiff]
      refine hJ (2000 - s) 8 (by simp) _ _ _ ⟨⟨mcn.rf.w (by omega), rfl, rfl⟩, Or.inl ⟨rfl, s, rfl, hs, hae.symm, ?_⟩⟩
      simp only [zwI_L, zwI_I, zwI_J, zwI_R, zwJ_L, zwJ_I, zwJ_J, zwJ_R, zwR_L, zwR_I, zwR_J, zwR_R, zw2_s, zw2_n, ne_eq, not_false_eq_true, reduceCtorEq, not_true_eq_false, Nat.reduceEqDiff]
      rw [zup_s]
  · exact h.elim
