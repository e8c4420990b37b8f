/-! DeltaRunsModel readAct -/
theorem zd_X8_readAct_0 : decode cX8_readAct 0 = .ok (.aload_n 0, 1) := by decide +kernel
theorem zd_X8_readAct_1 : decode cX8_readAct 1 = .ok (.aload_n 0, 1) := by decide +kernel
theorem zd_X8_readAct_2 : decode cX8_readAct 2 = .ok (.bipush 121, 2) := by decide +kernel
theorem zd_X8_readAct_4 : decode cX8_readAct 4 = .ok (.bipush 101, 2) := by decide +kernel
theorem zd_X8_readAct_6 : decode cX8_readAct 6 = .ok (.bipush 97, 2) := by decide +kernel
theorem zd_X8_readAct_8 : decode cX8_readAct 8 = .ok (.bipush 114, 2) := by decide +kernel
theorem zd_X8_readAct_10 : decode cX8_readAct 10 = .ok (.iconst 0, 1) := by decide +kernel
theorem zd_X8_readAct_11 : decode cX8_readAct 11 = .ok (.iconst 0, 1) := by decide +kernel
theorem zd_X8_readAct_12 : decode cX8_readAct 12 = .ok (.invokevirtual 173, 3) := by decide +kernel
theorem zd_X8_readAct_15 : decode cX8_readAct 15 = .ok (.ifCond .eq 16, 3) := by decide +kernel
theorem zd_X8_readAct_18 : decode cX8_readAct 18 = .ok (.aload_n 0, 1) := by decide +kernel
theorem zd_X8_readAct_19 : decode cX8_readAct 19 = .ok (.getfield 177, 3) := by decide +kernel
theorem zd_X8_readAct_22 : decode cX8_readAct 22 = .ok (.bipush 20, 2) := by decide +kernel
theorem zd_X8_readAct_24 : decode cX8_readAct 24 = .ok (.if_icmp .ge 7, 3) := by decide +kernel
theorem zd_X8_readAct_27 : decode cX8_readAct 27 = .ok (.iconst 1, 1) := by decide +kernel
theorem zd_X8_readAct_28 : decode cX8_readAct 28 = .ok (.goto 4, 3) := by decide +kernel
theorem zd_X8_readAct_31 : decode cX8_readAct 31 = .ok (.iconst 0, 1) := by decide +kernel
theorem zd_X8_readAct_32 : decode cX8_readAct 32 = .ok (.invokevirtual 169, 3) := by decide +kernel
theorem zd_X8_readAct_35 : decode cX8_readAct 35 = .ok (.aload_n 0, 1) := by decide +kernel
theorem zd_X8_readAct_36 : decode cX8_readAct 36 = .ok (.lconst 1, 1) := by decide +kernel
theorem zd_X8_readAct_37 : decode cX8_readAct 37 = .ok (.ldc2_w 180, 3) := by decide +kernel
theorem zd_X8_readAct_40 : decode cX8_readAct 40 = .ok (.invokevirtual 182, 3) := by decide +kernel
theorem zd_X8_readAct_43 : decode cX8_readAct 43 = .ok (.istore_n 1, 1) := by decide +kernel
theorem zd_X8_readAct_44 : decode cX8_readAct 44 = .ok (.aload_n 0, 1) := by decide +kernel
theorem zd_X8_readAct_45 : decode cX8_readAct 45 = .ok (.bipush 100, 2) := by decide +kernel
theorem zd_X8_readAct_47 : decode cX8_readAct 47 = .ok (.bipush 121, 2) := by decide +kernel
theorem zd_X8_readAct_49 : decode cX8_readAct 49 = .ok (.bipush 107, 2) := by decide +kernel
theorem zd_X8_readAct_51 : decode cX8_readAct 51 = .ok (.bipush 101, 2) := by decide +kernel
theorem zd_X8_readAct_53 : decode cX8_readAct 53 = .ok (.iconst 0, 1) := by decide +kernel
theorem zd_X8_readAct_54 : decode cX8_readAct 54 = .ok (.iconst 0, 1) := by decide +kernel
theorem zd_X8_readAct_55 : decode cX8_readAct 55 = .ok (.invokevirtual 173, 3) := by decide +kernel
theorem zd_X8_readAct_58 : decode cX8_readAct 58 = .ok (.ifCond .eq 7, 3) := by decide +kernel
theorem zd_X8_readAct_61 : decode cX8_readAct 61 = .ok (.iconst 0, 1) := by decide +kernel
theorem zd_X8_readAct_62 : decode cX8_readAct 62 = .ok (.goto 68, 3) := by decide +kernel
theorem zd_X8_readAct_65 : decode cX8_readAct 65 = .ok (.aload_n 0, 1) := by decide +kernel
theorem zd_X8_readAct_66 : decode cX8_readAct 66 = .ok (.bipush 111, 2) := by decide +kernel
theorem zd_X8_readAct_68 : decode cX8_readAct 68 = .ok (.bipush 112, 2) := by decide +kernel
theorem zd_X8_readAct_70 : decode cX8_readAct 70 = .ok (.bipush 101, 2) := by decide +kernel
theorem zd_X8_readAct_72 : decode cX8_readAct 72 = .ok (.bipush 110, 2) := by decide +kernel
theorem zd_X8_readAct_74 : decode cX8_readAct 74 = .ok (.iconst 0, 1) := by decide +kernel
theorem zd_X8_readAct_75 : decode cX8_readAct 75 = .ok (.iconst 0, 1) := by decide +kernel
theorem zd_X8_readAct_76 : decode cX8_readAct 76 = .ok (.invokevirtual 173, 3) := by decide +kernel
theorem zd_X8_readAct_79 : decode cX8_readAct 79 = .ok (.ifCond .eq 7, 3) := by decide +kernel
theorem zd_X8_readAct_82 : decode cX8_readAct 82 = .ok (.iconst 1, 1) := by decide +kernel
theorem zd_X8_readAct_83 : decode cX8_readAct 83 = .ok (.goto 47, 3) := by decide +kernel
theorem zd_X8_readAct_86 : decode cX8_readAct 86 = .ok (.aload_n 0, 1) := by decide +kernel
theorem zd_X8_readAct_87 : decode cX8_readAct 87 = .ok (.bipush 99, 2) := by decide +kernel
theorem zd_X8_readAct_89 : decode cX8_readAct 89 = .ok (.bipush 117, 2) := by decide +kernel
theorem zd_X8_readAct_91 : decode cX8_readAct 91 = .ok (.bipush 116, 2) := by decide +kernel
theorem zd_X8_readAct_93 : decode cX8_readAct 93 = .ok (.iconst 0, 1) := by decide +kernel
theorem zd_X8_readAct_94 : decode cX8_readAct 94 = .ok (.iconst 0, 1) := by decide +kernel
theorem zd_X8_readAct_95 : decode cX8_readAct 95 = .ok (.iconst 0, 1) := by decide +kernel
theorem zd_X8_readAct_96 : decode cX8_readAct 96 = .ok (.invokevirtual 173, 3) := by decide +kernel
theorem zd_X8_readAct_99 : decode cX8_readAct 99 = .ok (.ifCond .eq 7, 3) := by decide +kernel
theorem zd_X8_readAct_102 : decode cX8_readAct 102 = .ok (.iconst 2, 1) := by decide +kernel
theorem zd_X8_readAct_103 : decode cX8_readAct 103 = .ok (.goto 27, 3) := by decide +kernel
theorem zd_X8_readAct_106 : decode cX8_readAct 106 = .ok (.aload_n 0, 1) := by decide +kernel
theorem zd_X8_readAct_107 : decode cX8_readAct 107 = .ok (.bipush 100, 2) := by decide +kernel
theorem zd_X8_readAct_109 : decode cX8_readAct 109 = .ok (.bipush 114, 2) := by decide +kernel
theorem zd_X8_readAct_111 : decode cX8_readAct 111 = .ok (.bipush 101, 2) := by decide +kernel
theorem zd_X8_readAct_113 : decode cX8_readAct 113 = .ok (.bipush 100, 2) := by decide +kernel
theorem zd_X8_readAct_115 : decode cX8_readAct 115 = .ok (.bipush 103, 2) := by decide +kernel
theorem zd_X8_readAct_117 : decode cX8_readAct 117 = .ok (.bipush 101, 2) := by decide +kernel
theorem zd_X8_readAct_119 : decode cX8_readAct 119 = .ok (.invokevirtual 173, 3) := by decide +kernel
theorem zd_X8_readAct_122 : decode cX8_readAct 122 = .ok (.ifCond .eq 7, 3) := by decide +kernel
theorem zd_X8_readAct_125 : decode cX8_readAct 125 = .ok (.iconst 3, 1) := by decide +kernel
theorem zd_X8_readAct_126 : decode cX8_readAct 126 = .ok (.goto 4, 3) := by decide +kernel
theorem zd_X8_readAct_129 : decode cX8_readAct 129 = .ok (.iconst (-1), 1) := by decide +kernel
theorem zd_X8_readAct_130 : decode cX8_readAct 130 = .ok (.istore_n 2, 1) := by decide +kernel
theorem zd_X8_readAct_131 : decode cX8_readAct 131 = .ok (.aload_n 0, 1) := by decide +kernel
theorem zd_X8_readAct_132 : decode cX8_readAct 132 = .ok (.iload_n 2, 1) := by decide +kernel
theorem zd_X8_readAct_133 : decode cX8_readAct 133 = .ok (.ifCond .lt 7, 3) := by decide +kernel
theorem zd_X8_readAct_136 : decode cX8_readAct 136 = .ok (.iconst 1, 1) := by decide +kernel
theorem zd_X8_readAct_137 : decode cX8_readAct 137 = .ok (.goto 4, 3) := by decide +kernel
theorem zd_X8_readAct_140 : decode cX8_readAct 140 = .ok (.iconst 0, 1) := by decide +kernel
theorem zd_X8_readAct_141 : decode cX8_readAct 141 = .ok (.invokevirtual 169, 3) := by decide +kernel
theorem zd_X8_readAct_144 : decode cX8_readAct 144 = .ok (.aload_n 0, 1) := by decide +kernel
theorem zd_X8_readAct_145 : decode cX8_readAct 145 = .ok (.lconst 0, 1) := by decide +kernel
theorem zd_X8_readAct_146 : decode cX8_readAct 146 = .ok (.ldc2_w 186, 3) := by decide +kernel
theorem zd_X8_readAct_149 : decode cX8_readAct 149 = .ok (.invokevirtual 182, 3) := by decide +kernel
theorem zd_X8_readAct_152 : decode cX8_readAct 152 = .ok (.istore_n 3, 1) := by decide +kernel
theorem zd_X8_readAct_153 : decode cX8_readAct 153 = .ok (.aload_n 0, 1) := by decide +kernel
theorem zd_X8_readAct_154 : decode cX8_readAct 154 = .ok (.lconst 0, 1) := by decide +kernel
theorem zd_X8_readAct_155 : decode cX8_readAct 155 = .ok (.ldc2_w 188, 3) := by decide +kernel
theorem zd_X8_readAct_158 : decode cX8_readAct 158 = .ok (.invokevirtual 182, 3) := by decide +kernel
theorem zd_X8_readAct_161 : decode cX8_readAct 161 = .ok (.istore 4, 2) := by decide +kernel
theorem zd_X8_readAct_163 : decode cX8_readAct 163 = .ok (.iconst 0, 1) := by decide +kernel
theorem zd_X8_readAct_164 : decode cX8_readAct 164 = .ok (.istore 5, 2) := by decide +kernel
theorem zd_X8_readAct_166 : decode cX8_readAct 166 = .ok (.iload_n 2, 1) := by decide +kernel
theorem zd_X8_readAct_167 : decode cX8_readAct 167 = .ok (.iconst 2, 1) := by decide +kernel
theorem zd_X8_readAct_168 : decode cX8_readAct 168 = .ok (.if_icmp .lt 49, 3) := by decide +kernel
theorem zd_X8_readAct_171 : decode cX8_readAct 171 = .ok (.aload_n 0, 1) := by decide +kernel
theorem zd_X8_readAct_172 : decode cX8_readAct 172 = .ok (.iload_n 2, 1) := by decide +kernel
theorem zd_X8_readAct_173 : decode cX8_readAct 173 = .ok (.iconst 2, 1) := by decide +kernel
theorem zd_X8_readAct_174 : decode cX8_readAct 174 = .ok (.if_icmp .ne 18, 3) := by decide +kernel
theorem zd_X8_readAct_177 : decode cX8_readAct 177 = .ok (.aload_n 0, 1) := by decide +kernel
theorem zd_X8_readAct_178 : decode cX8_readAct 178 = .ok (.bipush 98, 2) := by decide +kernel
theorem zd_X8_readAct_180 : decode cX8_readAct 180 = .ok (.bipush 121, 2) := by decide +kernel
theorem zd_X8_readAct_182 : decode cX8_readAct 182 = .ok (.iconst 0, 1) := by decide +kernel
theorem zd_X8_readAct_183 : decode cX8_readAct 183 = .ok (.iconst 0, 1) := by decide +kernel
theorem zd_X8_readAct_184 : decode cX8_readAct 184 = .ok (.iconst 0, 1) := by decide +kernel
theorem zd_X8_readAct_185 : decode cX8_readAct 185 = .ok (.iconst 0, 1) := by decide +kernel
theorem zd_X8_readAct_186 : decode cX8_readAct 186 = .ok (.invokevirtual 173, 3) := by decide +kernel
theorem zd_X8_readAct_189 : decode cX8_readAct 189 = .ok (.goto 15, 3) := by decide +kernel
theorem zd_X8_readAct_192 : decode cX8_readAct 192 = .ok (.aload_n 0, 1) := by decide +kernel
theorem zd_X8_readAct_193 : decode cX8_readAct 193 = .ok (.bipush 116, 2) := by decide +kernel
theorem zd_X8_readAct_195 : decode cX8_readAct 195 = .ok (.bipush 111, 2) := by decide +kernel
theorem zd_X8_readAct_197 : decode cX8_readAct 197 = .ok (.iconst 0, 1) := by decide +kernel
theorem zd_X8_readAct_198 : decode cX8_readAct 198 = .ok (.iconst 0, 1) := by decide +kernel
theorem zd_X8_readAct_199 : decode cX8_readAct 199 = .ok (.iconst 0, 1) := by decide +kernel
theorem zd_X8_readAct_200 : decode cX8_readAct 200 = .ok (.iconst 0, 1) := by decide +kernel
theorem zd_X8_readAct_201 : decode cX8_readAct 201 = .ok (.invokevirtual 173, 3) := by decide +kernel
theorem zd_X8_readAct_204 : decode cX8_readAct 204 = .ok (.invokevirtual 169, 3) := by decide +kernel
theorem zd_X8_readAct_207 : decode cX8_readAct 207 = .ok (.aload_n 0, 1) := by decide +kernel
theorem zd_X8_readAct_208 : decode cX8_readAct 208 = .ok (.lconst 0, 1) := by decide +kernel
theorem zd_X8_readAct_209 : decode cX8_readAct 209 = .ok (.ldc2_w 119, 3) := by decide +kernel
theorem zd_X8_readAct_212 : decode cX8_readAct 212 = .ok (.invokevirtual 182, 3) := by decide +kernel
theorem zd_X8_readAct_215 : decode cX8_readAct 215 = .ok (.istore 5, 2) := by decide +kernel
theorem zd_X8_readAct_217 : decode cX8_readAct 217 = .ok (.aload_n 0, 1) := by decide +kernel
theorem zd_X8_readAct_218 : decode cX8_readAct 218 = .ok (.getfield 162, 3) := by decide +kernel
theorem zd_X8_readAct_221 : decode cX8_readAct 221 = .ok (.ifCond .eq 4, 3) := by decide +kernel
theorem zd_X8_readAct_224 : decode cX8_readAct 224 = .ok (.return_, 1) := by decide +kernel
theorem zd_X8_readAct_225 : decode cX8_readAct 225 = .ok (.aload_n 0, 1) := by decide +kernel
theorem zd_X8_readAct_226 : decode cX8_readAct 226 = .ok (.getfield 41, 3) := by decide +kernel
theorem zd_X8_readAct_229 : decode cX8_readAct 229 = .ok (.iconst 5, 1) := by decide +kernel
theorem zd_X8_readAct_230 : decode cX8_readAct 230 = .ok (.aload_n 0, 1) := by decide +kernel
theorem zd_X8_readAct_231 : decode cX8_readAct 231 = .ok (.getfield 177, 3) := by decide +kernel
theorem zd_X8_readAct_234 : decode cX8_readAct 234 = .ok (.imul, 1) := by decide +kernel
theorem zd_X8_readAct_235 : decode cX8_readAct 235 = .ok (.iload_n 2, 1) := by decide +kernel
theorem zd_X8_readAct_236 : decode cX8_readAct 236 = .ok (.iastore, 1) := by decide +kernel
theorem zd_X8_readAct_237 : decode cX8_readAct 237 = .ok (.aload_n 0, 1) := by decide +kernel
theorem zd_X8_readAct_238 : decode cX8_readAct 238 = .ok (.getfield 41, 3) := by decide +kernel
theorem zd_X8_readAct_241 : decode cX8_readAct 241 = .ok (.iconst 5, 1) := by decide +kernel
theorem zd_X8_readAct_242 : decode cX8_readAct 242 = .ok (.aload_n 0, 1) := by decide +kernel
theorem zd_X8_readAct_243 : decode cX8_readAct 243 = .ok (.getfield 177, 3) := by decide +kernel
theorem zd_X8_readAct_246 : decode cX8_readAct 246 = .ok (.imul, 1) := by decide +kernel
theorem zd_X8_readAct_247 : decode cX8_readAct 247 = .ok (.iconst 1, 1) := by decide +kernel
theorem zd_X8_readAct_248 : decode cX8_readAct 248 = .ok (.iadd, 1) := by decide +kernel
theorem zd_X8_readAct_249 : decode cX8_readAct 249 = .ok (.iload_n 1, 1) := by decide +kernel
theorem zd_X8_readAct_250 : decode cX8_readAct 250 = .ok (.iastore, 1) := by decide +kernel
theorem zd_X8_readAct_251 : decode cX8_readAct 251 = .ok (.aload_n 0, 1) := by decide +kernel
theorem zd_X8_readAct_252 : decode cX8_readAct 252 = .ok (.getfield 41, 3) := by decide +kernel
theorem zd_X8_readAct_255 : decode cX8_readAct 255 = .ok (.iconst 5, 1) := by decide +kernel
theorem zd_X8_readAct_256 : decode cX8_readAct 256 = .ok (.aload_n 0, 1) := by decide +kernel
theorem zd_X8_readAct_257 : decode cX8_readAct 257 = .ok (.getfield 177, 3) := by decide +kernel
theorem zd_X8_readAct_260 : decode cX8_readAct 260 = .ok (.imul, 1) := by decide +kernel
theorem zd_X8_readAct_261 : decode cX8_readAct 261 = .ok (.iconst 2, 1) := by decide +kernel
theorem zd_X8_readAct_262 : decode cX8_readAct 262 = .ok (.iadd, 1) := by decide +kernel
theorem zd_X8_readAct_263 : decode cX8_readAct 263 = .ok (.iload_n 3, 1) := by decide +kernel
theorem zd_X8_readAct_264 : decode cX8_readAct 264 = .ok (.iastore, 1) := by decide +kernel
theorem zd_X8_readAct_265 : decode cX8_readAct 265 = .ok (.aload_n 0, 1) := by decide +kernel
theorem zd_X8_readAct_266 : decode cX8_readAct 266 = .ok (.getfield 41, 3) := by decide +kernel
theorem zd_X8_readAct_269 : decode cX8_readAct 269 = .ok (.iconst 5, 1) := by decide +kernel
theorem zd_X8_readAct_270 : decode cX8_readAct 270 = .ok (.aload_n 0, 1) := by decide +kernel
theorem zd_X8_readAct_271 : decode cX8_readAct 271 = .ok (.getfield 177, 3) := by decide +kernel
theorem zd_X8_readAct_274 : decode cX8_readAct 274 = .ok (.imul, 1) := by decide +kernel
theorem zd_X8_readAct_275 : decode cX8_readAct 275 = .ok (.iconst 3, 1) := by decide +kernel
theorem zd_X8_readAct_276 : decode cX8_readAct 276 = .ok (.iadd, 1) := by decide +kernel
theorem zd_X8_readAct_277 : decode cX8_readAct 277 = .ok (.iload 4, 2) := by decide +kernel
theorem zd_X8_readAct_279 : decode cX8_readAct 279 = .ok (.iastore, 1) := by decide +kernel
theorem zd_X8_readAct_280 : decode cX8_readAct 280 = .ok (.aload_n 0, 1) := by decide +kernel
theorem zd_X8_readAct_281 : decode cX8_readAct 281 = .ok (.getfield 41, 3) := by decide +kernel
theorem zd_X8_readAct_284 : decode cX8_readAct 284 = .ok (.iconst 5, 1) := by decide +kernel
theorem zd_X8_readAct_285 : decode cX8_readAct 285 = .ok (.aload_n 0, 1) := by decide +kernel
theorem zd_X8_readAct_286 : decode cX8_readAct 286 = .ok (.getfield 177, 3) := by decide +kernel
theorem zd_X8_readAct_289 : decode cX8_readAct 289 = .ok (.imul, 1) := by decide +kernel
theorem zd_X8_readAct_290 : decode cX8_readAct 290 = .ok (.iconst 4, 1) := by decide +kernel
theorem zd_X8_readAct_291 : decode cX8_readAct 291 = .ok (.iadd, 1) := by decide +kernel
theorem zd_X8_readAct_292 : decode cX8_readAct 292 = .ok (.iload 5, 2) := by decide +kernel
theorem zd_X8_readAct_294 : decode cX8_readAct 294 = .ok (.iastore, 1) := by decide +kernel
theorem zd_X8_readAct_295 : decode cX8_readAct 295 = .ok (.aload_n 0, 1) := by decide +kernel
theorem zd_X8_readAct_296 : decode cX8_readAct 296 = .ok (.dup, 1) := by decide +kernel
theorem zd_X8_readAct_297 : decode cX8_readAct 297 = .ok (.getfield 177, 3) := by decide +kernel
theorem zd_X8_readAct_300 : decode cX8_readAct 300 = .ok (.iconst 1, 1) := by decide +kernel
theorem zd_X8_readAct_301 : decode cX8_readAct 301 = .ok (.iadd, 1) := by decide +kernel
theorem zd_X8_readAct_302 : decode cX8_readAct 302 = .ok (.putfield 177, 3) := by decide +kernel
theorem zd_X8_readAct_305 : decode cX8_readAct 305 = .ok (.return_, 1) := by decide +kernel
def zb_X8_readAct_217 (K : zKt) (J : Nat → zPP) : zPP := zT_ald 0 (zT_getI 8 23 38 (zT_if1 (fun x => x = 0) (zT_ald 0 (zT_getR 8 15 38 (zT_push (.int 5) (zT_ald 0 (zT_getI 8 14 38 (zT_bin (fun x y => x * y) (zT_ild 2 (zT_iast (zT_ald 0 (zT_getR 8 15 38 (zT_push (.int 5) (zT_ald 0 (zT_getI 8 14 38 (zT_bin (fun x y => x * y) (zT_push (.int 1) (zT_bin (fun x y => x + y) (zT_ild 1 (zT_iast (zT_ald 0 (zT_getR 8 15 38 (zT_push (.int 5) (zT_ald 0 (zT_getI 8 14 38 (zT_bin (fun x y => x * y) (zT_push (.int 2) (zT_bin (fun x y => x + y) (zT_ild 3 (zT_iast (zT_ald 0 (zT_getR 8 15 38 (zT_push (.int 5) (zT_ald 0 (zT_getI 8 14 38 (zT_bin (fun x y => x * y) (zT_push (.int 3) (zT_bin (fun x y => x + y) (zT_ild 4 (zT_iast (zT_ald 0 (zT_getR 8 15 38 (zT_push (.int 5) (zT_ald 0 (zT_getI 8 14 38 (zT_bin (fun x y => x * y) (zT_push (.int 4) (zT_bin (fun x y => x + y) (zT_ild 5 (zT_iast (zT_ald 0 (zT_dup (zT_getI 8 14 38 (zT_push (.int 1) (zT_bin (fun x y => x + y) (zT_putI 8 14 38 (zT_vret K))))))))))))))))))))))))))))))))))))))))))))))))))))))) (zT_vret K)))
theorem zbs_X8_readAct_217 {X : zCt} (hR : zRX X = { frames := 4, cells := 0, slots := 0, locals := 86 }) (J : Nat → zPP) (hJ : ∀ h ∈ ([] : List Nat), zSd X RX8 "readAct" cX8_readAct 6 none h (J h)) : zSd X RX8 "readAct" cX8_readAct 6 none 217 (zb_X8_readAct_217 (zKX X) J) := zs_aload_n zd_X8_readAct_217 rfl (zs_getI (ci := 8) (j := 23) (T := TX8) rfl inX8 (by decide) gw_3_112 rfl zd_X8_readAct_218 (zs_if_eq (tgt := 225) zd_X8_readAct_221 (by decide) (zs_aload_n zd_X8_readAct_225 rfl (zs_getR (ci := 8) (j := 15) (T := TX8) rfl inX8 (by decide) gw_3_104 rfl zd_X8_readAct_226 (zs_iconst zd_X8_readAct_229 (by decide) (zs_aload_n zd_X8_readAct_230 rfl (zs_getI (ci := 8) (j := 14) (T := TX8) rfl inX8 (by decide) gw_3_103 rfl zd_X8_readAct_231 (zs_imul zd_X8_readAct_234 (zs_iload_n zd_X8_readAct_235 rfl (zs_iast zd_X8_readAct_236 (zs_aload_n zd_X8_readAct_237 rfl (zs_getR (ci := 8) (j := 15) (T := TX8) rfl inX8 (by decide) gw_3_104 rfl zd_X8_readAct_238 (zs_iconst zd_X8_readAct_241 (by decide) (zs_aload_n zd_X8_readAct_242 rfl (zs_getI (ci := 8) (j := 14) (T := TX8) rfl inX8 (by decide) gw_3_103 rfl zd_X8_readAct_243 (zs_imul zd_X8_readAct_246 (zs_iconst zd_X8_readAct_247 (by decide) (zs_iadd zd_X8_readAct_248 (zs_iload_n zd_X8_readAct_249 rfl (zs_iast zd_X8_readAct_250 (zs_aload_n zd_X8_readAct_251 rfl (zs_getR (ci := 8) (j := 15) (T := TX8) rfl inX8 (by decide) gw_3_104 rfl zd_X8_readAct_252 (zs_iconst zd_X8_readAct_255 (by decide) (zs_aload_n zd_X8_readAct_256 rfl (zs_getI (ci := 8) (j := 14) (T := TX8) rfl inX8 (by decide) gw_3_103 rfl zd_X8_readAct_257 (zs_imul zd_X8_readAct_260 (zs_iconst zd_X8_readAct_261 (by decide) (zs_iadd zd_X8_readAct_262 (zs_iload_n zd_X8_readAct_263 rfl (zs_iast zd_X8_readAct_264 (zs_aload_n zd_X8_readAct_265 rfl (zs_getR (ci := 8) (j := 15) (T := TX8) rfl inX8 (by decide) gw_3_104 rfl zd_X8_readAct_266 (zs_iconst zd_X8_readAct_269 (by decide) (zs_aload_n zd_X8_readAct_270 rfl (zs_getI (ci := 8) (j := 14) (T := TX8) rfl inX8 (by decide) gw_3_103 rfl zd_X8_readAct_271 (zs_imul zd_X8_readAct_274 (zs_iconst zd_X8_readAct_275 (by decide) (zs_iadd zd_X8_readAct_276 (zs_iload zd_X8_readAct_277 (zs_iast zd_X8_readAct_279 (zs_aload_n zd_X8_readAct_280 rfl (zs_getR (ci := 8) (j := 15) (T := TX8) rfl inX8 (by decide) gw_3_104 rfl zd_X8_readAct_281 (zs_iconst zd_X8_readAct_284 (by decide) (zs_aload_n zd_X8_readAct_285 rfl (zs_getI (ci := 8) (j := 14) (T := TX8) rfl inX8 (by decide) gw_3_103 rfl zd_X8_readAct_286 (zs_imul zd_X8_readAct_289 (zs_iconst zd_X8_readAct_290 (by decide) (zs_iadd zd_X8_readAct_291 (zs_iload zd_X8_readAct_292 (zs_iast zd_X8_readAct_294 (zs_aload_n zd_X8_readAct_295 rfl (zs_dup zd_X8_readAct_296 (zs_getI (ci := 8) (j := 14) (T := TX8) rfl inX8 (by decide) gw_3_103 rfl zd_X8_readAct_297 (zs_iconst zd_X8_readAct_300 (by decide) (zs_iadd zd_X8_readAct_301 (zs_putI (ci := 8) (j := 14) (T := TX8) rfl inX8 tyX8_ok nmX8 (by decide) gw_3_103 rfl rfl rfl zd_X8_readAct_302 (zs_vret rfl zd_X8_readAct_305))))))))))))))))))))))))))))))))))))))))))))))))))))))) (zs_vret rfl zd_X8_readAct_224)))
def zb_X8_readAct_204 (K : zKt) (J : Nat → zPP) : zPP := zT_V1 zok 8 38 zc_X8_must (zT_ald 0 (zT_push (.long 0) (zT_push (.long 200) (zT_V2 zok 8 38 zc_X8_number (zT_ist 5 (zb_X8_readAct_217 K J))))))
theorem zbs_X8_readAct_204 {X : zCt} (hR : zRX X = { frames := 4, cells := 0, slots := 0, locals := 86 }) (J : Nat → zPP) (hJ : ∀ h ∈ ([] : List Nat), zSd X RX8 "readAct" cX8_readAct 6 none h (J h)) : zSd X RX8 "readAct" cX8_readAct 6 none 204 (zb_X8_readAct_204 (zKX X) J) := zs_V (ci := 8) rfl rfl (zm_X8_must _ _ _) gw_4_37 gw_4_34 gw_4_36 gw_0_29 gw_1_7 zdn_X8_must (zrm hR (by decide) (by decide)) zd_X8_readAct_204 (zCl_V1 zok_l) (zs_aload_n zd_X8_readAct_207 rfl (zs_lconst zd_X8_readAct_208 (by decide) (zs_ldc2 zd_X8_readAct_209 gw_3_222 (zs_V (ci := 8) rfl rfl (zm_X8_number _ _ _) gw_4_42 gw_4_39 gw_4_41 gw_0_30 gw_1_7 zdn_X8_number (zrm hR (by decide) (by decide)) zd_X8_readAct_212 (zCl_V2 zok_l) (zs_istore zd_X8_readAct_215 (by decide) (zbs_X8_readAct_217 hR J hJ))))))
def zb_X8_readAct_141 (K : zKt) (J : Nat → zPP) : zPP := zT_V1 zok 8 38 zc_X8_must (zT_ald 0 (zT_push (.long 0) (zT_push (.long 11) (zT_V2 zok 8 38 zc_X8_number (zT_ist 3 (zT_ald 0 (zT_push (.long 0) (zT_push (.long 9) (zT_V2 zok 8 38 zc_X8_number (zT_ist 4 (zT_push (.int 0) (zT_ist 5 (zT_ild 2 (zT_push (.int 2) (zT_if2 (fun x y => x < y) (zb_X8_readAct_217 K J) (zT_ald 0 (zT_ild 2 (zT_push (.int 2) (zT_if2 (fun x y => x = y) (zT_ald 0 (zT_push (.int 98) (zT_push (.int 121) (zT_push (.int 0) (zT_push (.int 0) (zT_push (.int 0) (zT_push (.int 0) (zT_V6 zok 8 38 zc_X8_isWord (zb_X8_readAct_204 K J))))))))) (zT_ald 0 (zT_push (.int 116) (zT_push (.int 111) (zT_push (.int 0) (zT_push (.int 0) (zT_push (.int 0) (zT_push (.int 0) (zT_V6 zok 8 38 zc_X8_isWord (zb_X8_readAct_204 K J))))))))))))))))))))))))))))
theorem zbs_X8_readAct_141 {X : zCt} (hR : zRX X = { frames := 4, cells := 0, slots := 0, locals := 86 }) (J : Nat → zPP) (hJ : ∀ h ∈ ([] : List Nat), zSd X RX8 "readAct" cX8_readAct 6 none h (J h)) : zSd X RX8 "readAct" cX8_readAct 6 none 141 (zb_X8_readAct_141 (zKX X) J) := zs_V (ci := 8) rfl rfl (zm_X8_must _ _ _) gw_4_37 gw_4_34 gw_4_36 gw_0_29 gw_1_7 zdn_X8_must (zrm hR (by decide) (by decide)) zd_X8_readAct_141 (zCl_V1 zok_l) (zs_aload_n zd_X8_readAct_144 rfl (zs_lconst zd_X8_readAct_145 (by decide) (zs_ldc2 zd_X8_readAct_146 gw_4_43 (zs_V (ci := 8) rfl rfl (zm_X8_number _ _ _) gw_4_42 gw_4_39 gw_4_41 gw_0_30 gw_1_7 zdn_X8_number (zrm hR (by decide) (by decide)) zd_X8_readAct_149 (zCl_V2 zok_l) (zs_istore_n zd_X8_readAct_152 rfl (by decide) (zs_aload_n zd_X8_readAct_153 rfl (zs_lconst zd_X8_readAct_154 (by decide) (zs_ldc2 zd_X8_readAct_155 gw_4_44 (zs_V (ci := 8) rfl rfl (zm_X8_number _ _ _) gw_4_42 gw_4_39 gw_4_41 gw_0_30 gw_1_7 zdn_X8_number (zrm hR (by decide) (by decide)) zd_X8_readAct_158 (zCl_V2 zok_l) (zs_istore zd_X8_readAct_161 (by decide) (zs_iconst zd_X8_readAct_163 (by decide) (zs_istore zd_X8_readAct_164 (by decide) (zs_iload_n zd_X8_readAct_166 rfl (zs_iconst zd_X8_readAct_167 (by decide) (zs_icmp_lt (tgt := 217) zd_X8_readAct_168 (by decide) (zbs_X8_readAct_217 hR J hJ) (zs_aload_n zd_X8_readAct_171 rfl (zs_iload_n zd_X8_readAct_172 rfl (zs_iconst zd_X8_readAct_173 (by decide) (zs_icmp_ne (tgt := 192) zd_X8_readAct_174 (by decide) (zs_aload_n zd_X8_readAct_192 rfl (zs_bipush zd_X8_readAct_193 (by decide) (zs_bipush zd_X8_readAct_195 (by decide) (zs_iconst zd_X8_readAct_197 (by decide) (zs_iconst zd_X8_readAct_198 (by decide) (zs_iconst zd_X8_readAct_199 (by decide) (zs_iconst zd_X8_readAct_200 (by decide) (zs_V (ci := 8) rfl rfl (zm_X8_isWord _ _ _) gw_4_33 gw_4_30 gw_4_32 gw_0_28 gw_1_7 zdn_X8_isWord (zrm hR (by decide) (by decide)) zd_X8_readAct_201 (zCl_V6 zok_l) (zbs_X8_readAct_204 hR J hJ))))))))) (zs_aload_n zd_X8_readAct_177 rfl (zs_bipush zd_X8_readAct_178 (by decide) (zs_bipush zd_X8_readAct_180 (by decide) (zs_iconst zd_X8_readAct_182 (by decide) (zs_iconst zd_X8_readAct_183 (by decide) (zs_iconst zd_X8_readAct_184 (by decide) (zs_iconst zd_X8_readAct_185 (by decide) (zs_V (ci := 8) rfl rfl (zm_X8_isWord _ _ _) gw_4_33 gw_4_30 gw_4_32 gw_0_28 gw_1_7 zdn_X8_isWord (zrm hR (by decide) (by decide)) zd_X8_readAct_186 (zCl_V6 zok_l) (zs_goto (tgt := 204) zd_X8_readAct_189 (by decide) (zbs_X8_readAct_204 hR J hJ)))))))))))))))))))))))))))))
def zb_X8_readAct_130 (K : zKt) (J : Nat → zPP) : zPP := zT_ist 2 (zT_ald 0 (zT_ild 2 (zT_if1 (fun x => x < 0) (zT_push (.int 0) (zb_X8_readAct_141 K J)) (zT_push (.int 1) (zb_X8_readAct_141 K J)))))
theorem zbs_X8_readAct_130 {X : zCt} (hR : zRX X = { frames := 4, cells := 0, slots := 0, locals := 86 }) (J : Nat → zPP) (hJ : ∀ h ∈ ([] : List Nat), zSd X RX8 "readAct" cX8_readAct 6 none h (J h)) : zSd X RX8 "readAct" cX8_readAct 6 none 130 (zb_X8_readAct_130 (zKX X) J) := zs_istore_n zd_X8_readAct_130 rfl (by decide) (zs_aload_n zd_X8_readAct_131 rfl (zs_iload_n zd_X8_readAct_132 rfl (zs_if_lt (tgt := 140) zd_X8_readAct_133 (by decide) (zs_iconst zd_X8_readAct_140 (by decide) (zbs_X8_readAct_141 hR J hJ)) (zs_iconst zd_X8_readAct_136 (by decide) (zs_goto (tgt := 141) zd_X8_readAct_137 (by decide) (zbs_X8_readAct_141 hR J hJ))))))
def zb_X8_readAct_32 (K : zKt) (J : Nat → zPP) : zPP := zT_V1 zok 8 38 zc_X8_must (zT_ald 0 (zT_push (.long 1) (zT_push (.long 30) (zT_V2 zok 8 38 zc_X8_number (zT_ist 1 (zT_ald 0 (zT_push (.int 100) (zT_push (.int 121) (zT_push (.int 107) (zT_push (.int 101) (zT_push (.int 0) (zT_push (.int 0) (zT_V6 zok 8 38 zc_X8_isWord (zT_if1 (fun x => x = 0) (zT_ald 0 (zT_push (.int 111) (zT_push (.int 112) (zT_push (.int 101) (zT_push (.int 110) (zT_push (.int 0) (zT_push (.int 0) (zT_V6 zok 8 38 zc_X8_isWord (zT_if1 (fun x => x = 0) (zT_ald 0 (zT_push (.int 99) (zT_push (.int 117) (zT_push (.int 116) (zT_push (.int 0) (zT_push (.int 0) (zT_push (.int 0) (zT_V6 zok 8 38 zc_X8_isWord (zT_if1 (fun x => x = 0) (zT_ald 0 (zT_push (.int 100) (zT_push (.int 114) (zT_push (.int 101) (zT_push (.int 100) (zT_push (.int 103) (zT_push (.int 101) (zT_V6 zok 8 38 zc_X8_isWord (zT_if1 (fun x => x = 0) (zT_push (.int (-1)) (zb_X8_readAct_130 K J)) (zT_push (.int 3) (zb_X8_readAct_130 K J))))))))))) (zT_push (.int 2) (zb_X8_readAct_130 K J))))))))))) (zT_push (.int 1) (zb_X8_readAct_130 K J))))))))))) (zT_push (.int 0) (zb_X8_readAct_130 K J))))))))))))))))
theorem zbs_X8_readAct_32 {X : zCt} (hR : zRX X = { frames := 4, cells := 0, slots := 0, locals := 86 }) (J : Nat → zPP) (hJ : ∀ h ∈ ([] : List Nat), zSd X RX8 "readAct" cX8_readAct 6 none h (J h)) : zSd X RX8 "readAct" cX8_readAct 6 none 32 (zb_X8_readAct_32 (zKX X) J) := zs_V (ci := 8) rfl rfl (zm_X8_must _ _ _) gw_4_37 gw_4_34 gw_4_36 gw_0_29 gw_1_7 zdn_X8_must (zrm hR (by decide) (by decide)) zd_X8_readAct_32 (zCl_V1 zok_l) (zs_aload_n zd_X8_readAct_35 rfl (zs_lconst zd_X8_readAct_36 (by decide) (zs_ldc2 zd_X8_readAct_37 gw_4_38 (zs_V (ci := 8) rfl rfl (zm_X8_number _ _ _) gw_4_42 gw_4_39 gw_4_41 gw_0_30 gw_1_7 zdn_X8_number (zrm hR (by decide) (by decide)) zd_X8_readAct_40 (zCl_V2 zok_l) (zs_istore_n zd_X8_readAct_43 rfl (by decide) (zs_aload_n zd_X8_readAct_44 rfl (zs_bipush zd_X8_readAct_45 (by decide) (zs_bipush zd_X8_readAct_47 (by decide) (zs_bipush zd_X8_readAct_49 (by decide) (zs_bipush zd_X8_readAct_51 (by decide) (zs_iconst zd_X8_readAct_53 (by decide) (zs_iconst zd_X8_readAct_54 (by decide) (zs_V (ci := 8) rfl rfl (zm_X8_isWord _ _ _) gw_4_33 gw_4_30 gw_4_32 gw_0_28 gw_1_7 zdn_X8_isWord (zrm hR (by decide) (by decide)) zd_X8_readAct_55 (zCl_V6 zok_l) (zs_if_eq (tgt := 65) zd_X8_readAct_58 (by decide) (zs_aload_n zd_X8_readAct_65 rfl (zs_bipush zd_X8_readAct_66 (by decide) (zs_bipush zd_X8_readAct_68 (by decide) (zs_bipush zd_X8_readAct_70 (by decide) (zs_bipush zd_X8_readAct_72 (by decide) (zs_iconst zd_X8_readAct_74 (by decide) (zs_iconst zd_X8_readAct_75 (by decide) (zs_V (ci := 8) rfl rfl (zm_X8_isWord _ _ _) gw_4_33 gw_4_30 gw_4_32 gw_0_28 gw_1_7 zdn_X8_isWord (zrm hR (by decide) (by decide)) zd_X8_readAct_76 (zCl_V6 zok_l) (zs_if_eq (tgt := 86) zd_X8_readAct_79 (by decide) (zs_aload_n zd_X8_readAct_86 rfl (zs_bipush zd_X8_readAct_87 (by decide) (zs_bipush zd_X8_readAct_89 (by decide) (zs_bipush zd_X8_readAct_91 (by decide) (zs_iconst zd_X8_readAct_93 (by decide) (zs_iconst zd_X8_readAct_94 (by decide) (zs_iconst zd_X8_readAct_95 (by decide) (zs_V (ci := 8) rfl rfl (zm_X8_isWord _ _ _) gw_4_33 gw_4_30 gw_4_32 gw_0_28 gw_1_7 zdn_X8_isWord (zrm hR (by decide) (by decide)) zd_X8_readAct_96 (zCl_V6 zok_l) (zs_if_eq (tgt := 106) zd_X8_readAct_99 (by decide) (zs_aload_n zd_X8_readAct_106 rfl (zs_bipush zd_X8_readAct_107 (by decide) (zs_bipush zd_X8_readAct_109 (by decide) (zs_bipush zd_X8_readAct_111 (by decide) (zs_bipush zd_X8_readAct_113 (by decide) (zs_bipush zd_X8_readAct_115 (by decide) (zs_bipush zd_X8_readAct_117 (by decide) (zs_V (ci := 8) rfl rfl (zm_X8_isWord _ _ _) gw_4_33 gw_4_30 gw_4_32 gw_0_28 gw_1_7 zdn_X8_isWord (zrm hR (by decide) (by decide)) zd_X8_readAct_119 (zCl_V6 zok_l) (zs_if_eq (tgt := 129) zd_X8_readAct_122 (by decide) (zs_iconst zd_X8_readAct_129 (by decide) (zbs_X8_readAct_130 hR J hJ)) (zs_iconst zd_X8_readAct_125 (by decide) (zs_goto (tgt := 130) zd_X8_readAct_126 (by decide) (zbs_X8_readAct_130 hR J hJ)))))))))))) (zs_iconst zd_X8_readAct_102 (by decide) (zs_goto (tgt := 130) zd_X8_readAct_103 (by decide) (zbs_X8_readAct_130 hR J hJ)))))))))))) (zs_iconst zd_X8_readAct_82 (by decide) (zs_goto (tgt := 130) zd_X8_readAct_83 (by decide) (zbs_X8_readAct_130 hR J hJ)))))))))))) (zs_iconst zd_X8_readAct_61 (by decide) (zs_goto (tgt := 130) zd_X8_readAct_62 (by decide) (zbs_X8_readAct_130 hR J hJ)))))))))))))))))
def zb_X8_readAct_31 (K : zKt) (J : Nat → zPP) : zPP := zT_push (.int 0) (zb_X8_readAct_32 K J)
theorem zbs_X8_readAct_31 {X : zCt} (hR : zRX X = { frames := 4, cells := 0, slots := 0, locals := 86 }) (J : Nat → zPP) (hJ : ∀ h ∈ ([] : List Nat), zSd X RX8 "readAct" cX8_readAct 6 none h (J h)) : zSd X RX8 "readAct" cX8_readAct 6 none 31 (zb_X8_readAct_31 (zKX X) J) := zs_iconst zd_X8_readAct_31 (by decide) (zbs_X8_readAct_32 hR J hJ)
def zb_X8_readAct_0 (K : zKt) (J : Nat → zPP) : zPP := zT_ald 0 (zT_ald 0 (zT_push (.int 121) (zT_push (.int 101) (zT_push (.int 97) (zT_push (.int 114) (zT_push (.int 0) (zT_push (.int 0) (zT_V6 zok 8 38 zc_X8_isWord (zT_if1 (fun x => x = 0) (zb_X8_readAct_31 K J) (zT_ald 0 (zT_getI 8 14 38 (zT_push (.int 20) (zT_if2 (fun x y => y ≤ x) (zb_X8_readAct_31 K J) (zT_push (.int 1) (zb_X8_readAct_32 K J)))))))))))))))
theorem zbs_X8_readAct_0 {X : zCt} (hR : zRX X = { frames := 4, cells := 0, slots := 0, locals := 86 }) (J : Nat → zPP) (hJ : ∀ h ∈ ([] : List Nat), zSd X RX8 "readAct" cX8_readAct 6 none h (J h)) : zSd X RX8 "readAct" cX8_readAct 6 none 0 (zb_X8_readAct_0 (zKX X) J) := zs_aload_n zd_X8_readAct_0 rfl (zs_aload_n zd_X8_readAct_1 rfl (zs_bipush zd_X8_readAct_2 (by decide) (zs_bipush zd_X8_readAct_4 (by decide) (zs_bipush zd_X8_readAct_6 (by decide) (zs_bipush zd_X8_readAct_8 (by decide) (zs_iconst zd_X8_readAct_10 (by decide) (zs_iconst zd_X8_readAct_11 (by decide) (zs_V (ci := 8) rfl rfl (zm_X8_isWord _ _ _) gw_4_33 gw_4_30 gw_4_32 gw_0_28 gw_1_7 zdn_X8_isWord (zrm hR (by decide) (by decide)) zd_X8_readAct_12 (zCl_V6 zok_l) (zs_if_eq (tgt := 31) zd_X8_readAct_15 (by decide) (zbs_X8_readAct_31 hR J hJ) (zs_aload_n zd_X8_readAct_18 rfl (zs_getI (ci := 8) (j := 14) (T := TX8) rfl inX8 (by decide) gw_3_103 rfl zd_X8_readAct_19 (zs_bipush zd_X8_readAct_22 (by decide) (zs_icmp_ge (tgt := 31) zd_X8_readAct_24 (by decide) (zbs_X8_readAct_31 hR J hJ) (zs_iconst zd_X8_readAct_27 (by decide) (zs_goto (tgt := 32) zd_X8_readAct_28 (by decide) (zbs_X8_readAct_32 hR J hJ))))))))))))))))
theorem zdn_X8_readAct : yX8_readAct.cls ≠ "java/lang/invoke/MethodHandle" ∧ yX8_readAct.cls ≠ "java/lang/invoke/VarHandle" ∧ (parseMethodDescriptor yX8_readAct.desc).map (fun d => d.parameters.length) = some 0 := by decide +kernel
theorem must_use {M : zMm} {tp : List Nat} {s : Nat ⊕ Nat} {x : Int32} {K : zKt} (r : M.2.2.2 200 16 = some 208) (hT : zMT M tp) (hP : mPs M tp s) (h : ∀ M', mch M M' → mPs M' tp (mmu tp s x) → K none M') : zc_X8_must [.ref 200, .int x] M K := ⟨rfl, r, tp, s, hT, hP, h⟩
theorem mnum_use {M : zMm} {tp : List Nat} {s : Nat ⊕ Nat} {x y : Int64} (lo hi : Nat) {K : zKt} (r : M.2.2.2 200 16 = some 208) (hT : zMT M tp) (hP : mPs M tp s) (hx : x = lN lo) (hy : y = lN hi) (hlo : lo ≤ 1000) (hhi : hi ≤ 1000) (h : ∀ M' v, mch M M' → mPs M' tp (mnu tp s lo hi) → (∀ a, s = .inr a → wnm tp a lo hi = true → v = nI (wnv tp a)) → K (some (.int v)) M') : zc_X8_number [.ref 200, .long x, .long y] M K := ⟨rfl, r, tp, s, lo, hi, hT, hP, hx, hy, hlo, hhi, h⟩
theorem mnu_i {tp : List Nat} {s : Nat ⊕ Nat} {lo hi f : Nat} (h : mnu tp s lo hi = .inl f) : s = .inl f ∨ (s = .inr f ∧ ¬ wnm tp f lo hi = true) := by
  rcases s with g | a
  · exact Or.inl h
  · by_cases q : wnm tp a lo hi = true
    · rw [mnu_1 q] at h; cases h
    · rw [mnu_0 q] at h; cases h; exact Or.inr ⟨rfl, q⟩
theorem mnu_r {tp : List Nat} {s : Nat ⊕ Nat} {lo hi b : Nat} (h : mnu tp s lo hi = .inr b) : ∃ a, s = .inr a ∧ wnm tp a lo hi = true ∧ b = wno tp a := by
  rcases s with g | a
  · cases h
  · by_cases q : wnm tp a lo hi = true
    · rw [mnu_1 q] at h; cases h; exact ⟨a, rfl, q, rfl⟩
    · rw [mnu_0 q] at h; cases h
theorem mmu_i {tp : List Nat} {s : Nat ⊕ Nat} {x : Int32} {f : Nat} (h : mmu tp s x = .inl f) : s = .inl f ∨ (s = .inr f ∧ x = 0) := by
  rcases s with g | a
  · exact Or.inl h
  · by_cases q : x = 0
    · rw [mmu_0 q] at h; cases h; exact Or.inr ⟨rfl, q⟩
    · rw [mmu_1 q] at h; cases h
theorem mmu_r {tp : List Nat} {s : Nat ⊕ Nat} {x : Int32} {b : Nat} (h : mmu tp s x = .inr b) : ∃ a, s = .inr a ∧ ¬ x = 0 ∧ b = wno tp a := by
  rcases s with g | a
  · cases h
  · by_cases q : x = 0
    · rw [mmu_0 q] at h; cases h
    · rw [mmu_1 q] at h; cases h; exact ⟨a, rfl, q, rfl⟩
/-- an act has been put behind the n-th -/
def mra (M M' : zMm) (n : Nat) (t : wAc) : Prop := (M'.1 = M.1 ∧ M'.2.2.2 = M.2.2.2 ∧ (∀ k, k ≠ 200 → k ≠ 207 → M'.2.1 k = M.2.1 k) ∧ ∀ j, j ≠ 14 → j < 18 ∨ 23 < j → M'.2.1 200 j = M.2.1 200 j) ∧ M'.2.1 200 14 = nI (n + 1) ∧ (∀ i, i < 5 * n → M'.2.1 207 i = M.2.1 207 i) ∧ M'.2.1 207 (5 * n) = nI (wak t) ∧ M'.2.1 207 (5 * n + 1) = nI (way t) ∧ M'.2.1 207 (5 * n + 2) = nI (wax t) ∧ M'.2.1 207 (5 * n + 3) = nI (wao t) ∧ M'.2.1 207 (5 * n + 4) = nI (wab t)
def zc_X8_readAct (a : List Value) (M : zMm) (K : zKt) : Prop := match a with
  | [.ref k] => k = 200 ∧ M.2.2.2 200 16 = some 208 ∧ M.2.2.2 200 15 = some 207 ∧ ∃ tp a n, zMT M tp ∧ mPs M tp (.inr a) ∧ M.2.1 200 14 = nI n ∧ n ≤ 20 ∧
    (∀ f, ((n = 20 ∧ f = a) ∨ (n < 20 ∧ wrA tp a = .inl f)) → ∀ M', mch M M' → mPs M' tp (.inl f) → K none M') ∧
    (∀ t a', n < 20 → wrA tp a = .inr (t, a') → wacok t → ∀ M', mra M M' n t → mPs M' tp (.inr a') → K none M')
  | _ => False
set_option maxHeartbeats 4000000 in
theorem zm_X8_readAct (l : Launch) (D : va_G) (Y : Nat → ClassId) : zMt l D Y yX8_readAct cX8_readAct 6 none 4 86 0 0 zc_X8_readAct := by
  refine zflat (by decide) (fun K J _ _ => zb_X8_readAct_0 K J) (fun X hR => zbs_X8_readAct_0 hR zJ0 zJ0_ok) (fun avs M K h => ?_)
  unfold zc_X8_readAct at h
  split at h
  · obtain ⟨rfl, r16, r15, tp, a, n, hT, hP, h14, hn, hF, hG⟩ := h
    refine ⟨by simp [zent], ?_⟩
    have S217 : ∀ (M' : zMm) (s : Nat ⊕ Nat) (v1 its v3 v4 v5 : Int32), mch M M' → mPs M' tp s → (∀ f, s = .inl f → (n = 20 ∧ f = a) ∨ (n < 20 ∧ wrA tp a = .inl f)) → (∀ a', s = .inr a' → n < 20 ∧ ∃ t, wrA tp a = .inr (t, a') ∧ wacok t ∧ its = nI (wak t) ∧ v1 = nI (way t) ∧ v3 = nI (wax t) ∧ v4 = nI (wao t) ∧ v5 = nI (wab t)) → zb_X8_readAct_217 K zJ0 M' [some (.ref 200), some (.int v1), some (.int its), some (.int v3), some (.int v4), some (.int v5)] [] := by
      intro M' s v1 its v3 v4 v5 hs hP' hf hr
      have eR := hs.R
      have e14 : M'.2.1 200 14 = nI n := by rw [hs.2.2.2 14 (by omega)]; exact h14
      rcases s with f | a'
      · obtain ⟨p1, p2⟩ := id hP'
        simp only [zb_X8_readAct_217, zsh_200, p1, zT_push, zT_bin, zT_div, zT_bil, zT_shl, zT_un, zT_i2l, zT_l2i, zT_lcmp, zT_ild, zT_lld, zT_ald, zT_ist, zT_lst, zT_ast, zT_iinc, zT_dup, zT_dup2, zT_pop, zT_if1, zT_if2, zT_ifn, zT_getI, zT_getJ, zT_getR, zT_putI, zT_putZ, zT_putJ, zT_putR, zT_ald0, zT_lald, zT_aald, zT_iast, zT_zast, zT_bast, zT_last, zT_aast, zT_iret, zT_nret, zT_aret, zT_vret, zT_oi, zT_mm, zT_ialX, zT_S1, zT_S2, zT_S3, zT_V0, zT_V1, zT_V2, zT_V3, zT_V4, zT_V5, zT_V6, zT_I0, zT_I1, zT_I2, zlg, zlset, zlpr, zent, zok, va_rf, List.length_cons, List.length_nil, List.replicate, List.cons_append, List.nil_append, List.append_nil, Option.toList_some, Option.toList_none, Option.toList, Nat.reduceAdd, Nat.reduceSub, Nat.reduceLeDiff, Nat.zero_add, Nat.zero_le, true_and, and_true, Nat.le_refl, ge_iff_le, Nat.reduceEqDiff]
        exact ⟨fun z => absurd z (by decide), fun _ => hF f (hf f rfl) M' hs hP'⟩
      · obtain ⟨hn20, t, ht, hok, rfl, rfl, rfl, rfl, rfl⟩ := hr a' rfl
        obtain ⟨p1, p2, p3, q1, q2, q3, q4⟩ := id hP'
        have m5 : (5 : Int32) * nI n = nI (5 * n) := pk_mul (a := 5) (b := n)
        simp only [zb_X8_readAct_217, zsh_200, zsh_207, p1, zwI_R, eR, r15, e14, m5, zwI_L, zwI_I, zwI_J, zwI_R, zwJ_L, zwJ_I, zwJ_J, zwJ_R, zwR_L, zwR_I, zwR_J, zwR_R, zw2_s, zw2_n, ne_eq, not_false_eq_true, reduceCtorEq, not_true_eq_false, Nat.reduceEqDiff, zup_s, zup_n, zT_push, zT_bin, zT_div, zT_bil, zT_shl, zT_un, zT_i2l, zT_l2i, zT_lcmp, zT_ild, zT_lld, zT_ald, zT_ist, zT_lst, zT_ast, zT_iinc, zT_dup, zT_dup2, zT_pop, zT_if1, zT_if2, zT_ifn, zT_getI, zT_getJ, zT_getR, zT_putI, zT_putZ, zT_putJ, zT_putR, zT_ald0, zT_lald, zT_aald, zT_iast, zT_zast, zT_bast, zT_last, zT_aast, zT_iret, zT_nret, zT_aret, zT_vret, zT_oi, zT_mm, zT_ialX, zT_S1, zT_S2, zT_S3, zT_V0, zT_V1, zT_V2, zT_V3, zT_V4, zT_V5, zT_V6, zT_I0, zT_I1, zT_I2, zlg, zlset, zlpr, zent, zok, va_rf, List.length_cons, List.length_nil, List.replicate, List.cons_append, List.nil_append, List.append_nil, Option.toList_some, Option.toList_none, Option.toList, Nat.reduceAdd, Nat.reduceSub, Nat.reduceLeDiff, Nat.zero_add, Nat.zero_le, true_and, and_true, Nat.le_refl, ge_iff_le, Nat.reduceEqDiff]
        have i1 : nI (5 * n) + 1 = nI (5 * n + 1) := nI_add _ 1
        have i2 : nI (5 * n) + 2 = nI (5 * n + 2) := nI_add _ 2
        have i3 : nI (5 * n) + 3 = nI (5 * n + 3) := nI_add _ 3
        have i4 : nI (5 * n) + 4 = nI (5 * n + 4) := nI_add _ 4
        rw [i1, i2, i3, i4, nI_clamp (n := 5 * n) (by omega), nI_clamp (n := 5 * n + 1) (by omega), nI_clamp (n := 5 * n + 2) (by omega), nI_clamp (n := 5 * n + 3) (by omega), nI_clamp (n := 5 * n + 4) (by omega)]
        refine ⟨fun _ => ⟨vp_in_nI (by omega) (by decide), vp_in_nI (by omega) (by decide), vp_in_nI (by omega) (by decide), vp_in_nI (by omega) (by decide), vp_in_nI (by omega) (by decide), hG t a' hn20 ht hok _ ⟨⟨hs.1, eR, fun k z1 z2 => ?_, fun j z1 z2 => ?_⟩, ?_, fun i hi => ?_, ?_, ?_, ?_, ?_, ?_⟩ ⟨?_, ?_, p3, ?_, ?_, ?_, ?_⟩⟩, fun z => z.elim⟩
        · simp only [zwI_I]
          rw [zw2_n z1, zw2_n z2, zw2_n z2, zw2_n z2, zw2_n z2, zw2_n z2]
          exact hs.2.2.1 k z1
        · simp only [zwI_L, zwI_I, zwI_J, zwI_R, zwJ_L, zwJ_I, zwJ_J, zwJ_R, zwR_L, zwR_I, zwR_J, zwR_R, zw2_s, zw2_n, ne_eq, not_false_eq_true, reduceCtorEq, not_true_eq_false, Nat.reduceEqDiff]
          rw [zup_n z1]
          exact hs.2.2.2 j z2
        · simp only [zwI_L, zwI_I, zwI_J, zwI_R, zwJ_L, zwJ_I, zwJ_J, zwJ_R, zwR_L, zwR_I, zwR_J, zwR_R, zw2_s, zw2_n, ne_eq, not_false_eq_true, reduceCtorEq, not_true_eq_false, Nat.reduceEqDiff, zup_s]
          exact nI_1 n
        · simp only [zwI_L, zwI_I, zwI_J, zwI_R, zwJ_L, zwJ_I, zwJ_J, zwJ_R, zwR_L, zwR_I, zwR_J, zwR_R, zw2_s, zw2_n, ne_eq, not_false_eq_true, reduceCtorEq, not_true_eq_false, Nat.reduceEqDiff]
          rw [zup_n (by omega), zup_n (by omega), zup_n (by omega), zup_n (by omega), zup_n (by omega), hs.2.2.1 207 (by decide)]
        · simp only [zwI_L, zwI_I, zwI_J, zwI_R, zwJ_L, zwJ_I, zwJ_J, zwJ_R, zwR_L, zwR_I, zwR_J, zwR_R, zw2_s, zw2_n, ne_eq, not_false_eq_true, reduceCtorEq, not_true_eq_false, Nat.reduceEqDiff]
          rw [zup_n (by omega), zup_n (by omega), zup_n (by omega), zup_n (by omega), zup_s]
        · simp only [zwI_L, zwI_I, zwI_J, zwI_R, zwJ_L, zwJ_I, zwJ_J, zwJ_R, zwR_L, zwR_I, zwR_J, zwR_R, zw2_s, zw2_n, ne_eq, not_false_eq_true, reduceCtorEq, not_true_eq_false, Nat.reduceEqDiff]
          rw [zup_n (by omega), zup_n (by omega), zup_n (by omega), zup_s]
        · simp only [zwI_L, zwI_I, zwI_J, zwI_R, zwJ_L, zwJ_I, zwJ_J, zwJ_R, zwR_L, zwR_I, zwR_J, zwR_R, zw2_s, zw2_n, ne_eq, not_false_eq_true, reduceCtorEq, not_true_eq_false, Nat.reduceEqDiff]
          rw [zup_n (by omega), zup_n (by omega), zup_s]
        · simp only [zwI_L, zwI_I, zwI_J, zwI_R, zwJ_L, zwJ_I, zwJ_J, zwJ_R, zwR_L, zwR_I, zwR_J, zwR_R, zw2_s, zw2_n, ne_eq, not_false_eq_true, reduceCtorEq, not_true_eq_false, Nat.reduceEqDiff]
          rw [zup_n (by omega), zup_s]
        · simp only [zwI_L, zwI_I, zwI_J, zwI_R, zwJ_L, zwJ_I, zwJ_J, zwJ_R, zwR_L, zwR_I, zwR_J, zwR_R, zw2_s, zw2_n, ne_eq, not_false_eq_true, reduceCtorEq, not_true_eq_false, Nat.reduceEqDiff]
          rw [zup_s]
        · simp only [zwI_L, zwI_I, zwI_J, zwI_R, zwJ_L, zwJ_I, zwJ_J, zwJ_R, zwR_L, zwR_I, zwR_J, zwR_R, zw2_s, zw2_n, ne_eq, not_false_eq_true, reduceCtorEq, not_true_eq_false, Nat.reduceEqDiff, zup_n]; exact p1
        · simp only [zwI_L, zwI_I, zwI_J, zwI_R, zwJ_L, zwJ_I, zwJ_J, zwJ_R, zwR_L, zwR_I, zwR_J, zwR_R, zw2_s, zw2_n, ne_eq, not_false_eq_true, reduceCtorEq, not_true_eq_false, Nat.reduceEqDiff, zup_n]; exact p2
        · simp only [zwI_L, zwI_I, zwI_J, zwI_R, zwJ_L, zwJ_I, zwJ_J, zwJ_R, zwR_L, zwR_I, zwR_J, zwR_R, zw2_s, zw2_n, ne_eq, not_false_eq_true, reduceCtorEq, not_true_eq_false, Nat.reduceEqDiff, zup_n]; exact q1
        · simp only [zwI_L, zwI_I, zwI_J, zwI_R, zwJ_L, zwJ_I, zwJ_J, zwJ_R, zwR_L, zwR_I, zwR_J, zwR_R, zw2_s, zw2_n, ne_eq, not_false_eq_true, reduceCtorEq, not_true_eq_false, Nat.reduceEqDiff, zup_n]; exact q2
        · simp only [zwI_L, zwI_I, zwI_J, zwI_R, zwJ_L, zwJ_I, zwJ_J, zwJ_R, zwR_L, zwR_I, zwR_J, zwR_R, zw2_s, zw2_n, ne_eq, not_false_eq_true, reduceCtorEq, not_true_eq_false, Nat.reduceEqDiff, zup_n]; exact q3
        · simp only [zwI_L, zwI_I, zwI_J, zwI_R, zwJ_L, zwJ_I, zwJ_J, zwJ_R, zwR_L, zwR_I, zwR_J, zwR_R, zw2_s, zw2_n, ne_eq, not_false_eq_true, reduceCtorEq, not_true_eq_false, Nat.reduceEqDiff, zup_n]; exact q4
    have S204 : ∀ (M' : zMm) (s : Nat ⊕ Nat) (x v1 its v3 v4 : Int32), mch M M' → mPs M' tp s → (∀ f, s = .inl f → (n = 20 ∧ f = a) ∨ (n < 20 ∧ wrA tp a = .inl f)) → (∀ a4, s = .inr a4 → n < 20 ∧ ∃ y c x' o, 2 ≤ c ∧ c < 4 ∧ y ≤ 30 ∧ x' < 12 ∧ o < 10 ∧ its = nI c ∧ v1 = nI y ∧ v3 = nI x' ∧ v4 = nI o ∧ wrA tp a = wrB tp y c x' o a4 ∧ (x = 0 ↔ ¬ wis tp a4 (if c = 2 then 5 else 6) = true)) → zb_X8_readAct_204 K zJ0 M' [some (.ref 200), some (.int v1), some (.int its), some (.int v3), some (.int v4), some (.int 0)] [.int x, .ref 200] := by
      intro M' s x v1 its v3 v4 hs hP' hf hr
      simp only [zb_X8_readAct_204, zsh_200, zT_push, zT_bin, zT_div, zT_bil, zT_shl, zT_un, zT_i2l, zT_l2i, zT_lcmp, zT_ild, zT_lld, zT_ald, zT_ist, zT_lst, zT_ast, zT_iinc, zT_dup, zT_dup2, zT_pop, zT_if1, zT_if2, zT_ifn, zT_getI, zT_getJ, zT_getR, zT_putI, zT_putZ, zT_putJ, zT_putR, zT_ald0, zT_lald, zT_aald, zT_iast, zT_zast, zT_bast, zT_last, zT_aast, zT_iret, zT_nret, zT_aret, zT_vret, zT_oi, zT_mm, zT_ialX, zT_S1, zT_S2, zT_S3, zT_V0, zT_V1, zT_V2, zT_V3, zT_V4, zT_V5, zT_V6, zT_I0, zT_I1, zT_I2, zlg, zlset, zlpr, zent, zok, va_rf, List.length_cons, List.length_nil, List.replicate, List.cons_append, List.nil_append, List.append_nil, Option.toList_some, Option.toList_none, Option.toList, Nat.reduceAdd, Nat.reduceSub, Nat.reduceLeDiff, Nat.zero_add, Nat.zero_le, true_and, and_true, Nat.le_refl, ge_iff_le, Nat.reduceEqDiff]
      refine must_use (by rw [hs.R]; exact r16) (hs.T hT) hP' (fun M1 hs1 hP1 => ?_)
      have h1 := hs.tr hs1
      simp only [zsh_200, zT_push, zT_bin, zT_div, zT_bil, zT_shl, zT_un, zT_i2l, zT_l2i, zT_lcmp, zT_ild, zT_lld, zT_ald, zT_ist, zT_lst, zT_ast, zT_iinc, zT_dup, zT_dup2, zT_pop, zT_if1, zT_if2, zT_ifn, zT_getI, zT_getJ, zT_getR, zT_putI, zT_putZ, zT_putJ, zT_putR, zT_ald0, zT_lald, zT_aald, zT_iast, zT_zast, zT_bast, zT_last, zT_aast, zT_iret, zT_nret, zT_aret, zT_vret, zT_oi, zT_mm, zT_ialX, zT_S1, zT_S2, zT_S3, zT_V0, zT_V1, zT_V2, zT_V3, zT_V4, zT_V5, zT_V6, zT_I0, zT_I1, zT_I2, zlg, zlset, zlpr, zent, zok, va_rf, List.length_cons, List.length_nil, List.replicate, List.cons_append, List.nil_append, List.append_nil, Option.toList_some, Option.toList_none, Option.toList, Nat.reduceAdd, Nat.reduceSub, Nat.reduceLeDiff, Nat.zero_add, Nat.zero_le, true_and, and_true, Nat.le_refl, ge_iff_le, Nat.reduceEqDiff]
      refine mnum_use 0 200 (by rw [h1.R]; exact r16) (h1.T hT) hP1 rfl rfl (by decide) (by decide) (fun M2 v hs2 hP2 hv => ?_)
      simp only [zT_push, zT_bin, zT_div, zT_bil, zT_shl, zT_un, zT_i2l, zT_l2i, zT_lcmp, zT_ild, zT_lld, zT_ald, zT_ist, zT_lst, zT_ast, zT_iinc, zT_dup, zT_dup2, zT_pop, zT_if1, zT_if2, zT_ifn, zT_getI, zT_getJ, zT_getR, zT_putI, zT_putZ, zT_putJ, zT_putR, zT_ald0, zT_lald, zT_aald, zT_iast, zT_zast, zT_bast, zT_last, zT_aast, zT_iret, zT_nret, zT_aret, zT_vret, zT_oi, zT_mm, zT_ialX, zT_S1, zT_S2, zT_S3, zT_V0, zT_V1, zT_V2, zT_V3, zT_V4, zT_V5, zT_V6, zT_I0, zT_I1, zT_I2, zlg, zlset, zlpr, zent, zok, va_rf, List.length_cons, List.length_nil, List.replicate, List.cons_append, List.nil_append, List.append_nil, Option.toList_some, Option.toList_none, Option.toList, Nat.reduceAdd, Nat.reduceSub, Nat.reduceLeDiff, Nat.zero_add, Nat.zero_le, true_and, and_true, Nat.le_refl, ge_iff_le, Nat.reduceEqDiff]
      refine S217 M2 _ v1 its v3 v4 v (h1.tr hs2) hP2 (fun f hf2 => ?_) (fun a' ha' => ?_)
      · rcases mnu_i hf2 with z | ⟨z, z2⟩
        · rcases mmu_i z with y | ⟨y, y2⟩
          · exact hf f y
          · obtain ⟨e1, y', c, x', o, c1, c2, -, -, -, -, -, -, -, e2, e3⟩ := hr f y
            refine Or.inr ⟨e1, e2.trans ?_⟩
            unfold wrB
            rw [if_neg (by omega), if_neg (e3.mp y2)]
        · obtain ⟨b, y, y2, rfl⟩ := mmu_r z
          obtain ⟨e1, y', c, x', o, c1, c2, -, -, -, -, -, -, -, e2, e3⟩ := hr b y
          refine Or.inr ⟨e1, e2.trans ?_⟩
          unfold wrB
          rw [if_neg (by omega), if_pos (Classical.not_not.mp (fun w => y2 (e3.mpr w))), if_neg z2]
      · obtain ⟨b1, z, z2, rfl⟩ := mnu_r ha'
        obtain ⟨b, y, y2, rfl⟩ := mmu_r z
        obtain ⟨e1, y', c, x', o, c1, c2, c3, c4, c5, c6, c7, c8, c9, e2, e3⟩ := hr b y
        refine ⟨e1, (c, y', x', o, wnv tp (wno tp b)), e2.trans ?_, ⟨c2, c3, c4, c5, wnm_le z2⟩, c6, c7, c8, c9, hv _ z z2⟩
        unfold wrB
        rw [if_neg (by omega), if_pos (Classical.not_not.mp (fun w => y2 (e3.mpr w))), if_pos z2]
    have S141 : ∀ (M' : zMm) (s : Nat ⊕ Nat) (x v1 its : Int32), mch M M' → mPs M' tp s → (∀ f, s = .inl f → (n = 20 ∧ f = a) ∨ (n < 20 ∧ wrA tp a = .inl f)) → (∀ a2, s = .inr a2 → n < 20 ∧ ∃ y, y ≤ 30 ∧ v1 = nI y ∧ wrA tp a = wrD tp y a2 ∧ (x = 0 ↔ wkd tp a2 = none) ∧ ∀ c, wkd tp a2 = some c → its = nI c ∧ c < 4) → zb_X8_readAct_141 K zJ0 M' [some (.ref 200), some (.int v1), some (.int its), none, none, none] [.int x, .ref 200] := by
      intro M' s x v1 its hs hP' hf hr
      simp only [zb_X8_readAct_141, zsh_200, zT_push, zT_bin, zT_div, zT_bil, zT_shl, zT_un, zT_i2l, zT_l2i, zT_lcmp, zT_ild, zT_lld, zT_ald, zT_ist, zT_lst, zT_ast, zT_iinc, zT_dup, zT_dup2, zT_pop, zT_if1, zT_if2, zT_ifn, zT_getI, zT_getJ, zT_getR, zT_putI, zT_putZ, zT_putJ, zT_putR, zT_ald0, zT_lald, zT_aald, zT_iast, zT_zast, zT_bast, zT_last, zT_aast, zT_iret, zT_nret, zT_aret, zT_vret, zT_oi, zT_mm, zT_ialX, zT_S1, zT_S2, zT_S3, zT_V0, zT_V1, zT_V2, zT_V3, zT_V4, zT_V5, zT_V6, zT_I0, zT_I1, zT_I2, zlg, zlset, zlpr, zent, zok, va_rf, List.length_cons, List.length_nil, List.replicate, List.cons_append, List.nil_append, List.append_nil, Option.toList_some, Option.toList_none, Option.toList, Nat.reduceAdd, Nat.reduceSub, Nat.reduceLeDiff, Nat.zero_add, Nat.zero_le, true_and, and_true, Nat.le_refl, ge_iff_le, Nat.reduceEqDiff]
      refine must_use (by rw [hs.R]; exact r16) (hs.T hT) hP' (fun M1 hs1 hP1 => ?_)
      have h1 := hs.tr hs1
      simp only [zsh_200, zT_push, zT_bin, zT_div, zT_bil, zT_shl, zT_un, zT_i2l, zT_l2i, zT_lcmp, zT_ild, zT_lld, zT_ald, zT_ist, zT_lst, zT_ast, zT_iinc, zT_dup, zT_dup2, zT_pop, zT_if1, zT_if2, zT_ifn, zT_getI, zT_getJ, zT_getR, zT_putI, zT_putZ, zT_putJ, zT_putR, zT_ald0, zT_lald, zT_aald, zT_iast, zT_zast, zT_bast, zT_last, zT_aast, zT_iret, zT_nret, zT_aret, zT_vret, zT_oi, zT_mm, zT_ialX, zT_S1, zT_S2, zT_S3, zT_V0, zT_V1, zT_V2, zT_V3, zT_V4, zT_V5, zT_V6, zT_I0, zT_I1, zT_I2, zlg, zlset, zlpr, zent, zok, va_rf, List.length_cons, List.length_nil, List.replicate, List.cons_append, List.nil_append, List.append_nil, Option.toList_some, Option.toList_none, Option.toList, Nat.reduceAdd, Nat.reduceSub, Nat.reduceLeDiff, Nat.zero_add, Nat.zero_le, true_and, and_true, Nat.le_refl, ge_iff_le, Nat.reduceEqDiff]
      refine mnum_use 0 11 (by rw [h1.R]; exact r16) (h1.T hT) hP1 rfl rfl (by decide) (by decide) (fun M2 v3 hs2 hP2 hv3 => ?_)
      have h2 := h1.tr hs2
      simp only [zsh_200, zT_push, zT_bin, zT_div, zT_bil, zT_shl, zT_un, zT_i2l, zT_l2i, zT_lcmp, zT_ild, zT_lld, zT_ald, zT_ist, zT_lst, zT_ast, zT_iinc, zT_dup, zT_dup2, zT_pop, zT_if1, zT_if2, zT_ifn, zT_getI, zT_getJ, zT_getR, zT_putI, zT_putZ, zT_putJ, zT_putR, zT_ald0, zT_lald, zT_aald, zT_iast, zT_zast, zT_bast, zT_last, zT_aast, zT_iret, zT_nret, zT_aret, zT_vret, zT_oi, zT_mm, zT_ialX, zT_S1, zT_S2, zT_S3, zT_V0, zT_V1, zT_V2, zT_V3, zT_V4, zT_V5, zT_V6, zT_I0, zT_I1, zT_I2, zlg, zlset, zlpr, zent, zok, va_rf, List.length_cons, List.length_nil, List.replicate, List.cons_append, List.nil_append, List.append_nil, Option.toList_some, Option.toList_none, Option.toList, Nat.reduceAdd, Nat.reduceSub, Nat.reduceLeDiff, Nat.zero_add, Nat.zero_le, true_and, and_true, Nat.le_refl, ge_iff_le, Nat.reduceEqDiff]
      refine mnum_use 0 9 (by rw [h2.R]; exact r16) (h2.T hT) hP2 rfl rfl (by decide) (by decide) (fun M3 v4 hs3 hP3 hv4 => ?_)
      have h3 := h2.tr hs3
      simp only [zsh_200, zT_push, zT_bin, zT_div, zT_bil, zT_shl, zT_un, zT_i2l, zT_l2i, zT_lcmp, zT_ild, zT_lld, zT_ald, zT_ist, zT_lst, zT_ast, zT_iinc, zT_dup, zT_dup2, zT_pop, zT_if1, zT_if2, zT_ifn, zT_getI, zT_getJ, zT_getR, zT_putI, zT_putZ, zT_putJ, zT_putR, zT_ald0, zT_lald, zT_aald, zT_iast, zT_zast, zT_bast, zT_last, zT_aast, zT_iret, zT_nret, zT_aret, zT_vret, zT_oi, zT_mm, zT_ialX, zT_S1, zT_S2, zT_S3, zT_V0, zT_V1, zT_V2, zT_V3, zT_V4, zT_V5, zT_V6, zT_I0, zT_I1, zT_I2, zlg, zlset, zlpr, zent, zok, va_rf, List.length_cons, List.length_nil, List.replicate, List.cons_append, List.nil_append, List.append_nil, Option.toList_some, Option.toList_none, Option.toList, Nat.reduceAdd, Nat.reduceSub, Nat.reduceLeDiff, Nat.zero_add, Nat.zero_le, true_and, and_true, Nat.le_refl, ge_iff_le, Nat.reduceEqDiff]
      -- the state behind the three tokens
      have hbad : ∀ f, mnu tp (mnu tp (mmu tp s x) 0 11) 0 9 = .inl f → (n = 20 ∧ f = a) ∨ (n < 20 ∧ wrA tp a = .inl f) := by
        intro f hf3
        rcases mnu_i hf3 with z | ⟨z, z2⟩
        · rcases mnu_i z with y | ⟨y, y2⟩
          · rcases mmu_i y with w | ⟨w, w2⟩
            · exact hf f w
            · obtain ⟨e1, y', -, -, e2, e3, -⟩ := hr f w
              refine Or.inr ⟨e1, e2.trans ?_⟩
              unfold wrD
              rw [e3.mp w2]
          · obtain ⟨b, w, w2, rfl⟩ := mmu_r y
            obtain ⟨e1, y', -, -, e2, e3, e4⟩ := hr b w
            cases hk : wkd tp b with
            | none => exact absurd (e3.mpr hk) w2
            | some c =>
              refine Or.inr ⟨e1, e2.trans ?_⟩
              unfold wrD
              rw [hk]
              show wrC tp y' c (wno tp b) = _
              unfold wrC
              rw [if_neg y2]
        · obtain ⟨b1, y, y2, rfl⟩ := mnu_r z
          obtain ⟨b, w, w2, rfl⟩ := mmu_r y
          obtain ⟨e1, y', -, -, e2, e3, e4⟩ := hr b w
          cases hk : wkd tp b with
          | none => exact absurd (e3.mpr hk) w2
          | some c =>
            refine Or.inr ⟨e1, e2.trans ?_⟩
            unfold wrD
            rw [hk]
            show wrC tp y' c (wno tp b) = _
            unfold wrC
            rw [if_pos y2, if_neg z2]
      have hgood : ∀ a4, mnu tp (mnu tp (mmu tp s x) 0 11) 0 9 = .inr a4 → n < 20 ∧ ∃ y c x' o, c < 4 ∧ y ≤ 30 ∧ x' < 12 ∧ o < 10 ∧ its = nI c ∧ v1 = nI y ∧ v3 = nI x' ∧ v4 = nI o ∧ wrA tp a = wrB tp y c x' o a4 := by
        intro a4 ha4
        obtain ⟨b2, z, z2, rfl⟩ := mnu_r ha4
        obtain ⟨b1, y, y2, rfl⟩ := mnu_r z
        obtain ⟨b, w, w2, rfl⟩ := mmu_r y
        obtain ⟨e1, y', f1, f2, e2, e3, e4⟩ := hr b w
        cases hk : wkd tp b with
        | none => exact absurd (e3.mpr hk) w2
        | some c =>
          obtain ⟨e5, e6⟩ := e4 c hk
          have l1 := wnm_le y2
          have l2 := wnm_le z2
          refine ⟨e1, y', c, wnv tp (wno tp b), wnv tp (wno tp (wno tp b)), e6, f1, by omega, by omega, e5, f2, hv3 _ y y2, hv4 _ z z2, e2.trans ?_⟩
          unfold wrD
          rw [hk]
          show wrC tp y' c (wno tp b) = _
          unfold wrC
          rw [if_pos y2, if_pos z2]
      refine ⟨fun h4 => S217 M3 _ v1 its v3 v4 0 h3 hP3 hbad (fun a' ha' => ?_), fun h4 => ⟨fun h5 => ⟨rfl, S204 M3 _ _ v1 its v3 v4 h3 hP3 hbad (fun a4 ha4 => ?_)⟩, fun h5 => ⟨rfl, S204 M3 _ _ v1 its v3 v4 h3 hP3 hbad (fun a4 ha4 => ?_)⟩⟩⟩
      · obtain ⟨e1, y, c, x', o, c1, c2, c3, c4, c5, c6, c7, c8, e2⟩ := hgood a' ha'
        rw [c5] at h4
        have hc : c < 2 := (nI_ltI (b := 2) (by omega) (by decide)).mp h4
        refine ⟨e1, (c, y, x', o, 0), e2.trans ?_, ⟨c1, c2, c3, c4, Nat.zero_le _⟩, c5, c6, c7, c8, rfl⟩
        unfold wrB
        rw [if_pos hc]
      · obtain ⟨e1, y, c, x', o, c1, c2, c3, c4, c5, c6, c7, c8, e2⟩ := hgood a4 ha4
        rw [c5] at h5
        have hc : c = 2 := (nI_eq (b := 2) (by omega) (by decide)).mp h5
        refine ⟨e1, y, c, x', o, by omega, c1, c2, c3, c4, c5, c6, c7, c8, e2, ?_⟩
        rw [ha4] at hP3
        rw [if_pos hc, ← word_use hP3 (i := 5) (by decide) mV_5]
        exact zbI_0
      · obtain ⟨e1, y, c, x', o, c1, c2, c3, c4, c5, c6, c7, c8, e2⟩ := hgood a4 ha4
        rw [c5] at h4 h5
        have hc : ¬ c < 2 := fun z => h4 ((nI_ltI (b := 2) (by omega) (by decide)).mpr z)
        have hc2 : ¬ c = 2 := fun z => h5 (by rw [z]; rfl)
        refine ⟨e1, y, c, x', o, by omega, c1, c2, c3, c4, c5, c6, c7, c8, e2, ?_⟩
        rw [ha4] at hP3
        rw [if_neg hc2, ← word_use hP3 (i := 6) (by decide) mV_6]
        exact zbI_0
    have S130 : ∀ (M' : zMm) (s : Nat ⊕ Nat) (v1 its : Int32), mch M M' → mPs M' tp s → (∀ f, s = .inl f → (n = 20 ∧ f = a) ∨ (n < 20 ∧ wrA tp a = .inl f)) → (∀ a2, s = .inr a2 → n < 20 ∧ ∃ y, y ≤ 30 ∧ v1 = nI y ∧ wrA tp a = wrD tp y a2 ∧ (wkd tp a2 = none → its = -1) ∧ ∀ c, wkd tp a2 = some c → its = nI c ∧ c < 4) → zb_X8_readAct_130 K zJ0 M' [some (.ref 200), some (.int v1), none, none, none, none] [.int its] := by
      intro M' s v1 its hs hP' hf hr
      simp only [zb_X8_readAct_130, zT_push, zT_bin, zT_div, zT_bil, zT_shl, zT_un, zT_i2l, zT_l2i, zT_lcmp, zT_ild, zT_lld, zT_ald, zT_ist, zT_lst, zT_ast, zT_iinc, zT_dup, zT_dup2, zT_pop, zT_if1, zT_if2, zT_ifn, zT_getI, zT_getJ, zT_getR, zT_putI, zT_putZ, zT_putJ, zT_putR, zT_ald0, zT_lald, zT_aald, zT_iast, zT_zast, zT_bast, zT_last, zT_aast, zT_iret, zT_nret, zT_aret, zT_vret, zT_oi, zT_mm, zT_ialX, zT_S1, zT_S2, zT_S3, zT_V0, zT_V1, zT_V2, zT_V3, zT_V4, zT_V5, zT_V6, zT_I0, zT_I1, zT_I2, zlg, zlset, zlpr, zent, zok, va_rf, List.length_cons, List.length_nil, List.replicate, List.cons_append, List.nil_append, List.append_nil, Option.toList_some, Option.toList_none, Option.toList, Nat.reduceAdd, Nat.reduceSub, Nat.reduceLeDiff, Nat.zero_add, Nat.zero_le, true_and, and_true, Nat.le_refl, ge_iff_le, Nat.reduceEqDiff]
      refine ⟨fun h1 => S141 M' s 0 v1 its hs hP' hf (fun a2 ha2 => ?_), fun h1 => S141 M' s 1 v1 its hs hP' hf (fun a2 ha2 => ?_)⟩
      · obtain ⟨e1, y, y1, y2, y3, y4, y5⟩ := hr a2 ha2
        refine ⟨e1, y, y1, y2, y3, ⟨fun _ => ?_, fun _ => rfl⟩, y5⟩
        cases hk : wkd tp a2 with
        | none => rfl
        | some c =>
          obtain ⟨z1, z2⟩ := y5 c hk
          rw [z1] at h1
          exact absurd h1 (Int32.not_lt.mpr ((nI_leI (a := 0) (by decide) (by omega)).mpr (Nat.zero_le _)))
      · obtain ⟨e1, y, y1, y2, y3, y4, y5⟩ := hr a2 ha2
        refine ⟨e1, y, y1, y2, y3, ⟨fun z => absurd z (by decide), fun z => ?_⟩, y5⟩
        rw [y4 z] at h1
        exact absurd (by decide) h1
    have S32 : ∀ (x : Int32), (x = 0 ↔ ¬ (n < 20 ∧ wis tp a 0 = true)) → zb_X8_readAct_32 K zJ0 M [some (.ref 200), none, none, none, none, none] [.int x, .ref 200] := by
      intro x hx
      simp only [zb_X8_readAct_32, zsh_200, zT_push, zT_bin, zT_div, zT_bil, zT_shl, zT_un, zT_i2l, zT_l2i, zT_lcmp, zT_ild, zT_lld, zT_ald, zT_ist, zT_lst, zT_ast, zT_iinc, zT_dup, zT_dup2, zT_pop, zT_if1, zT_if2, zT_ifn, zT_getI, zT_getJ, zT_getR, zT_putI, zT_putZ, zT_putJ, zT_putR, zT_ald0, zT_lald, zT_aald, zT_iast, zT_zast, zT_bast, zT_last, zT_aast, zT_iret, zT_nret, zT_aret, zT_vret, zT_oi, zT_mm, zT_ialX, zT_S1, zT_S2, zT_S3, zT_V0, zT_V1, zT_V2, zT_V3, zT_V4, zT_V5, zT_V6, zT_I0, zT_I1, zT_I2, zlg, zlset, zlpr, zent, zok, va_rf, List.length_cons, List.length_nil, List.replicate, List.cons_append, List.nil_append, List.append_nil, Option.toList_some, Option.toList_none, Option.toList, Nat.reduceAdd, Nat.reduceSub, Nat.reduceLeDiff, Nat.zero_add, Nat.zero_le, true_and, and_true, Nat.le_refl, ge_iff_le, Nat.reduceEqDiff]
      refine must_use r16 hT hP (fun M1 h1 hP1 => ?_)
      simp only [zsh_200, zT_push, zT_bin, zT_div, zT_bil, zT_shl, zT_un, zT_i2l, zT_l2i, zT_lcmp, zT_ild, zT_lld, zT_ald, zT_ist, zT_lst, zT_ast, zT_iinc, zT_dup, zT_dup2, zT_pop, zT_if1, zT_if2, zT_ifn, zT_getI, zT_getJ, zT_getR, zT_putI, zT_putZ, zT_putJ, zT_putR, zT_ald0, zT_lald, zT_aald, zT_iast, zT_zast, zT_bast, zT_last, zT_aast, zT_iret, zT_nret, zT_aret, zT_vret, zT_oi, zT_mm, zT_ialX, zT_S1, zT_S2, zT_S3, zT_V0, zT_V1, zT_V2, zT_V3, zT_V4, zT_V5, zT_V6, zT_I0, zT_I1, zT_I2, zlg, zlset, zlpr, zent, zok, va_rf, List.length_cons, List.length_nil, List.replicate, List.cons_append, List.nil_append, List.append_nil, Option.toList_some, Option.toList_none, Option.toList, Nat.reduceAdd, Nat.reduceSub, Nat.reduceLeDiff, Nat.zero_add, Nat.zero_le, true_and, and_true, Nat.le_refl, ge_iff_le, Nat.reduceEqDiff]
      refine mnum_use 1 30 (by rw [h1.R]; exact r16) (h1.T hT) hP1 rfl rfl (by decide) (by decide) (fun M2 v1 hs2 hP2 hv1 => ?_)
      have h2 := h1.tr hs2
      have hbad : ∀ f, mnu tp (mmu tp (.inr a) x) 1 30 = .inl f → (n = 20 ∧ f = a) ∨ (n < 20 ∧ wrA tp a = .inl f) := by
        intro f hf3
        rcases mnu_i hf3 with z | ⟨z, z2⟩
        · rcases mmu_i z with y | ⟨y, y2⟩
          · cases y
          · cases y
            by_cases q : n < 20
            · refine Or.inr ⟨q, ?_⟩
              unfold wrA
              rw [if_neg (fun w => hx.mp y2 ⟨q, w⟩)]
            · exact Or.inl ⟨by omega, rfl⟩
        · obtain ⟨b, y, y2, rfl⟩ := mmu_r z
          cases y
          have q := Classical.not_not.mp (fun w => y2 (hx.mpr w))
          refine Or.inr ⟨q.1, ?_⟩
          unfold wrA
          rw [if_pos q.2, if_neg z2]
      have hgood : ∀ a2, mnu tp (mmu tp (.inr a) x) 1 30 = .inr a2 → n < 20 ∧ ∃ y, y ≤ 30 ∧ v1 = nI y ∧ wrA tp a = wrD tp y a2 := by
        intro a2 ha2
        obtain ⟨b1, z, z2, rfl⟩ := mnu_r ha2
        obtain ⟨b, y, y2, rfl⟩ := mmu_r z
        cases y
        have q := Classical.not_not.mp (fun w => y2 (hx.mpr w))
        refine ⟨q.1, wnv tp (wno tp a), wnm_le z2, hv1 _ z z2, ?_⟩
        unfold wrA
        rw [if_pos q.2, if_pos z2]
      have kk : ∀ its : Int32, (∀ a2, mnu tp (mmu tp (.inr a) x) 1 30 = .inr a2 → mPs M2 tp (.inr a2) → (wkd tp a2 = none → its = -1) ∧ ∀ c, wkd tp a2 = some c → its = nI c ∧ c < 4) → zb_X8_readAct_130 K zJ0 M2 [some (.ref 200), some (.int v1), none, none, none, none] [.int its] := by
        intro its hi
        refine S130 M2 _ v1 its h2 hP2 hbad (fun a2 ha2 => ?_)
        obtain ⟨e1, y, y1, y2, y3⟩ := hgood a2 ha2
        have := hi a2 ha2 (by rw [ha2] at hP2; exact hP2)
        exact ⟨e1, y, y1, y2, y3, this.1, this.2⟩
      unfold zc_X8_isWord
      simp only [zbI_0, zsh_200, zT_push, zT_bin, zT_div, zT_bil, zT_shl, zT_un, zT_i2l, zT_l2i, zT_lcmp, zT_ild, zT_lld, zT_ald, zT_ist, zT_lst, zT_ast, zT_iinc, zT_dup, zT_dup2, zT_pop, zT_if1, zT_if2, zT_ifn, zT_getI, zT_getJ, zT_getR, zT_putI, zT_putZ, zT_putJ, zT_putR, zT_ald0, zT_lald, zT_aald, zT_iast, zT_zast, zT_bast, zT_last, zT_aast, zT_iret, zT_nret, zT_aret, zT_vret, zT_oi, zT_mm, zT_ialX, zT_S1, zT_S2, zT_S3, zT_V0, zT_V1, zT_V2, zT_V3, zT_V4, zT_V5, zT_V6, zT_I0, zT_I1, zT_I2, zlg, zlset, zlpr, zent, zok, va_rf, List.length_cons, List.length_nil, List.replicate, List.cons_append, List.nil_append, List.append_nil, Option.toList_some, Option.toList_none, Option.toList, Nat.reduceAdd, Nat.reduceSub, Nat.reduceLeDiff, Nat.zero_add, Nat.zero_le, true_and, and_true, Nat.le_refl, ge_iff_le, Nat.reduceEqDiff]
      refine ⟨fun g1 => ⟨fun g2 => ⟨fun g3 => ⟨fun g4 => kk _ (fun a2 ha2 hP' => ?_), fun g4 => kk _ (fun a2 ha2 hP' => ?_)⟩, fun g3 => kk _ (fun a2 ha2 hP' => ?_)⟩, fun g2 => kk _ (fun a2 ha2 hP' => ?_)⟩, fun g1 => kk _ (fun a2 ha2 hP' => ?_)⟩
      all_goals unfold wkd
      · rw [word_use hP' (i := 1) (by decide) mV_1] at g1
        rw [word_use hP' (i := 2) (by decide) mV_2] at g2
        rw [word_use hP' (i := 3) (by decide) mV_3] at g3
        rw [word_use hP' (i := 4) (by decide) mV_4] at g4
        rw [if_neg g1, if_neg g2, if_neg g3, if_neg g4]
        exact ⟨fun _ => rfl, fun c hc => (by cases hc)⟩
      · rw [word_use hP' (i := 1) (by decide) mV_1] at g1
        rw [word_use hP' (i := 2) (by decide) mV_2] at g2
        rw [word_use hP' (i := 3) (by decide) mV_3] at g3
        rw [word_use hP' (i := 4) (by decide) mV_4] at g4
        rw [if_neg g1, if_neg g2, if_neg g3, if_pos (Classical.not_not.mp g4)]
        exact ⟨fun hc => (by cases hc), fun c hc => (by cases hc; exact ⟨rfl, by decide⟩)⟩
      · rw [word_use hP' (i := 1) (by decide) mV_1] at g1
        rw [word_use hP' (i := 2) (by decide) mV_2] at g2
        rw [word_use hP' (i := 3) (by decide) mV_3] at g3
        rw [if_neg g1, if_neg g2, if_pos (Classical.not_not.mp g3)]
        exact ⟨fun hc => (by cases hc), fun c hc => (by cases hc; exact ⟨rfl, by decide⟩)⟩
      · rw [word_use hP' (i := 1) (by decide) mV_1] at g1
        rw [word_use hP' (i := 2) (by decide) mV_2] at g2
        rw [if_neg g1, if_pos (Classical.not_not.mp g2)]
        exact ⟨fun hc => (by cases hc), fun c hc => (by cases hc; exact ⟨rfl, by decide⟩)⟩
      · rw [word_use hP' (i := 1) (by decide) mV_1] at g1
        rw [if_pos (Classical.not_not.mp g1)]
        exact ⟨fun hc => (by cases hc), fun c hc => (by cases hc; exact ⟨rfl, by decide⟩)⟩
    simp only [zb_X8_readAct_0, zb_X8_readAct_31, zsh_200, zT_push, zT_bin, zT_div, zT_bil, zT_shl, zT_un, zT_i2l, zT_l2i, zT_lcmp, zT_ild, zT_lld, zT_ald, zT_ist, zT_lst, zT_ast, zT_iinc, zT_dup, zT_dup2, zT_pop, zT_if1, zT_if2, zT_ifn, zT_getI, zT_getJ, zT_getR, zT_putI, zT_putZ, zT_putJ, zT_putR, zT_ald0, zT_lald, zT_aald, zT_iast, zT_zast, zT_bast, zT_last, zT_aast, zT_iret, zT_nret, zT_aret, zT_vret, zT_oi, zT_mm, zT_ialX, zT_S1, zT_S2, zT_S3, zT_V0, zT_V1, zT_V2, zT_V3, zT_V4, zT_V5, zT_V6, zT_I0, zT_I1, zT_I2, zlg, zlset, zlpr, zent, zok, va_rf, List.length_cons, List.length_nil, List.replicate, List.cons_append, List.nil_append, List.append_nil, Option.toList_some, Option.toList_none, Option.toList, Nat.reduceAdd, Nat.reduceSub, Nat.reduceLeDiff, Nat.zero_add, Nat.zero_le, true_and, and_true, Nat.le_refl, ge_iff_le, Nat.reduceEqDiff]
    unfold zc_X8_isWord
    simp only [zbI_0, zsh_200, h14, zT_push, zT_bin, zT_div, zT_bil, zT_shl, zT_un, zT_i2l, zT_l2i, zT_lcmp, zT_ild, zT_lld, zT_ald, zT_ist, zT_lst, zT_ast, zT_iinc, zT_dup, zT_dup2, zT_pop, zT_if1, zT_if2, zT_ifn, zT_getI, zT_getJ, zT_getR, zT_putI, zT_putZ, zT_putJ, zT_putR, zT_ald0, zT_lald, zT_aald, zT_iast, zT_zast, zT_bast, zT_last, zT_aast, zT_iret, zT_nret, zT_aret, zT_vret, zT_oi, zT_mm, zT_ialX, zT_S1, zT_S2, zT_S3, zT_V0, zT_V1, zT_V2, zT_V3, zT_V4, zT_V5, zT_V6, zT_I0, zT_I1, zT_I2, zlg, zlset, zlpr, zent, zok, va_rf, List.length_cons, List.length_nil, List.replicate, List.cons_append, List.nil_append, List.append_nil, Option.toList_some, Option.toList_none, Option.toList, Nat.reduceAdd, Nat.reduceSub, Nat.reduceLeDiff, Nat.zero_add, Nat.zero_le, true_and, and_true, Nat.le_refl, ge_iff_le, Nat.reduceEqDiff]
    rw [word_use hP (i := 0) (by decide) mV_0]
    refine ⟨fun g1 => S32 0 ⟨fun _ z => g1 z.2, fun _ => rfl⟩, fun g1 => ⟨fun g2 => S32 0 ⟨fun _ z => ?_, fun _ => rfl⟩, fun g2 => S32 1 ⟨fun z => absurd z (by decide), fun z => absurd ⟨?_, Classical.not_not.mp g1⟩ z⟩⟩⟩
    · have : 20 ≤ n := zn_ge' (b := 20) g2 (by omega) (by omega)
      omega
    · exact zn_ge (b := 20) g2 (by omega) (by omega)
  · exact h.elim
