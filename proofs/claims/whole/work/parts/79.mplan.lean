/-! DeltaRunsModel plan -/
theorem zd_X8_plan_0 : decode cX8_plan 0 = .ok (.aload_n 0, 1) := by decide +kernel
theorem zd_X8_plan_1 : decode cX8_plan 1 = .ok (.iconst 0, 1) := by decide +kernel
theorem zd_X8_plan_2 : decode cX8_plan 2 = .ok (.putfield 93, 3) := by decide +kernel
theorem zd_X8_plan_5 : decode cX8_plan 5 = .ok (.aload_n 0, 1) := by decide +kernel
theorem zd_X8_plan_6 : decode cX8_plan 6 = .ok (.iconst 0, 1) := by decide +kernel
theorem zd_X8_plan_7 : decode cX8_plan 7 = .ok (.putfield 134, 3) := by decide +kernel
theorem zd_X8_plan_10 : decode cX8_plan 10 = .ok (.aload_n 0, 1) := by decide +kernel
theorem zd_X8_plan_11 : decode cX8_plan 11 = .ok (.iconst 0, 1) := by decide +kernel
theorem zd_X8_plan_12 : decode cX8_plan 12 = .ok (.putfield 162, 3) := by decide +kernel
theorem zd_X8_plan_15 : decode cX8_plan 15 = .ok (.aload_n 0, 1) := by decide +kernel
theorem zd_X8_plan_16 : decode cX8_plan 16 = .ok (.iconst (-1), 1) := by decide +kernel
theorem zd_X8_plan_17 : decode cX8_plan 17 = .ok (.putfield 47, 3) := by decide +kernel
theorem zd_X8_plan_20 : decode cX8_plan 20 = .ok (.aload_n 0, 1) := by decide +kernel
theorem zd_X8_plan_21 : decode cX8_plan 21 = .ok (.iconst 0, 1) := by decide +kernel
theorem zd_X8_plan_22 : decode cX8_plan 22 = .ok (.putfield 177, 3) := by decide +kernel
theorem zd_X8_plan_25 : decode cX8_plan 25 = .ok (.aload_n 0, 1) := by decide +kernel
theorem zd_X8_plan_26 : decode cX8_plan 26 = .ok (.invokevirtual 166, 3) := by decide +kernel
theorem zd_X8_plan_29 : decode cX8_plan 29 = .ok (.aload_n 0, 1) := by decide +kernel
theorem zd_X8_plan_30 : decode cX8_plan 30 = .ok (.getfield 151, 3) := by decide +kernel
theorem zd_X8_plan_33 : decode cX8_plan 33 = .ok (.ifCond .eq 63, 3) := by decide +kernel
theorem zd_X8_plan_36 : decode cX8_plan 36 = .ok (.aload_n 0, 1) := by decide +kernel
theorem zd_X8_plan_37 : decode cX8_plan 37 = .ok (.invokevirtual 190, 3) := by decide +kernel
theorem zd_X8_plan_40 : decode cX8_plan 40 = .ok (.aload_n 0, 1) := by decide +kernel
theorem zd_X8_plan_41 : decode cX8_plan 41 = .ok (.getfield 162, 3) := by decide +kernel
theorem zd_X8_plan_44 : decode cX8_plan 44 = .ok (.ifCond .ne 33, 3) := by decide +kernel
theorem zd_X8_plan_47 : decode cX8_plan 47 = .ok (.aload_n 0, 1) := by decide +kernel
theorem zd_X8_plan_48 : decode cX8_plan 48 = .ok (.getfield 151, 3) := by decide +kernel
theorem zd_X8_plan_51 : decode cX8_plan 51 = .ok (.iconst 3, 1) := by decide +kernel
theorem zd_X8_plan_52 : decode cX8_plan 52 = .ok (.if_icmp .ne 25, 3) := by decide +kernel
theorem zd_X8_plan_55 : decode cX8_plan 55 = .ok (.aload_n 0, 1) := by decide +kernel
theorem zd_X8_plan_56 : decode cX8_plan 56 = .ok (.getfield 140, 3) := by decide +kernel
theorem zd_X8_plan_59 : decode cX8_plan 59 = .ok (.ldc2_w 193, 3) := by decide +kernel
theorem zd_X8_plan_62 : decode cX8_plan 62 = .ok (.lcmp, 1) := by decide +kernel
theorem zd_X8_plan_63 : decode cX8_plan 63 = .ok (.ifCond .ne 14, 3) := by decide +kernel
theorem zd_X8_plan_66 : decode cX8_plan 66 = .ok (.aload_n 0, 1) := by decide +kernel
theorem zd_X8_plan_67 : decode cX8_plan 67 = .ok (.invokevirtual 166, 3) := by decide +kernel
theorem zd_X8_plan_70 : decode cX8_plan 70 = .ok (.aload_n 0, 1) := by decide +kernel
theorem zd_X8_plan_71 : decode cX8_plan 71 = .ok (.invokevirtual 190, 3) := by decide +kernel
theorem zd_X8_plan_74 : decode cX8_plan 74 = .ok (.goto (-34), 3) := by decide +kernel
theorem zd_X8_plan_77 : decode cX8_plan 77 = .ok (.aload_n 0, 1) := by decide +kernel
theorem zd_X8_plan_78 : decode cX8_plan 78 = .ok (.getfield 162, 3) := by decide +kernel
theorem zd_X8_plan_81 : decode cX8_plan 81 = .ok (.ifCond .ne 15, 3) := by decide +kernel
theorem zd_X8_plan_84 : decode cX8_plan 84 = .ok (.aload_n 0, 1) := by decide +kernel
theorem zd_X8_plan_85 : decode cX8_plan 85 = .ok (.getfield 151, 3) := by decide +kernel
theorem zd_X8_plan_88 : decode cX8_plan 88 = .ok (.ifCond .eq 8, 3) := by decide +kernel
theorem zd_X8_plan_91 : decode cX8_plan 91 = .ok (.aload_n 0, 1) := by decide +kernel
theorem zd_X8_plan_92 : decode cX8_plan 92 = .ok (.iconst 0, 1) := by decide +kernel
theorem zd_X8_plan_93 : decode cX8_plan 93 = .ok (.invokevirtual 169, 3) := by decide +kernel
theorem zd_X8_plan_96 : decode cX8_plan 96 = .ok (.aload_n 0, 1) := by decide +kernel
theorem zd_X8_plan_97 : decode cX8_plan 97 = .ok (.iconst 0, 1) := by decide +kernel
theorem zd_X8_plan_98 : decode cX8_plan 98 = .ok (.putfield 127, 3) := by decide +kernel
theorem zd_X8_plan_101 : decode cX8_plan 101 = .ok (.aload_n 0, 1) := by decide +kernel
theorem zd_X8_plan_102 : decode cX8_plan 102 = .ok (.getfield 162, 3) := by decide +kernel
theorem zd_X8_plan_105 : decode cX8_plan 105 = .ok (.ifCond .eq 10, 3) := by decide +kernel
theorem zd_X8_plan_108 : decode cX8_plan 108 = .ok (.aload_n 0, 1) := by decide +kernel
theorem zd_X8_plan_109 : decode cX8_plan 109 = .ok (.bipush (-6), 2) := by decide +kernel
theorem zd_X8_plan_111 : decode cX8_plan 111 = .ok (.invokevirtual 115, 3) := by decide +kernel
theorem zd_X8_plan_114 : decode cX8_plan 114 = .ok (.ireturn, 1) := by decide +kernel
theorem zd_X8_plan_115 : decode cX8_plan 115 = .ok (.aload_n 0, 1) := by decide +kernel
theorem zd_X8_plan_116 : decode cX8_plan 116 = .ok (.aload_n 0, 1) := by decide +kernel
theorem zd_X8_plan_117 : decode cX8_plan 117 = .ok (.getfield 177, 3) := by decide +kernel
theorem zd_X8_plan_120 : decode cX8_plan 120 = .ok (.putfield 195, 3) := by decide +kernel
theorem zd_X8_plan_123 : decode cX8_plan 123 = .ok (.iconst 0, 1) := by decide +kernel
theorem zd_X8_plan_124 : decode cX8_plan 124 = .ok (.istore_n 1, 1) := by decide +kernel
theorem zd_X8_plan_125 : decode cX8_plan 125 = .ok (.iload_n 1, 1) := by decide +kernel
theorem zd_X8_plan_126 : decode cX8_plan 126 = .ok (.aload_n 0, 1) := by decide +kernel
theorem zd_X8_plan_127 : decode cX8_plan 127 = .ok (.getfield 195, 3) := by decide +kernel
theorem zd_X8_plan_130 : decode cX8_plan 130 = .ok (.if_icmp .ge 87, 3) := by decide +kernel
theorem zd_X8_plan_133 : decode cX8_plan 133 = .ok (.aload_n 0, 1) := by decide +kernel
theorem zd_X8_plan_134 : decode cX8_plan 134 = .ok (.getfield 26, 3) := by decide +kernel
theorem zd_X8_plan_137 : decode cX8_plan 137 = .ok (.iload_n 1, 1) := by decide +kernel
theorem zd_X8_plan_138 : decode cX8_plan 138 = .ok (.aload_n 0, 1) := by decide +kernel
theorem zd_X8_plan_139 : decode cX8_plan 139 = .ok (.getfield 41, 3) := by decide +kernel
theorem zd_X8_plan_142 : decode cX8_plan 142 = .ok (.iconst 5, 1) := by decide +kernel
theorem zd_X8_plan_143 : decode cX8_plan 143 = .ok (.iload_n 1, 1) := by decide +kernel
theorem zd_X8_plan_144 : decode cX8_plan 144 = .ok (.imul, 1) := by decide +kernel
theorem zd_X8_plan_145 : decode cX8_plan 145 = .ok (.iaload, 1) := by decide +kernel
theorem zd_X8_plan_146 : decode cX8_plan 146 = .ok (.iastore, 1) := by decide +kernel
theorem zd_X8_plan_147 : decode cX8_plan 147 = .ok (.aload_n 0, 1) := by decide +kernel
theorem zd_X8_plan_148 : decode cX8_plan 148 = .ok (.getfield 29, 3) := by decide +kernel
theorem zd_X8_plan_151 : decode cX8_plan 151 = .ok (.iload_n 1, 1) := by decide +kernel
theorem zd_X8_plan_152 : decode cX8_plan 152 = .ok (.aload_n 0, 1) := by decide +kernel
theorem zd_X8_plan_153 : decode cX8_plan 153 = .ok (.getfield 41, 3) := by decide +kernel
theorem zd_X8_plan_156 : decode cX8_plan 156 = .ok (.iconst 5, 1) := by decide +kernel
theorem zd_X8_plan_157 : decode cX8_plan 157 = .ok (.iload_n 1, 1) := by decide +kernel
theorem zd_X8_plan_158 : decode cX8_plan 158 = .ok (.imul, 1) := by decide +kernel
theorem zd_X8_plan_159 : decode cX8_plan 159 = .ok (.iconst 1, 1) := by decide +kernel
theorem zd_X8_plan_160 : decode cX8_plan 160 = .ok (.iadd, 1) := by decide +kernel
theorem zd_X8_plan_161 : decode cX8_plan 161 = .ok (.iaload, 1) := by decide +kernel
theorem zd_X8_plan_162 : decode cX8_plan 162 = .ok (.iastore, 1) := by decide +kernel
theorem zd_X8_plan_163 : decode cX8_plan 163 = .ok (.aload_n 0, 1) := by decide +kernel
theorem zd_X8_plan_164 : decode cX8_plan 164 = .ok (.getfield 32, 3) := by decide +kernel
theorem zd_X8_plan_167 : decode cX8_plan 167 = .ok (.iload_n 1, 1) := by decide +kernel
theorem zd_X8_plan_168 : decode cX8_plan 168 = .ok (.aload_n 0, 1) := by decide +kernel
theorem zd_X8_plan_169 : decode cX8_plan 169 = .ok (.getfield 41, 3) := by decide +kernel
theorem zd_X8_plan_172 : decode cX8_plan 172 = .ok (.iconst 5, 1) := by decide +kernel
theorem zd_X8_plan_173 : decode cX8_plan 173 = .ok (.iload_n 1, 1) := by decide +kernel
theorem zd_X8_plan_174 : decode cX8_plan 174 = .ok (.imul, 1) := by decide +kernel
theorem zd_X8_plan_175 : decode cX8_plan 175 = .ok (.iconst 2, 1) := by decide +kernel
theorem zd_X8_plan_176 : decode cX8_plan 176 = .ok (.iadd, 1) := by decide +kernel
theorem zd_X8_plan_177 : decode cX8_plan 177 = .ok (.iaload, 1) := by decide +kernel
theorem zd_X8_plan_178 : decode cX8_plan 178 = .ok (.iastore, 1) := by decide +kernel
theorem zd_X8_plan_179 : decode cX8_plan 179 = .ok (.aload_n 0, 1) := by decide +kernel
theorem zd_X8_plan_180 : decode cX8_plan 180 = .ok (.getfield 35, 3) := by decide +kernel
theorem zd_X8_plan_183 : decode cX8_plan 183 = .ok (.iload_n 1, 1) := by decide +kernel
theorem zd_X8_plan_184 : decode cX8_plan 184 = .ok (.aload_n 0, 1) := by decide +kernel
theorem zd_X8_plan_185 : decode cX8_plan 185 = .ok (.getfield 41, 3) := by decide +kernel
theorem zd_X8_plan_188 : decode cX8_plan 188 = .ok (.iconst 5, 1) := by decide +kernel
theorem zd_X8_plan_189 : decode cX8_plan 189 = .ok (.iload_n 1, 1) := by decide +kernel
theorem zd_X8_plan_190 : decode cX8_plan 190 = .ok (.imul, 1) := by decide +kernel
theorem zd_X8_plan_191 : decode cX8_plan 191 = .ok (.iconst 3, 1) := by decide +kernel
theorem zd_X8_plan_192 : decode cX8_plan 192 = .ok (.iadd, 1) := by decide +kernel
theorem zd_X8_plan_193 : decode cX8_plan 193 = .ok (.iaload, 1) := by decide +kernel
theorem zd_X8_plan_194 : decode cX8_plan 194 = .ok (.iastore, 1) := by decide +kernel
theorem zd_X8_plan_195 : decode cX8_plan 195 = .ok (.aload_n 0, 1) := by decide +kernel
theorem zd_X8_plan_196 : decode cX8_plan 196 = .ok (.getfield 38, 3) := by decide +kernel
theorem zd_X8_plan_199 : decode cX8_plan 199 = .ok (.iload_n 1, 1) := by decide +kernel
theorem zd_X8_plan_200 : decode cX8_plan 200 = .ok (.aload_n 0, 1) := by decide +kernel
theorem zd_X8_plan_201 : decode cX8_plan 201 = .ok (.getfield 41, 3) := by decide +kernel
theorem zd_X8_plan_204 : decode cX8_plan 204 = .ok (.iconst 5, 1) := by decide +kernel
theorem zd_X8_plan_205 : decode cX8_plan 205 = .ok (.iload_n 1, 1) := by decide +kernel
theorem zd_X8_plan_206 : decode cX8_plan 206 = .ok (.imul, 1) := by decide +kernel
theorem zd_X8_plan_207 : decode cX8_plan 207 = .ok (.iconst 4, 1) := by decide +kernel
theorem zd_X8_plan_208 : decode cX8_plan 208 = .ok (.iadd, 1) := by decide +kernel
theorem zd_X8_plan_209 : decode cX8_plan 209 = .ok (.iaload, 1) := by decide +kernel
theorem zd_X8_plan_210 : decode cX8_plan 210 = .ok (.iastore, 1) := by decide +kernel
theorem zd_X8_plan_211 : decode cX8_plan 211 = .ok (.iinc 1 1, 3) := by decide +kernel
theorem zd_X8_plan_214 : decode cX8_plan 214 = .ok (.goto (-89), 3) := by decide +kernel
theorem zd_X8_plan_217 : decode cX8_plan 217 = .ok (.aload_n 0, 1) := by decide +kernel
theorem zd_X8_plan_218 : decode cX8_plan 218 = .ok (.aload_n 0, 1) := by decide +kernel
theorem zd_X8_plan_219 : decode cX8_plan 219 = .ok (.getfield 195, 3) := by decide +kernel
theorem zd_X8_plan_222 : decode cX8_plan 222 = .ok (.invokevirtual 115, 3) := by decide +kernel
theorem zd_X8_plan_225 : decode cX8_plan 225 = .ok (.ireturn, 1) := by decide +kernel
def zb_X8_plan_96 (K : zKt) (J : Nat → zPP) : zPP := zT_ald 0 (zT_push (.int 0) (zT_putI 8 17 38 (zT_ald 0 (zT_getI 8 23 38 (zT_if1 (fun x => x = 0) (zT_ald 0 (zT_ald 0 (zT_getI 8 14 38 (zT_putI 8 8 38 (zT_push (.int 0) (zT_ist 1 (J 125))))))) (zT_ald 0 (zT_push (.int (-6)) (zT_V1 zok 8 38 zc_X8_told (zT_iret K)))))))))
theorem zbs_X8_plan_96 {X : zCt} (hR : zRX X = { frames := 5, cells := 0, slots := 0, locals := 111 }) (J : Nat → zPP) (hJ : ∀ h ∈ ([40, 125] : List Nat), zSd X RX8 "plan" cX8_plan 2 (some .int) h (J h)) : zSd X RX8 "plan" cX8_plan 2 (some .int) 96 (zb_X8_plan_96 (zKX X) J) := zs_aload_n zd_X8_plan_96 rfl (zs_iconst zd_X8_plan_97 (by decide) (zs_putI (ci := 8) (j := 17) (T := TX8) rfl inX8 tyX8_ok nmX8 (by decide) gw_3_106 rfl rfl rfl zd_X8_plan_98 (zs_aload_n zd_X8_plan_101 rfl (zs_getI (ci := 8) (j := 23) (T := TX8) rfl inX8 (by decide) gw_3_112 rfl zd_X8_plan_102 (zs_if_eq (tgt := 115) zd_X8_plan_105 (by decide) (zs_aload_n zd_X8_plan_115 rfl (zs_aload_n zd_X8_plan_116 rfl (zs_getI (ci := 8) (j := 14) (T := TX8) rfl inX8 (by decide) gw_3_103 rfl zd_X8_plan_117 (zs_putI (ci := 8) (j := 8) (T := TX8) rfl inX8 tyX8_ok nmX8 (by decide) gw_3_97 rfl rfl rfl zd_X8_plan_120 (zs_iconst zd_X8_plan_123 (by decide) (zs_istore_n zd_X8_plan_124 rfl (by decide) (hJ 125 (by decide)))))))) (zs_aload_n zd_X8_plan_108 rfl (zs_bipush zd_X8_plan_109 (by decide) (zs_V (ci := 8) rfl rfl (zm_X8_told _ _ _) gw_3_217 gw_3_214 gw_3_216 gw_0_23 gw_1_7 zdn_X8_told (zrm hR (by decide) (by decide)) zd_X8_plan_111 (zCl_V1 zok_l) (zs_iret rfl zd_X8_plan_114)))))))))
def zb_X8_plan_0 (K : zKt) (J : Nat → zPP) : zPP := zT_ald 0 (zT_push (.int 0) (zT_putI 8 0 38 (zT_ald 0 (zT_push (.int 0) (zT_putI 8 19 38 (zT_ald 0 (zT_push (.int 0) (zT_putZ 8 23 38 (zT_ald 0 (zT_push (.int (-1)) (zT_putI 8 22 38 (zT_ald 0 (zT_push (.int 0) (zT_putI 8 14 38 (zT_ald 0 (zT_V0 zok 8 38 zc_X8_next (zT_ald 0 (zT_getI 8 20 38 (zT_if1 (fun x => x = 0) (zb_X8_plan_96 K J) (zT_ald 0 (zT_V0 zok 8 38 zc_X8_readAct (J 40))))))))))))))))))))))
theorem zbs_X8_plan_0 {X : zCt} (hR : zRX X = { frames := 5, cells := 0, slots := 0, locals := 111 }) (J : Nat → zPP) (hJ : ∀ h ∈ ([40, 125] : List Nat), zSd X RX8 "plan" cX8_plan 2 (some .int) h (J h)) : zSd X RX8 "plan" cX8_plan 2 (some .int) 0 (zb_X8_plan_0 (zKX X) J) := zs_aload_n zd_X8_plan_0 rfl (zs_iconst zd_X8_plan_1 (by decide) (zs_putI (ci := 8) (j := 0) (T := TX8) rfl inX8 tyX8_ok nmX8 (by decide) gw_3_89 rfl rfl rfl zd_X8_plan_2 (zs_aload_n zd_X8_plan_5 rfl (zs_iconst zd_X8_plan_6 (by decide) (zs_putI (ci := 8) (j := 19) (T := TX8) rfl inX8 tyX8_ok nmX8 (by decide) gw_3_108 rfl rfl rfl zd_X8_plan_7 (zs_aload_n zd_X8_plan_10 rfl (zs_iconst zd_X8_plan_11 (by decide) (zs_putZ (ci := 8) (j := 23) (T := TX8) rfl inX8 tyX8_ok nmX8 (by decide) gw_3_112 rfl rfl rfl zd_X8_plan_12 (zs_aload_n zd_X8_plan_15 rfl (zs_iconst zd_X8_plan_16 (by decide) (zs_putI (ci := 8) (j := 22) (T := TX8) rfl inX8 tyX8_ok nmX8 (by decide) gw_3_111 rfl rfl rfl zd_X8_plan_17 (zs_aload_n zd_X8_plan_20 rfl (zs_iconst zd_X8_plan_21 (by decide) (zs_putI (ci := 8) (j := 14) (T := TX8) rfl inX8 tyX8_ok nmX8 (by decide) gw_3_103 rfl rfl rfl zd_X8_plan_22 (zs_aload_n zd_X8_plan_25 rfl (zs_V (ci := 8) rfl rfl (zm_X8_next _ _ _) gw_4_15 gw_4_12 gw_4_14 gw_0_26 gw_1_7 zdn_X8_next (zrm hR (by decide) (by decide)) zd_X8_plan_26 (zCl_V0 zok_l) (zs_aload_n zd_X8_plan_29 rfl (zs_getI (ci := 8) (j := 20) (T := TX8) rfl inX8 (by decide) gw_3_109 rfl zd_X8_plan_30 (zs_if_eq (tgt := 96) zd_X8_plan_33 (by decide) (zbs_X8_plan_96 hR J hJ) (zs_aload_n zd_X8_plan_36 rfl (zs_V (ci := 8) rfl rfl (zm_X8_readAct _ _ _) gw_4_29 gw_4_26 gw_4_28 gw_0_27 gw_1_7 zdn_X8_readAct (zrm hR (by decide) (by decide)) zd_X8_plan_37 (zCl_V0 zok_l) (hJ 40 (by decide)))))))))))))))))))))))
def zb_X8_plan_77 (K : zKt) (J : Nat → zPP) : zPP := zT_ald 0 (zT_getI 8 23 38 (zT_if1 (fun x => x = 0) (zT_ald 0 (zT_getI 8 20 38 (zT_if1 (fun x => x = 0) (zb_X8_plan_96 K J) (zT_ald 0 (zT_push (.int 0) (zT_V1 zok 8 38 zc_X8_must (zb_X8_plan_96 K J))))))) (zb_X8_plan_96 K J)))
theorem zbs_X8_plan_77 {X : zCt} (hR : zRX X = { frames := 5, cells := 0, slots := 0, locals := 111 }) (J : Nat → zPP) (hJ : ∀ h ∈ ([40, 125] : List Nat), zSd X RX8 "plan" cX8_plan 2 (some .int) h (J h)) : zSd X RX8 "plan" cX8_plan 2 (some .int) 77 (zb_X8_plan_77 (zKX X) J) := zs_aload_n zd_X8_plan_77 rfl (zs_getI (ci := 8) (j := 23) (T := TX8) rfl inX8 (by decide) gw_3_112 rfl zd_X8_plan_78 (zs_if_ne (tgt := 96) zd_X8_plan_81 (by decide) (zbs_X8_plan_96 hR J hJ) (zs_aload_n zd_X8_plan_84 rfl (zs_getI (ci := 8) (j := 20) (T := TX8) rfl inX8 (by decide) gw_3_109 rfl zd_X8_plan_85 (zs_if_eq (tgt := 96) zd_X8_plan_88 (by decide) (zbs_X8_plan_96 hR J hJ) (zs_aload_n zd_X8_plan_91 rfl (zs_iconst zd_X8_plan_92 (by decide) (zs_V (ci := 8) rfl rfl (zm_X8_must _ _ _) gw_4_37 gw_4_34 gw_4_36 gw_0_29 gw_1_7 zdn_X8_must (zrm hR (by decide) (by decide)) zd_X8_plan_93 (zCl_V1 zok_l) (zbs_X8_plan_96 hR J hJ)))))))))
def zb_X8_plan_40 (K : zKt) (J : Nat → zPP) : zPP := zT_ald 0 (zT_getI 8 23 38 (zT_if1 (fun x => x = 0) (zT_ald 0 (zT_getI 8 20 38 (zT_push (.int 3) (zT_if2 (fun x y => x = y) (zT_ald 0 (zT_getJ 8 21 38 (zT_push (.long 59) (zT_lcmp (zT_if1 (fun x => x = 0) (zT_ald 0 (zT_V0 zok 8 38 zc_X8_next (zT_ald 0 (zT_V0 zok 8 38 zc_X8_readAct (J 40))))) (zb_X8_plan_77 K J)))))) (zb_X8_plan_77 K J))))) (zb_X8_plan_77 K J)))
theorem zbs_X8_plan_40 {X : zCt} (hR : zRX X = { frames := 5, cells := 0, slots := 0, locals := 111 }) (J : Nat → zPP) (hJ : ∀ h ∈ ([40, 125] : List Nat), zSd X RX8 "plan" cX8_plan 2 (some .int) h (J h)) : zSd X RX8 "plan" cX8_plan 2 (some .int) 40 (zb_X8_plan_40 (zKX X) J) := zs_aload_n zd_X8_plan_40 rfl (zs_getI (ci := 8) (j := 23) (T := TX8) rfl inX8 (by decide) gw_3_112 rfl zd_X8_plan_41 (zs_if_ne (tgt := 77) zd_X8_plan_44 (by decide) (zbs_X8_plan_77 hR J hJ) (zs_aload_n zd_X8_plan_47 rfl (zs_getI (ci := 8) (j := 20) (T := TX8) rfl inX8 (by decide) gw_3_109 rfl zd_X8_plan_48 (zs_iconst zd_X8_plan_51 (by decide) (zs_icmp_ne (tgt := 77) zd_X8_plan_52 (by decide) (zbs_X8_plan_77 hR J hJ) (zs_aload_n zd_X8_plan_55 rfl (zs_getJ (ci := 8) (j := 21) (T := TX8) rfl inX8 (by decide) gw_3_110 rfl zd_X8_plan_56 (zs_ldc2 zd_X8_plan_59 gw_4_45 (zs_lcmp zd_X8_plan_62 (zs_if_ne (tgt := 77) zd_X8_plan_63 (by decide) (zbs_X8_plan_77 hR J hJ) (zs_aload_n zd_X8_plan_66 rfl (zs_V (ci := 8) rfl rfl (zm_X8_next _ _ _) gw_4_15 gw_4_12 gw_4_14 gw_0_26 gw_1_7 zdn_X8_next (zrm hR (by decide) (by decide)) zd_X8_plan_67 (zCl_V0 zok_l) (zs_aload_n zd_X8_plan_70 rfl (zs_V (ci := 8) rfl rfl (zm_X8_readAct _ _ _) gw_4_29 gw_4_26 gw_4_28 gw_0_27 gw_1_7 zdn_X8_readAct (zrm hR (by decide) (by decide)) zd_X8_plan_71 (zCl_V0 zok_l) (zs_goto (tgt := 40) zd_X8_plan_74 (by decide) (hJ 40 (by decide))))))))))))))))))
def zb_X8_plan_125 (K : zKt) (J : Nat → zPP) : zPP := zT_ild 1 (zT_ald 0 (zT_getI 8 8 38 (zT_if2 (fun x y => y ≤ x) (zT_ald 0 (zT_ald 0 (zT_getI 8 8 38 (zT_V1 zok 8 38 zc_X8_told (zT_iret K))))) (zT_ald 0 (zT_getR 8 9 38 (zT_ild 1 (zT_ald 0 (zT_getR 8 15 38 (zT_push (.int 5) (zT_ild 1 (zT_bin (fun x y => x * y) (zT_ald0 0 (zT_iast (zT_ald 0 (zT_getR 8 10 38 (zT_ild 1 (zT_ald 0 (zT_getR 8 15 38 (zT_push (.int 5) (zT_ild 1 (zT_bin (fun x y => x * y) (zT_push (.int 1) (zT_bin (fun x y => x + y) (zT_ald0 0 (zT_iast (zT_ald 0 (zT_getR 8 11 38 (zT_ild 1 (zT_ald 0 (zT_getR 8 15 38 (zT_push (.int 5) (zT_ild 1 (zT_bin (fun x y => x * y) (zT_push (.int 2) (zT_bin (fun x y => x + y) (zT_ald0 0 (zT_iast (zT_ald 0 (zT_getR 8 12 38 (zT_ild 1 (zT_ald 0 (zT_getR 8 15 38 (zT_push (.int 5) (zT_ild 1 (zT_bin (fun x y => x * y) (zT_push (.int 3) (zT_bin (fun x y => x + y) (zT_ald0 0 (zT_iast (zT_ald 0 (zT_getR 8 13 38 (zT_ild 1 (zT_ald 0 (zT_getR 8 15 38 (zT_push (.int 5) (zT_ild 1 (zT_bin (fun x y => x * y) (zT_push (.int 4) (zT_bin (fun x y => x + y) (zT_ald0 0 (zT_iast (zT_iinc 1 1 (J 125)))))))))))))))))))))))))))))))))))))))))))))))))))))))))))))))
theorem zbs_X8_plan_125 {X : zCt} (hR : zRX X = { frames := 5, cells := 0, slots := 0, locals := 111 }) (J : Nat → zPP) (hJ : ∀ h ∈ ([40, 125] : List Nat), zSd X RX8 "plan" cX8_plan 2 (some .int) h (J h)) : zSd X RX8 "plan" cX8_plan 2 (some .int) 125 (zb_X8_plan_125 (zKX X) J) := zs_iload_n zd_X8_plan_125 rfl (zs_aload_n zd_X8_plan_126 rfl (zs_getI (ci := 8) (j := 8) (T := TX8) rfl inX8 (by decide) gw_3_97 rfl zd_X8_plan_127 (zs_icmp_ge (tgt := 217) zd_X8_plan_130 (by decide) (zs_aload_n zd_X8_plan_217 rfl (zs_aload_n zd_X8_plan_218 rfl (zs_getI (ci := 8) (j := 8) (T := TX8) rfl inX8 (by decide) gw_3_97 rfl zd_X8_plan_219 (zs_V (ci := 8) rfl rfl (zm_X8_told _ _ _) gw_3_217 gw_3_214 gw_3_216 gw_0_23 gw_1_7 zdn_X8_told (zrm hR (by decide) (by decide)) zd_X8_plan_222 (zCl_V1 zok_l) (zs_iret rfl zd_X8_plan_225))))) (zs_aload_n zd_X8_plan_133 rfl (zs_getR (ci := 8) (j := 9) (T := TX8) rfl inX8 (by decide) gw_3_98 rfl zd_X8_plan_134 (zs_iload_n zd_X8_plan_137 rfl (zs_aload_n zd_X8_plan_138 rfl (zs_getR (ci := 8) (j := 15) (T := TX8) rfl inX8 (by decide) gw_3_104 rfl zd_X8_plan_139 (zs_iconst zd_X8_plan_142 (by decide) (zs_iload_n zd_X8_plan_143 rfl (zs_imul zd_X8_plan_144 (zs_iald zd_X8_plan_145 (zs_iast zd_X8_plan_146 (zs_aload_n zd_X8_plan_147 rfl (zs_getR (ci := 8) (j := 10) (T := TX8) rfl inX8 (by decide) gw_3_99 rfl zd_X8_plan_148 (zs_iload_n zd_X8_plan_151 rfl (zs_aload_n zd_X8_plan_152 rfl (zs_getR (ci := 8) (j := 15) (T := TX8) rfl inX8 (by decide) gw_3_104 rfl zd_X8_plan_153 (zs_iconst zd_X8_plan_156 (by decide) (zs_iload_n zd_X8_plan_157 rfl (zs_imul zd_X8_plan_158 (zs_iconst zd_X8_plan_159 (by decide) (zs_iadd zd_X8_plan_160 (zs_iald zd_X8_plan_161 (zs_iast zd_X8_plan_162 (zs_aload_n zd_X8_plan_163 rfl (zs_getR (ci := 8) (j := 11) (T := TX8) rfl inX8 (by decide) gw_3_100 rfl zd_X8_plan_164 (zs_iload_n zd_X8_plan_167 rfl (zs_aload_n zd_X8_plan_168 rfl (zs_getR (ci := 8) (j := 15) (T := TX8) rfl inX8 (by decide) gw_3_104 rfl zd_X8_plan_169 (zs_iconst zd_X8_plan_172 (by decide) (zs_iload_n zd_X8_plan_173 rfl (zs_imul zd_X8_plan_174 (zs_iconst zd_X8_plan_175 (by decide) (zs_iadd zd_X8_plan_176 (zs_iald zd_X8_plan_177 (zs_iast zd_X8_plan_178 (zs_aload_n zd_X8_plan_179 rfl (zs_getR (ci := 8) (j := 12) (T := TX8) rfl inX8 (by decide) gw_3_101 rfl zd_X8_plan_180 (zs_iload_n zd_X8_plan_183 rfl (zs_aload_n zd_X8_plan_184 rfl (zs_getR (ci := 8) (j := 15) (T := TX8) rfl inX8 (by decide) gw_3_104 rfl zd_X8_plan_185 (zs_iconst zd_X8_plan_188 (by decide) (zs_iload_n zd_X8_plan_189 rfl (zs_imul zd_X8_plan_190 (zs_iconst zd_X8_plan_191 (by decide) (zs_iadd zd_X8_plan_192 (zs_iald zd_X8_plan_193 (zs_iast zd_X8_plan_194 (zs_aload_n zd_X8_plan_195 rfl (zs_getR (ci := 8) (j := 13) (T := TX8) rfl inX8 (by decide) gw_3_102 rfl zd_X8_plan_196 (zs_iload_n zd_X8_plan_199 rfl (zs_aload_n zd_X8_plan_200 rfl (zs_getR (ci := 8) (j := 15) (T := TX8) rfl inX8 (by decide) gw_3_104 rfl zd_X8_plan_201 (zs_iconst zd_X8_plan_204 (by decide) (zs_iload_n zd_X8_plan_205 rfl (zs_imul zd_X8_plan_206 (zs_iconst zd_X8_plan_207 (by decide) (zs_iadd zd_X8_plan_208 (zs_iald zd_X8_plan_209 (zs_iast zd_X8_plan_210 (zs_iinc zd_X8_plan_211 (by decide) (by decide) (zs_goto (tgt := 125) zd_X8_plan_214 (by decide) (hJ 125 (by decide)))))))))))))))))))))))))))))))))))))))))))))))))))))))))))))))))
def zB_X8_plan (K : zKt) (J : Nat → zPP) (h : Nat) : zPP := if h = 40 then zb_X8_plan_40 K J else if h = 125 then zb_X8_plan_125 K J else (fun _ _ _ => False)
theorem zBs_X8_plan {X : zCt} (hR : zRX X = { frames := 5, cells := 0, slots := 0, locals := 111 }) : ∀ J : Nat → zPP, (∀ h ∈ ([40, 125] : List Nat), zSd X RX8 "plan" cX8_plan 2 (some .int) h (J h)) → ∀ h ∈ ([40, 125] : List Nat), zSd X RX8 "plan" cX8_plan 2 (some .int) h (zB_X8_plan (zKX X) J h) := by
  intro J hJ h hh
  unfold zB_X8_plan
  simp only [List.mem_cons, List.not_mem_nil, or_false] at hh
  rcases hh with rfl | rfl
  · exact zbs_X8_plan_40 hR J hJ
  · exact zbs_X8_plan_125 hR J hJ
theorem zdn_X8_plan : yX8_plan.cls ≠ "java/lang/invoke/MethodHandle" ∧ yX8_plan.cls ≠ "java/lang/invoke/VarHandle" ∧ (parseMethodDescriptor yX8_plan.desc).map (fun d => d.parameters.length) = some 0 := by decide +kernel
/-- what the reader leaves as it was -/
def mrp (M M' : zMm) : Prop := M'.1 = M.1 ∧ M'.2.2.2 = M.2.2.2 ∧ (∀ k, k ≠ 200 → k ≠ 207 → M'.2.1 k = M.2.1 k) ∧ ∀ j, j ≠ 14 → j < 18 ∨ 23 < j → M'.2.1 200 j = M.2.1 200 j
theorem mrp.rf {M : zMm} : mrp M M := ⟨rfl, rfl, fun _ _ _ => rfl, fun _ _ _ => rfl⟩
theorem mrp.tr {M M' M'' : zMm} (h : mrp M M') (h' : mrp M' M'') : mrp M M'' := ⟨h'.1.trans h.1, h'.2.1.trans h.2.1, fun k a b => (h'.2.2.1 k a b).trans (h.2.2.1 k a b), fun j a b => (h'.2.2.2 j a b).trans (h.2.2.2 j a b)⟩
theorem mch.rp {M M' : zMm} (h : mch M M') : mrp M M' := ⟨h.1, h.2.1, fun k a _ => h.2.2.1 k a, fun j _ b => h.2.2.2 j b⟩
theorem mrp.w {M M' : zMm} (h : mrp M M') {j : Nat} {x : Int32} (hj : j = 14 ∨ (18 ≤ j ∧ j ≤ 23)) : mrp M (zwI M' 200 j x) := ⟨h.1, h.2.1, fun k a b => (zw2_n a).trans (h.2.2.1 k a b), fun i a b => by
  simp only [zwI_L, zwI_I, zwI_J, zwI_R, zwJ_L, zwJ_I, zwJ_J, zwJ_R, zwR_L, zwR_I, zwR_J, zwR_R, zw2_s, zw2_n, ne_eq, not_false_eq_true, reduceCtorEq, not_true_eq_false, Nat.reduceEqDiff]
  rw [zup_n (by omega)]
  exact h.2.2.2 i a b⟩
theorem mrp.T {M M' : zMm} (h : mrp M M') {tp : List Nat} (hT : zMT M tp) : zMT M' tp := by
  unfold zMT
  rw [h.2.2.2 17 (by omega) (by omega), h.2.2.1 208 (by decide) (by decide)]
  exact hT
/-- the new acts -/
def mna (M : zMm) (acts : List wAc) : Prop := ∀ i t, acts[i]? = some t → wacok t ∧ M.2.1 207 (5 * i) = nI (wak t) ∧ M.2.1 207 (5 * i + 1) = nI (way t) ∧ M.2.1 207 (5 * i + 2) = nI (wax t) ∧ M.2.1 207 (5 * i + 3) = nI (wao t) ∧ M.2.1 207 (5 * i + 4) = nI (wab t)
theorem mna.ch {M M' : zMm} {acts : List wAc} (h : mna M acts) (e : M'.2.1 207 = M.2.1 207) : mna M' acts := fun i t ht => by rw [e]; exact h i t ht
theorem mna.ra {M M' : zMm} {acts : List wAc} {t : wAc} (h : mna M acts) (hr : mra M M' acts.length t) (ht : wacok t) : mna M' (acts ++ [t]) := by
  obtain ⟨-, -, hold, n0, n1, n2, n3, n4⟩ := hr
  intro i u hu
  rcases Nat.lt_or_ge i acts.length with q | q
  · rw [List.getElem?_append_left q] at hu
    have := h i u hu
    rw [hold _ (by omega), hold _ (by omega), hold _ (by omega), hold _ (by omega), hold _ (by omega)]
    exact this
  · rw [List.getElem?_append_right q] at hu
    have hz : i - acts.length < 1 := (List.getElem?_eq_some_iff.mp hu).1
    have e : i = acts.length := by omega
    subst e
    rw [Nat.sub_self] at hu
    cases hu
    exact ⟨ht, n0, n1, n2, n3, n4⟩
theorem zMF.pl {M M' : zMm} {F : wFS} (h : zMF M F) (hR : M'.2.2.2 = M.2.2.2) (h0 : ∀ j, (2 ≤ j ∧ j ≤ 6) ∨ j = 8 ∨ j = 31 → M'.2.1 200 j = M.2.1 200 j) (hI : ∀ k, (201 ≤ k ∧ k ≤ 206) ∨ (216 ≤ k ∧ k ≤ 219) → M'.2.1 k = M.2.1 k) (h17 : M'.2.1 200 17 = 0) : zMF M' (F.1, F.2.1, [], M'.2.1 200 22, M'.2.1 200 1) := by
  obtain ⟨h1, h2, h3, h4, h5, h6⟩ := h
  refine ⟨?_, ?_, ?_, ⟨h17, Nat.zero_le _, fun i b hb => by cases hb⟩, rfl, rfl⟩
  · unfold zMr; rw [hR]; exact h1
  · unfold zMS
    rw [h0 2 (by omega), h0 3 (by omega), h0 4 (by omega), h0 5 (by omega), h0 6 (by omega), h0 8 (by omega), hI 201 (by omega), hI 202 (by omega), hI 203 (by omega), hI 204 (by omega), hI 205 (by omega), hI 206 (by omega)]
    exact h2
  · unfold zME
    rw [h0 31 (by omega), hI 216 (by omega), hI 217 (by omega), hI 218 (by omega), hI 219 (by omega)]
    exact h3
def mcq (M1 M' : zMm) (acts : List wAc) (k : Nat) : Prop := M'.2.2.2 = M1.2.2.2 ∧ (∀ k, k < 200 ∨ k = 201 ∨ 208 ≤ k → M'.2.1 k = M1.2.1 k) ∧ (∀ j, (1 ≤ j ∧ j ≤ 6) ∨ j = 31 → M'.2.1 200 j = M1.2.1 200 j) ∧ M'.2.1 200 8 = nI acts.length ∧ M'.2.1 200 17 = 0 ∧ M'.2.1 200 22 = -1 ∧ mna M' acts ∧ (∀ i t, i < k → acts[i]? = some t → M'.2.1 202 i = nI (wak t) ∧ M'.2.1 203 i = nI (way t) ∧ M'.2.1 204 i = nI (wax t) ∧ M'.2.1 205 i = nI (wao t) ∧ M'.2.1 206 i = nI (wab t))
def zc_X8_plan (a : List Value) (M : zMm) (K : zKt) : Prop := match a with
  | [.ref k] => k = 200 ∧ ∃ F, zMF M F ∧ ∀ M', zMF M' (pPlan F).2 → K (some (.int (pPlan F).1)) M'
  | _ => False
theorem mread_use {M : zMm} {K : zKt} {tp : List Nat} {a n : Nat} (r16 : M.2.2.2 200 16 = some 208) (r15 : M.2.2.2 200 15 = some 207) (hT : zMT M tp) (hP : mPs M tp (.inr a)) (h14 : M.2.1 200 14 = nI n) (hn : n ≤ 20)
    (hF : ∀ f, ((n = 20 ∧ f = a) ∨ (n < 20 ∧ wrA tp a = .inl f)) → ∀ M', mch M M' → mPs M' tp (.inl f) → K none M')
    (hG : ∀ t a', n < 20 → wrA tp a = .inr (t, a') → wacok t → ∀ M', mra M M' n t → mPs M' tp (.inr a') → K none M') : zc_X8_readAct [.ref 200] M K := ⟨rfl, r16, r15, tp, a, n, hT, hP, h14, hn, hF, hG⟩
theorem mnext_use {M : zMm} {K : zKt} {tp : List Nat} {s : Nat} (r16 : M.2.2.2 200 16 = some 208) (hT : zMT M tp) (h19 : M.2.1 200 19 = nI s) (hs : s ≤ tp.length) (h : ∀ M', mcn M M' → mTk M' tp (wsk tp s) → K none M') : zc_X8_next [.ref 200] M K := ⟨rfl, r16, tp, s, hT, h19, hs, h⟩
/-- what is told behind an act -/
def mct' (tp : List Nat) (a' : Nat) (acts : List wAc) : Nat ⊕ List wAc := if tp.length ≤ a' then .inr acts else if wis tp a' 7 = true then wrP tp (20 - acts.length) (wno tp a') acts else .inl a'
theorem wrP_s {tp : List Nat} {a : Nat} {acts : List wAc} (h : acts.length < 20) : wrP tp (20 - acts.length) a acts = match wrA tp a with
    | .inl e => Sum.inl e
    | .inr (t, a') => mct' tp a' (acts ++ [t]) := by
  obtain ⟨m, hm⟩ : ∃ m, 20 - acts.length = m + 1 := ⟨19 - acts.length, by omega⟩
  rw [hm]
  show (match wrA tp a with
    | .inl e => Sum.inl e
    | .inr (t, a') => if tp.length ≤ a' then Sum.inr (acts ++ [t]) else if wis tp a' 7 = true then wrP tp m (wno tp a') (acts ++ [t]) else Sum.inl a') = _
  cases wrA tp a with
  | inl e => rfl
  | inr p =>
    obtain ⟨t, a'⟩ := p
    dsimp only
    unfold mct'
    rw [List.length_append, List.length_singleton, show 20 - (acts.length + 1) = m by omega]
set_option maxHeartbeats 4000000 in
theorem zm_X8_plan (l : Launch) (D : va_G) (Y : Nat → ClassId) : zMt l D Y yX8_plan cX8_plan 2 (some .int) 5 111 0 0 zc_X8_plan := by
  refine zwhile (heads := [40, 125]) (by decide) (fun K J _ _ => zb_X8_plan_0 K J) (fun K _ _ J h => zB_X8_plan K J h) (fun X hR J hJ => zbs_X8_plan_0 hR J hJ) (fun X hR => zBs_X8_plan hR) (fun avs M K h => ?_)
  unfold zc_X8_plan at h
  split at h
  · obtain ⟨rfl, F, hF, h⟩ := h
    have hF1 := hF.th
    generalize hM1 : zwI M 200 0 0 = M1 at hF1
    obtain ⟨g1, g2, g3, g4, g5, g6⟩ := id hF1
    obtain ⟨r7, r9, r10, r11, r12, r13, r15, r16, -⟩ := id g1
    obtain ⟨tp, htp⟩ : ∃ tp, tp = F.2.2.1 := ⟨_, rfl⟩
    rw [← htp] at g4
    obtain ⟨t1, t2, t3⟩ := id g4
    have tb : ∀ i, i < tp.length → bt tp i < 256 := fun i hi => (g4.at hi).1
    have S96 : ∀ (J : Nat → zPP) (M' : zMm) (s : Nat ⊕ Nat) (acts : List wAc), (∀ M'', wrT tp = .inr acts → mcq M1 M'' acts 0 → J 125 M'' [some (.ref 200), some (.int (nI 0))] []) → mrp M1 M' → acts.length ≤ 20 → M'.2.1 200 14 = nI acts.length → mna M' acts → mPs M' tp s → (∀ f, s = .inl f → wrT tp = .inl f) → (∀ a', s = .inr a' → wrT tp = .inr acts) → zb_X8_plan_96 K J M' [some (.ref 200), none] [] := by
      intro J M' s acts hJ hs hl h14 hna hP hf hg
      have eR := hs.2.1
      simp only [zb_X8_plan_96, zsh_200, h14, zwI_L, zwI_I, zwI_J, zwI_R, zwJ_L, zwJ_I, zwJ_J, zwJ_R, zwR_L, zwR_I, zwR_J, zwR_R, zw2_s, zw2_n, ne_eq, not_false_eq_true, reduceCtorEq, not_true_eq_false, Nat.reduceEqDiff, zup_s, zup_n, zT_push, zT_bin, zT_div, zT_bil, zT_shl, zT_un, zT_i2l, zT_l2i, zT_lcmp, zT_ild, zT_lld, zT_ald, zT_ist, zT_lst, zT_ast, zT_iinc, zT_dup, zT_dup2, zT_pop, zT_if1, zT_if2, zT_ifn, zT_getI, zT_getJ, zT_getR, zT_putI, zT_putZ, zT_putJ, zT_putR, zT_ald0, zT_lald, zT_aald, zT_iast, zT_zast, zT_bast, zT_last, zT_aast, zT_iret, zT_nret, zT_aret, zT_vret, zT_oi, zT_mm, zT_ialX, zT_S1, zT_S2, zT_S3, zT_V0, zT_V1, zT_V2, zT_V3, zT_V4, zT_V5, zT_V6, zT_I0, zT_I1, zT_I2, zlg, zlset, zlpr, zent, zok, va_rf, List.length_cons, List.length_nil, List.replicate, List.cons_append, List.nil_append, List.append_nil, Option.toList_some, Option.toList_none, Option.toList, Nat.reduceAdd, Nat.reduceSub, Nat.reduceLeDiff, Nat.zero_add, Nat.zero_le, true_and, and_true, Nat.le_refl, ge_iff_le, Nat.reduceEqDiff]
      rcases s with f | a'
      · obtain ⟨p1, p2⟩ := id hP
        rw [p1]
        refine ⟨fun z => absurd z (by decide), fun _ => ?_⟩
        unfold zc_X8_told
        dsimp only
        refine ⟨rfl, ?_⟩
        rw [if_pos (by decide)]
        have h2 := h (zwI (zwI M' 200 17 0) 200 1 (-6))
        unfold pPlan at h2
        rw [← htp, hf f rfl] at h2
        refine h2 ?_
        have h3 := zMF.pl (M' := zwI (zwI M' 200 17 0) 200 1 (-6)) hF1 eR (fun j hj => ?_) (fun k hk => ?_) ?_
        · have e22 : (zwI (zwI M' 200 17 0) 200 1 (-6)).2.1 200 22 = nI f := by simp only [zwI_L, zwI_I, zwI_J, zwI_R, zwJ_L, zwJ_I, zwJ_J, zwJ_R, zwR_L, zwR_I, zwR_J, zwR_R, zw2_s, zw2_n, ne_eq, not_false_eq_true, reduceCtorEq, not_true_eq_false, Nat.reduceEqDiff, zup_s, zup_n, p2]
          have e1 : (zwI (zwI M' 200 17 0) 200 1 (-6)).2.1 200 1 = -6 := by simp only [zwI_L, zwI_I, zwI_J, zwI_R, zwJ_L, zwJ_I, zwJ_J, zwJ_R, zwR_L, zwR_I, zwR_J, zwR_R, zw2_s, zw2_n, ne_eq, not_false_eq_true, reduceCtorEq, not_true_eq_false, Nat.reduceEqDiff, zup_s]
          rw [e22, e1] at h3
          exact h3
        · simp only [zwI_L, zwI_I, zwI_J, zwI_R, zwJ_L, zwJ_I, zwJ_J, zwJ_R, zwR_L, zwR_I, zwR_J, zwR_R, zw2_s, zw2_n, ne_eq, not_false_eq_true, reduceCtorEq, not_true_eq_false, Nat.reduceEqDiff]
          rw [zup_n (by omega), zup_n (by omega)]
          exact hs.2.2.2 j (by omega) (by omega)
        · simp only [zwI_I]
          rw [zw2_n (by omega), zw2_n (by omega)]
          exact hs.2.2.1 k (by omega) (by omega)
        · simp only [zwI_L, zwI_I, zwI_J, zwI_R, zwJ_L, zwJ_I, zwJ_J, zwJ_R, zwR_L, zwR_I, zwR_J, zwR_R, zw2_s, zw2_n, ne_eq, not_false_eq_true, reduceCtorEq, not_true_eq_false, Nat.reduceEqDiff, zup_s, zup_n]
      · obtain ⟨p1, p2, -⟩ := id hP
        rw [p1]
        refine ⟨fun _ => hJ _ (hg a' rfl) ⟨eR, fun k hk => ?_, fun j hj => ?_, ?_, ?_, ?_, hna.ch ?_, fun i t hi => absurd hi (Nat.not_lt_zero _)⟩, fun z => absurd rfl z⟩
        · simp only [zwI_I]
          rw [zw2_n (by omega), zw2_n (by omega)]
          exact hs.2.2.1 k (by omega) (by omega)
        · simp only [zwI_L, zwI_I, zwI_J, zwI_R, zwJ_L, zwJ_I, zwJ_J, zwJ_R, zwR_L, zwR_I, zwR_J, zwR_R, zw2_s, zw2_n, ne_eq, not_false_eq_true, reduceCtorEq, not_true_eq_false, Nat.reduceEqDiff]
          rw [zup_n (by omega), zup_n (by omega)]
          exact hs.2.2.2 j (by omega) (by omega)
        · simp only [zwI_L, zwI_I, zwI_J, zwI_R, zwJ_L, zwJ_I, zwJ_J, zwJ_R, zwR_L, zwR_I, zwR_J, zwR_R, zw2_s, zw2_n, ne_eq, not_false_eq_true, reduceCtorEq, not_true_eq_false, Nat.reduceEqDiff, zup_s]
        · simp only [zwI_L, zwI_I, zwI_J, zwI_R, zwJ_L, zwJ_I, zwJ_J, zwJ_R, zwR_L, zwR_I, zwR_J, zwR_R, zw2_s, zw2_n, ne_eq, not_false_eq_true, reduceCtorEq, not_true_eq_false, Nat.reduceEqDiff, zup_s, zup_n]
        · simp only [zwI_L, zwI_I, zwI_J, zwI_R, zwJ_L, zwJ_I, zwJ_J, zwJ_R, zwR_L, zwR_I, zwR_J, zwR_R, zw2_s, zw2_n, ne_eq, not_false_eq_true, reduceCtorEq, not_true_eq_false, Nat.reduceEqDiff, zup_s, zup_n, p2]
        · simp only [zwI_L, zwI_I, zwI_J, zwI_R, zwJ_L, zwJ_I, zwJ_J, zwJ_R, zwR_L, zwR_I, zwR_J, zwR_R, zw2_s, zw2_n, ne_eq, not_false_eq_true, reduceCtorEq, not_true_eq_false, Nat.reduceEqDiff]
    refine ⟨by simp [zent], fun q hd M' ls st => ((hd = 40 ∧ ∃ s acts, q = 1000 - acts.length - (match s with | .inl _ => 100 | .inr _ => 0) ∧ mrp M1 M' ∧ acts.length ≤ 20 ∧ M'.2.1 200 14 = nI acts.length ∧ mna M' acts ∧ mPs M' tp s ∧ (∀ f, s = .inl f → wrT tp = .inl f) ∧ (∀ a', s = .inr a' → wrT tp = mct' tp a' acts) ∧ ls = [some (.ref 200), none] ∧ st = []) ∨
      (hd = 125 ∧ ∃ acts k, q = 500 - k ∧ k ≤ acts.length ∧ acts.length ≤ 20 ∧ wrT tp = .inr acts ∧ mcq M1 M' acts k ∧ ls = [some (.ref 200), some (.int (nI k))] ∧ st = [])), ?_, ?_⟩
    · rintro q J hJ hd - M' ls st (⟨rfl, s, acts, rfl, hs, hl, h14, hna, hP, hf, hg, rfl, rfl⟩ | ⟨rfl, acts, k, rfl, hk, hl, hw, ⟨eR, eI, e0, e8, e17, e22, hna, hc⟩, rfl, rfl⟩)
      · have eR := hs.2.1
        have hj125 : ∀ M'', wrT tp = .inr acts → mcq M1 M'' acts 0 → J 125 M'' [some (.ref 200), some (.int (nI 0))] [] := fun M'' z1 z2 => hJ 500 (by split <;> omega) 125 (by simp) _ _ _ (Or.inr ⟨rfl, acts, 0, rfl, Nat.zero_le _, hl, z1, z2, rfl, rfl⟩)
        rcases s with f | a'
        · obtain ⟨p1, p2⟩ := id hP
          simp only [zB_X8_plan, zb_X8_plan_40, zb_X8_plan_77, ↓reduceIte, zsh_200, p1, Nat.reduceEqDiff, zT_push, zT_bin, zT_div, zT_bil, zT_shl, zT_un, zT_i2l, zT_l2i, zT_lcmp, zT_ild, zT_lld, zT_ald, zT_ist, zT_lst, zT_ast, zT_iinc, zT_dup, zT_dup2, zT_pop, zT_if1, zT_if2, zT_ifn, zT_getI, zT_getJ, zT_getR, zT_putI, zT_putZ, zT_putJ, zT_putR, zT_ald0, zT_lald, zT_aald, zT_iast, zT_zast, zT_bast, zT_last, zT_aast, zT_iret, zT_nret, zT_aret, zT_vret, zT_oi, zT_mm, zT_ialX, zT_S1, zT_S2, zT_S3, zT_V0, zT_V1, zT_V2, zT_V3, zT_V4, zT_V5, zT_V6, zT_I0, zT_I1, zT_I2, zlg, zlset, zlpr, zent, zok, va_rf, List.length_cons, List.length_nil, List.replicate, List.cons_append, List.nil_append, List.append_nil, Option.toList_some, Option.toList_none, Option.toList, Nat.reduceAdd, Nat.reduceSub, Nat.reduceLeDiff, Nat.zero_add, Nat.zero_le, true_and, and_true, Nat.le_refl, ge_iff_le, Nat.reduceEqDiff]
          exact ⟨fun z => absurd z (by decide), fun _ => ⟨fun z => absurd z (by decide), fun _ => S96 J M' _ acts hj125 hs hl h14 hna hP hf (fun a' z => by cases z)⟩⟩
        · obtain ⟨p1, p2, p3, q1, q2, q3, q4⟩ := id hP
          have hg' := hg a' rfl
          have hle := msr_le (tp := tp) (a := a')
          have hw7 := mis7 (tp := tp) (a := a') p3 tb
          have e3 : nI (msr tp a') = 3 ↔ msr tp a' = 3 := nI_eq (b := 3) (by omega) (by decide)
          have e0 : nI (msr tp a') = 0 ↔ msr tp a' = 0 := nI_eq (b := 0) (by omega) (by decide)
          have S77 : ¬ wis tp a' 7 = true → zb_X8_plan_77 K J M' [some (.ref 200), none] [] := by
            intro hn7
            simp only [zb_X8_plan_77, zsh_200, p1, q3, zT_push, zT_bin, zT_div, zT_bil, zT_shl, zT_un, zT_i2l, zT_l2i, zT_lcmp, zT_ild, zT_lld, zT_ald, zT_ist, zT_lst, zT_ast, zT_iinc, zT_dup, zT_dup2, zT_pop, zT_if1, zT_if2, zT_ifn, zT_getI, zT_getJ, zT_getR, zT_putI, zT_putZ, zT_putJ, zT_putR, zT_ald0, zT_lald, zT_aald, zT_iast, zT_zast, zT_bast, zT_last, zT_aast, zT_iret, zT_nret, zT_aret, zT_vret, zT_oi, zT_mm, zT_ialX, zT_S1, zT_S2, zT_S3, zT_V0, zT_V1, zT_V2, zT_V3, zT_V4, zT_V5, zT_V6, zT_I0, zT_I1, zT_I2, zlg, zlset, zlpr, zent, zok, va_rf, List.length_cons, List.length_nil, List.replicate, List.cons_append, List.nil_append, List.append_nil, Option.toList_some, Option.toList_none, Option.toList, Nat.reduceAdd, Nat.reduceSub, Nat.reduceLeDiff, Nat.zero_add, Nat.zero_le, true_and, and_true, Nat.le_refl, ge_iff_le, Nat.reduceEqDiff]
            refine ⟨fun _ => ⟨fun h1 => ?_, fun h1 => ?_⟩, fun z => absurd trivial z⟩
            · have hend := msr_0.mp (e0.mp h1)
              unfold mct' at hg'
              rw [if_pos hend] at hg'
              exact S96 J M' _ acts hj125 hs hl h14 hna hP (fun f z => by cases z) (fun _ _ => hg')
            · have hend : ¬ tp.length ≤ a' := fun z => h1 (e0.mpr (msr_0.mpr z))
              unfold mct' at hg'
              rw [if_neg hend, if_neg hn7] at hg'
              refine must_use (by rw [eR]; exact r16) (hs.T g4) hP (fun M2 hs2 hP2 => ?_)
              rw [mmu_0 rfl] at hP2
              try simp only [zT_push, zT_bin, zT_div, zT_bil, zT_shl, zT_un, zT_i2l, zT_l2i, zT_lcmp, zT_ild, zT_lld, zT_ald, zT_ist, zT_lst, zT_ast, zT_iinc, zT_dup, zT_dup2, zT_pop, zT_if1, zT_if2, zT_ifn, zT_getI, zT_getJ, zT_getR, zT_putI, zT_putZ, zT_putJ, zT_putR, zT_ald0, zT_lald, zT_aald, zT_iast, zT_zast, zT_bast, zT_last, zT_aast, zT_iret, zT_nret, zT_aret, zT_vret, zT_oi, zT_mm, zT_ialX, zT_S1, zT_S2, zT_S3, zT_V0, zT_V1, zT_V2, zT_V3, zT_V4, zT_V5, zT_V6, zT_I0, zT_I1, zT_I2, zlg, zlset, zlpr, zent, zok, va_rf, List.length_cons, List.length_nil, List.replicate, List.cons_append, List.nil_append, List.append_nil, Option.toList_some, Option.toList_none, Option.toList, Nat.reduceAdd, Nat.reduceSub, Nat.reduceLeDiff, Nat.zero_add, Nat.zero_le, true_and, and_true, Nat.le_refl, ge_iff_le, Nat.reduceEqDiff]
              refine S96 J M2 _ acts hj125 (hs.tr hs2.rp) hl (by rw [hs2.2.2.2 14 (by omega)]; exact h14) (hna.ch (hs2.2.2.1 207 (by decide))) hP2 (fun f z => by cases z; exact hg') (fun _ z => by cases z)
          simp only [zB_X8_plan, zb_X8_plan_40, ↓reduceIte, zsh_200, p1, q3, q4, lcmp_eq, Nat.reduceEqDiff, zT_push, zT_bin, zT_div, zT_bil, zT_shl, zT_un, zT_i2l, zT_l2i, zT_lcmp, zT_ild, zT_lld, zT_ald, zT_ist, zT_lst, zT_ast, zT_iinc, zT_dup, zT_dup2, zT_pop, zT_if1, zT_if2, zT_ifn, zT_getI, zT_getJ, zT_getR, zT_putI, zT_putZ, zT_putJ, zT_putR, zT_ald0, zT_lald, zT_aald, zT_iast, zT_zast, zT_bast, zT_last, zT_aast, zT_iret, zT_nret, zT_aret, zT_vret, zT_oi, zT_mm, zT_ialX, zT_S1, zT_S2, zT_S3, zT_V0, zT_V1, zT_V2, zT_V3, zT_V4, zT_V5, zT_V6, zT_I0, zT_I1, zT_I2, zlg, zlset, zlpr, zent, zok, va_rf, List.length_cons, List.length_nil, List.replicate, List.cons_append, List.nil_append, List.append_nil, Option.toList_some, Option.toList_none, Option.toList, Nat.reduceAdd, Nat.reduceSub, Nat.reduceLeDiff, Nat.zero_add, Nat.zero_le, true_and, and_true, Nat.le_refl, ge_iff_le, Nat.reduceEqDiff]
          refine ⟨fun _ => ⟨fun h1 => ⟨fun h2 => ?_, fun h2 => S77 (fun z => h2 (hw7.mpr z).2)⟩, fun h1 => S77 (fun z => h1 (e3.mpr (hw7.mpr z).1))⟩, fun z => absurd trivial z⟩
          have h7 := hw7.mp ⟨e3.mp h1, h2⟩
          have hend : ¬ tp.length ≤ a' := by
            have := (msr_3.mp (e3.mp h1)).1
            omega
          unfold mct' at hg'
          rw [if_neg hend, if_pos h7] at hg'
          refine mnext_use (by rw [eR]; exact r16) (hs.T g4) q2 (wte_bd p3).2.1 (fun M2 hs2 hk2 => ?_)
          have hs3 := hs.tr hs2.ch.rp
          have hP2 : mPs M2 tp (.inr (wno tp a')) := ⟨by rw [hs2.2.2.2 23 (by omega)]; exact p1, by rw [hs2.2.2.2 22 (by omega)]; exact p2, wno_bd p3, hk2⟩
          have h14' : M2.2.1 200 14 = nI acts.length := by rw [hs2.2.2.2 14 (by omega)]; exact h14
          have hna' : mna M2 acts := hna.ch (hs2.2.2.1 207 (by decide))
          simp only [zsh_200, zT_push, zT_bin, zT_div, zT_bil, zT_shl, zT_un, zT_i2l, zT_l2i, zT_lcmp, zT_ild, zT_lld, zT_ald, zT_ist, zT_lst, zT_ast, zT_iinc, zT_dup, zT_dup2, zT_pop, zT_if1, zT_if2, zT_ifn, zT_getI, zT_getJ, zT_getR, zT_putI, zT_putZ, zT_putJ, zT_putR, zT_ald0, zT_lald, zT_aald, zT_iast, zT_zast, zT_bast, zT_last, zT_aast, zT_iret, zT_nret, zT_aret, zT_vret, zT_oi, zT_mm, zT_ialX, zT_S1, zT_S2, zT_S3, zT_V0, zT_V1, zT_V2, zT_V3, zT_V4, zT_V5, zT_V6, zT_I0, zT_I1, zT_I2, zlg, zlset, zlpr, zent, zok, va_rf, List.length_cons, List.length_nil, List.replicate, List.cons_append, List.nil_append, List.append_nil, Option.toList_some, Option.toList_none, Option.toList, Nat.reduceAdd, Nat.reduceSub, Nat.reduceLeDiff, Nat.zero_add, Nat.zero_le, true_and, and_true, Nat.le_refl, ge_iff_le, Nat.reduceEqDiff]
          refine mread_use (by rw [hs3.2.1]; exact r16) (by rw [hs3.2.1]; exact r15) (hs3.T g4) hP2 h14' hl (fun f hf' M4 hs4 hP4 => ?_) (fun t a'' hn20 hA hok M4 hr hP4 => ?_)
          · try simp only [zT_push, zT_bin, zT_div, zT_bil, zT_shl, zT_un, zT_i2l, zT_l2i, zT_lcmp, zT_ild, zT_lld, zT_ald, zT_ist, zT_lst, zT_ast, zT_iinc, zT_dup, zT_dup2, zT_pop, zT_if1, zT_if2, zT_ifn, zT_getI, zT_getJ, zT_getR, zT_putI, zT_putZ, zT_putJ, zT_putR, zT_ald0, zT_lald, zT_aald, zT_iast, zT_zast, zT_bast, zT_last, zT_aast, zT_iret, zT_nret, zT_aret, zT_vret, zT_oi, zT_mm, zT_ialX, zT_S1, zT_S2, zT_S3, zT_V0, zT_V1, zT_V2, zT_V3, zT_V4, zT_V5, zT_V6, zT_I0, zT_I1, zT_I2, zlg, zlset, zlpr, zent, zok, va_rf, List.length_cons, List.length_nil, List.replicate, List.cons_append, List.nil_append, List.append_nil, Option.toList_some, Option.toList_none, Option.toList, Nat.reduceAdd, Nat.reduceSub, Nat.reduceLeDiff, Nat.zero_add, Nat.zero_le, true_and, and_true, Nat.le_refl, ge_iff_le, Nat.reduceEqDiff]
            refine hJ (1000 - acts.length - 100) (by dsimp only; omega) 40 (by simp) _ _ _ (Or.inl ⟨rfl, .inl f, acts, rfl, hs3.tr hs4.rp, hl, by rw [hs4.2.2.2 14 (by omega)]; exact h14', hna'.ch (hs4.2.2.1 207 (by decide)), hP4, fun f' hf'' => ?_, fun _ z => (by cases z), rfl, rfl⟩)
            cases hf''
            rcases hf' with ⟨z1, z2⟩ | ⟨z1, z2⟩
            · rw [hg', z1, z2]
              rfl
            · rw [hg', wrP_s z1, z2]
          · try simp only [zT_push, zT_bin, zT_div, zT_bil, zT_shl, zT_un, zT_i2l, zT_l2i, zT_lcmp, zT_ild, zT_lld, zT_ald, zT_ist, zT_lst, zT_ast, zT_iinc, zT_dup, zT_dup2, zT_pop, zT_if1, zT_if2, zT_ifn, zT_getI, zT_getJ, zT_getR, zT_putI, zT_putZ, zT_putJ, zT_putR, zT_ald0, zT_lald, zT_aald, zT_iast, zT_zast, zT_bast, zT_last, zT_aast, zT_iret, zT_nret, zT_aret, zT_vret, zT_oi, zT_mm, zT_ialX, zT_S1, zT_S2, zT_S3, zT_V0, zT_V1, zT_V2, zT_V3, zT_V4, zT_V5, zT_V6, zT_I0, zT_I1, zT_I2, zlg, zlset, zlpr, zent, zok, va_rf, List.length_cons, List.length_nil, List.replicate, List.cons_append, List.nil_append, List.append_nil, Option.toList_some, Option.toList_none, Option.toList, Nat.reduceAdd, Nat.reduceSub, Nat.reduceLeDiff, Nat.zero_add, Nat.zero_le, true_and, and_true, Nat.le_refl, ge_iff_le, Nat.reduceEqDiff]
            refine hJ (1000 - (acts ++ [t]).length) (by rw [List.length_append, List.length_singleton]; dsimp only; omega) 40 (by simp) _ _ _ (Or.inl ⟨rfl, .inr a'', acts ++ [t], rfl, hs3.tr hr.1, by rw [List.length_append, List.length_singleton]; omega, by rw [List.length_append, List.length_singleton]; exact hr.2.1, hna'.ra hr hok, hP4, fun _ z => (by cases z), fun b hb => ?_, rfl, rfl⟩)
            cases hb
            rw [hg', wrP_s hn20, hA]
      · simp only [zB_X8_plan, zb_X8_plan_125, ↓reduceIte, zsh_200, zsh_202, zsh_203, zsh_204, zsh_205, zsh_206, zsh_207, zwI_R, eR, r9, r10, r11, r12, r13, r15, e8, zwI_L, zwI_I, zwI_J, zwI_R, zwJ_L, zwJ_I, zwJ_J, zwJ_R, zwR_L, zwR_I, zwR_J, zwR_R, zw2_s, zw2_n, ne_eq, not_false_eq_true, reduceCtorEq, not_true_eq_false, Nat.reduceEqDiff, Nat.reduceEqDiff, zT_push, zT_bin, zT_div, zT_bil, zT_shl, zT_un, zT_i2l, zT_l2i, zT_lcmp, zT_ild, zT_lld, zT_ald, zT_ist, zT_lst, zT_ast, zT_iinc, zT_dup, zT_dup2, zT_pop, zT_if1, zT_if2, zT_ifn, zT_getI, zT_getJ, zT_getR, zT_putI, zT_putZ, zT_putJ, zT_putR, zT_ald0, zT_lald, zT_aald, zT_iast, zT_zast, zT_bast, zT_last, zT_aast, zT_iret, zT_nret, zT_aret, zT_vret, zT_oi, zT_mm, zT_ialX, zT_S1, zT_S2, zT_S3, zT_V0, zT_V1, zT_V2, zT_V3, zT_V4, zT_V5, zT_V6, zT_I0, zT_I1, zT_I2, zlg, zlset, zlpr, zent, zok, va_rf, List.length_cons, List.length_nil, List.replicate, List.cons_append, List.nil_append, List.append_nil, Option.toList_some, Option.toList_none, Option.toList, Nat.reduceAdd, Nat.reduceSub, Nat.reduceLeDiff, Nat.zero_add, Nat.zero_le, true_and, and_true, Nat.le_refl, ge_iff_le, Nat.reduceEqDiff]
        have m5 : (5 : Int32) * nI k = nI (5 * k) := pk_mul (a := 5) (b := k)
        have i1 : nI (5 * k) + 1 = nI (5 * k + 1) := nI_add _ 1
        have i2 : nI (5 * k) + 2 = nI (5 * k + 2) := nI_add _ 2
        have i3 : nI (5 * k) + 3 = nI (5 * k + 3) := nI_add _ 3
        have i4 : nI (5 * k) + 4 = nI (5 * k + 4) := nI_add _ 4
        rw [m5, i1, i2, i3, i4, nI_clamp (n := k) (by omega), nI_clamp (n := 5 * k) (by omega), nI_clamp (n := 5 * k + 1) (by omega), nI_clamp (n := 5 * k + 2) (by omega), nI_clamp (n := 5 * k + 3) (by omega), nI_clamp (n := 5 * k + 4) (by omega)]
        refine ⟨fun h1 => ?_, fun h1 => ?_⟩
        · have := zn_ge' h1 (by omega) (by omega)
          have e : k = acts.length := by omega
          subst e
          unfold zc_X8_told
          dsimp only
          refine ⟨rfl, ?_⟩
          have hpos : ¬ nI acts.length < 0 := Int32.not_lt.mpr ((nI_leI (a := 0) (by decide) (by omega)).mpr (Nat.zero_le _))
          rw [if_neg hpos]
          have h2 := h (zwI M' 200 1 0)
          unfold pPlan at h2
          rw [← htp, hw] at h2
          refine h2 (zMF.told (F := ((sW F.1, sH F.1, sL F.1, sS F.1, sF F.1, sG F.1, acts), F.2.1, [], -1, F.2.2.2.2)) ?_ 0)
          obtain ⟨ok, w1, w2, w3, w4, w5, w6, w7⟩ := id g2
          refine ⟨by unfold zMr; rw [eR]; exact g1, ⟨ok, by rw [e0 2 (by omega)]; exact w1, by rw [e0 3 (by omega)]; exact w2, by rw [e0 4 (by omega)]; exact w3, by rw [e0 5 (by omega)]; exact w4, by rw [e0 6 (by omega)]; exact w5, fun e he => by rw [eI 201 (by omega)]; exact w6 e he, e8, hl, fun i u hu => ?_⟩, ?_, ⟨e17, Nat.zero_le _, fun i b hb => (by cases hb)⟩, e22, ?_⟩
          · have hi : i < acts.length := (List.getElem?_eq_some_iff.mp hu).1
            exact ⟨(hna i u hu).1, hc i u hi hu⟩
          · unfold zME
            rw [e0 31 (by omega), eI 216 (by omega), eI 217 (by omega), eI 218 (by omega), eI 219 (by omega)]
            exact g3
          · rw [e0 1 (by omega)]; exact g6
        · have hlt := zn_ge h1 (by omega) (by omega)
          obtain ⟨t, ht⟩ : ∃ t, acts[k]? = some t := ⟨_, List.getElem?_eq_getElem hlt⟩
          obtain ⟨hok, n0, n1, n2, n3, n4⟩ := hna k t ht
          rw [n0, n1, n2, n3, n4]
          have hin : vp_in (nI k) 20 := vp_in_nI (by omega) (by decide)
          refine ⟨vp_in_nI (by omega) (by decide), hin, vp_in_nI (by omega) (by decide), hin, vp_in_nI (by omega) (by decide), hin, vp_in_nI (by omega) (by decide), hin, vp_in_nI (by omega) (by decide), hin, hJ (500 - (k + 1)) (by omega) 125 (by simp) _ _ _ (Or.inr ⟨rfl, acts, k + 1, rfl, hlt, hl, hw, ⟨eR, fun k' hk' => ?_, fun j hj => ?_, ?_, ?_, ?_, hna.ch ?_, fun i u hi hu => ?_⟩, by rw [nI_1], rfl⟩)⟩
          · simp only [zwI_I]
            rw [zw2_n (by omega), zw2_n (by omega), zw2_n (by omega), zw2_n (by omega), zw2_n (by omega)]
            exact eI k' hk'
          · simp only [zwI_L, zwI_I, zwI_J, zwI_R, zwJ_L, zwJ_I, zwJ_J, zwJ_R, zwR_L, zwR_I, zwR_J, zwR_R, zw2_s, zw2_n, ne_eq, not_false_eq_true, reduceCtorEq, not_true_eq_false, Nat.reduceEqDiff]; exact e0 j hj
          · simp only [zwI_L, zwI_I, zwI_J, zwI_R, zwJ_L, zwJ_I, zwJ_J, zwJ_R, zwR_L, zwR_I, zwR_J, zwR_R, zw2_s, zw2_n, ne_eq, not_false_eq_true, reduceCtorEq, not_true_eq_false, Nat.reduceEqDiff]; exact e8
          · simp only [zwI_L, zwI_I, zwI_J, zwI_R, zwJ_L, zwJ_I, zwJ_J, zwJ_R, zwR_L, zwR_I, zwR_J, zwR_R, zw2_s, zw2_n, ne_eq, not_false_eq_true, reduceCtorEq, not_true_eq_false, Nat.reduceEqDiff]; exact e17
          · simp only [zwI_L, zwI_I, zwI_J, zwI_R, zwJ_L, zwJ_I, zwJ_J, zwJ_R, zwR_L, zwR_I, zwR_J, zwR_R, zw2_s, zw2_n, ne_eq, not_false_eq_true, reduceCtorEq, not_true_eq_false, Nat.reduceEqDiff]; exact e22
          · simp only [zwI_L, zwI_I, zwI_J, zwI_R, zwJ_L, zwJ_I, zwJ_J, zwJ_R, zwR_L, zwR_I, zwR_J, zwR_R, zw2_s, zw2_n, ne_eq, not_false_eq_true, reduceCtorEq, not_true_eq_false, Nat.reduceEqDiff]
          · simp only [zwI_L, zwI_I, zwI_J, zwI_R, zwJ_L, zwJ_I, zwJ_J, zwJ_R, zwR_L, zwR_I, zwR_J, zwR_R, zw2_s, zw2_n, ne_eq, not_false_eq_true, reduceCtorEq, not_true_eq_false, Nat.reduceEqDiff]
            by_cases z : i = k
            · subst z
              rw [ht] at hu
              cases hu
              rw [zup_s, zup_s, zup_s, zup_s, zup_s]
              exact ⟨rfl, rfl, rfl, rfl, rfl⟩
            · rw [zup_n z, zup_n z, zup_n z, zup_n z, zup_n z]
              exact hc i u (by omega) hu
    · intro J hJ
      simp only [zb_X8_plan_0, zsh_200, hM1, zT_push, zT_bin, zT_div, zT_bil, zT_shl, zT_un, zT_i2l, zT_l2i, zT_lcmp, zT_ild, zT_lld, zT_ald, zT_ist, zT_lst, zT_ast, zT_iinc, zT_dup, zT_dup2, zT_pop, zT_if1, zT_if2, zT_ifn, zT_getI, zT_getJ, zT_getR, zT_putI, zT_putZ, zT_putJ, zT_putR, zT_ald0, zT_lald, zT_aald, zT_iast, zT_zast, zT_bast, zT_last, zT_aast, zT_iret, zT_nret, zT_aret, zT_vret, zT_oi, zT_mm, zT_ialX, zT_S1, zT_S2, zT_S3, zT_V0, zT_V1, zT_V2, zT_V3, zT_V4, zT_V5, zT_V6, zT_I0, zT_I1, zT_I2, zlg, zlset, zlpr, zent, zok, va_rf, List.length_cons, List.length_nil, List.replicate, List.cons_append, List.nil_append, List.append_nil, Option.toList_some, Option.toList_none, Option.toList, Nat.reduceAdd, Nat.reduceSub, Nat.reduceLeDiff, Nat.zero_add, Nat.zero_le, true_and, and_true, Nat.le_refl, ge_iff_le, Nat.reduceEqDiff]
      have hs0 : mrp M1 (zwI (zwI (zwI (zwI M1 200 19 0) 200 23 0) 200 22 (-1)) 200 14 0) := (((mrp.rf.w (by omega)).w (by omega)).w (by omega)).w (by omega)
      have k19 : (zwI (zwI (zwI (zwI M1 200 19 0) 200 23 0) 200 22 (-1)) 200 14 0).2.1 200 19 = nI 0 := by simp only [zwI_L, zwI_I, zwI_J, zwI_R, zwJ_L, zwJ_I, zwJ_J, zwJ_R, zwR_L, zwR_I, zwR_J, zwR_R, zw2_s, zw2_n, ne_eq, not_false_eq_true, reduceCtorEq, not_true_eq_false, Nat.reduceEqDiff, zup_s, zup_n]; rfl
      have k23 : (zwI (zwI (zwI (zwI M1 200 19 0) 200 23 0) 200 22 (-1)) 200 14 0).2.1 200 23 = 0 := by simp only [zwI_L, zwI_I, zwI_J, zwI_R, zwJ_L, zwJ_I, zwJ_J, zwJ_R, zwR_L, zwR_I, zwR_J, zwR_R, zw2_s, zw2_n, ne_eq, not_false_eq_true, reduceCtorEq, not_true_eq_false, Nat.reduceEqDiff, zup_s, zup_n]
      have k22 : (zwI (zwI (zwI (zwI M1 200 19 0) 200 23 0) 200 22 (-1)) 200 14 0).2.1 200 22 = -1 := by simp only [zwI_L, zwI_I, zwI_J, zwI_R, zwJ_L, zwJ_I, zwJ_J, zwJ_R, zwR_L, zwR_I, zwR_J, zwR_R, zw2_s, zw2_n, ne_eq, not_false_eq_true, reduceCtorEq, not_true_eq_false, Nat.reduceEqDiff, zup_s, zup_n]
      have k14 : (zwI (zwI (zwI (zwI M1 200 19 0) 200 23 0) 200 22 (-1)) 200 14 0).2.1 200 14 = nI 0 := by simp only [zwI_L, zwI_I, zwI_J, zwI_R, zwJ_L, zwJ_I, zwJ_J, zwJ_R, zwR_L, zwR_I, zwR_J, zwR_R, zw2_s, zw2_n, ne_eq, not_false_eq_true, reduceCtorEq, not_true_eq_false, Nat.reduceEqDiff, zup_s, zup_n]; rfl
      generalize zwI (zwI (zwI (zwI M1 200 19 0) 200 23 0) 200 22 (-1)) 200 14 0 = M0 at hs0 k19 k23 k22 k14 ⊢
      refine ⟨Or.inl trivial, mnext_use (by rw [hs0.2.1]; exact r16) (hs0.T g4) k19 (Nat.zero_le _) (fun M2 hs2 hk2 => ?_)⟩
      have hs3 := hs0.tr hs2.ch.rp
      have ha := wsk_bd (tp := tp) (s := 0) (Nat.zero_le _)
      have hP2 : mPs M2 tp (.inr (wsk tp 0)) := ⟨by rw [hs2.2.2.2 23 (by omega)]; exact k23, by rw [hs2.2.2.2 22 (by omega)]; exact k22, ha.2, hk2⟩
      have h14' : M2.2.1 200 14 = nI ([] : List wAc).length := by rw [hs2.2.2.2 14 (by omega)]; exact k14
      have hna' : mna M2 [] := fun i t ht => by cases ht
      have hle := msr_le (tp := tp) (a := wsk tp 0)
      have e0 : nI (msr tp (wsk tp 0)) = 0 ↔ msr tp (wsk tp 0) = 0 := nI_eq (b := 0) (by omega) (by decide)
      rw [hk2.2.2.1]
      refine ⟨fun h1 => ?_, fun h1 => ?_⟩
      · have hend := msr_0.mp (e0.mp h1)
        have hw : wrT tp = .inr [] := by unfold wrT; rw [if_pos hend]
        exact S96 J M2 _ [] (fun M'' z1 z2 => hJ 500 125 (by simp) _ _ _ (Or.inr ⟨rfl, [], 0, rfl, Nat.zero_le _, Nat.zero_le _, z1, z2, rfl, rfl⟩)) hs3 (Nat.zero_le _) h14' hna' hP2 (fun f z => by cases z) (fun _ _ => hw)
      · have hend : ¬ tp.length ≤ wsk tp 0 := fun z => h1 (e0.mpr (msr_0.mpr z))
        have hw : wrT tp = wrP tp (20 - ([] : List wAc).length) (wsk tp 0) [] := by unfold wrT; rw [if_neg hend]; rfl
        refine ⟨Nat.zero_le _, mread_use (by rw [hs3.2.1]; exact r16) (by rw [hs3.2.1]; exact r15) (hs3.T g4) hP2 h14' (Nat.zero_le _) (fun f hf' M4 hs4 hP4 => ?_) (fun t a'' hn20 hA hok M4 hr hP4 => ?_)⟩
        · try simp only [zT_push, zT_bin, zT_div, zT_bil, zT_shl, zT_un, zT_i2l, zT_l2i, zT_lcmp, zT_ild, zT_lld, zT_ald, zT_ist, zT_lst, zT_ast, zT_iinc, zT_dup, zT_dup2, zT_pop, zT_if1, zT_if2, zT_ifn, zT_getI, zT_getJ, zT_getR, zT_putI, zT_putZ, zT_putJ, zT_putR, zT_ald0, zT_lald, zT_aald, zT_iast, zT_zast, zT_bast, zT_last, zT_aast, zT_iret, zT_nret, zT_aret, zT_vret, zT_oi, zT_mm, zT_ialX, zT_S1, zT_S2, zT_S3, zT_V0, zT_V1, zT_V2, zT_V3, zT_V4, zT_V5, zT_V6, zT_I0, zT_I1, zT_I2, zlg, zlset, zlpr, zent, zok, va_rf, List.length_cons, List.length_nil, List.replicate, List.cons_append, List.nil_append, List.append_nil, Option.toList_some, Option.toList_none, Option.toList, Nat.reduceAdd, Nat.reduceSub, Nat.reduceLeDiff, Nat.zero_add, Nat.zero_le, true_and, and_true, Nat.le_refl, ge_iff_le, Nat.reduceEqDiff]
          refine hJ _ 40 (by simp) _ _ _ (Or.inl ⟨rfl, .inl f, [], rfl, hs3.tr hs4.rp, Nat.zero_le _, by rw [hs4.2.2.2 14 (by omega)]; exact h14', hna'.ch (hs4.2.2.1 207 (by decide)), hP4, fun f' hf'' => ?_, fun _ z => (by cases z), rfl, rfl⟩)
          cases hf''
          rcases hf' with ⟨z1, z2⟩ | ⟨z1, z2⟩
          · exact absurd z1 (by decide)
          · rw [hw, wrP_s (by decide), z2]
        · try simp only [zT_push, zT_bin, zT_div, zT_bil, zT_shl, zT_un, zT_i2l, zT_l2i, zT_lcmp, zT_ild, zT_lld, zT_ald, zT_ist, zT_lst, zT_ast, zT_iinc, zT_dup, zT_dup2, zT_pop, zT_if1, zT_if2, zT_ifn, zT_getI, zT_getJ, zT_getR, zT_putI, zT_putZ, zT_putJ, zT_putR, zT_ald0, zT_lald, zT_aald, zT_iast, zT_zast, zT_bast, zT_last, zT_aast, zT_iret, zT_nret, zT_aret, zT_vret, zT_oi, zT_mm, zT_ialX, zT_S1, zT_S2, zT_S3, zT_V0, zT_V1, zT_V2, zT_V3, zT_V4, zT_V5, zT_V6, zT_I0, zT_I1, zT_I2, zlg, zlset, zlpr, zent, zok, va_rf, List.length_cons, List.length_nil, List.replicate, List.cons_append, List.nil_append, List.append_nil, Option.toList_some, Option.toList_none, Option.toList, Nat.reduceAdd, Nat.reduceSub, Nat.reduceLeDiff, Nat.zero_add, Nat.zero_le, true_and, and_true, Nat.le_refl, ge_iff_le, Nat.reduceEqDiff]
          refine hJ _ 40 (by simp) _ _ _ (Or.inl ⟨rfl, .inr a'', [] ++ [t], rfl, hs3.tr hr.1, (by show 0 + 1 ≤ 20; decide), hr.2.1.trans (by rfl), hna'.ra hr hok, hP4, fun _ z => (by cases z), fun b hb => ?_, rfl, rfl⟩)
          cases hb
          rw [hw, wrP_s (by decide), hA]
  · exact h.elim
