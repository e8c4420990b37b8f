/-! DeltaRunsModel compare -/
theorem zd_X8_compare_0 : decode cX8_compare 0 = .ok (.aload_n 0, 1) := by decide +kernel
theorem zd_X8_compare_1 : decode cX8_compare 1 = .ok (.getfield 84, 3) := by decide +kernel
theorem zd_X8_compare_4 : decode cX8_compare 4 = .ok (.iload_n 1, 1) := by decide +kernel
theorem zd_X8_compare_5 : decode cX8_compare 5 = .ok (.iconst 0, 1) := by decide +kernel
theorem zd_X8_compare_6 : decode cX8_compare 6 = .ok (.iastore, 1) := by decide +kernel
theorem zd_X8_compare_7 : decode cX8_compare 7 = .ok (.aload_n 0, 1) := by decide +kernel
theorem zd_X8_compare_8 : decode cX8_compare 8 = .ok (.getfield 87, 3) := by decide +kernel
theorem zd_X8_compare_11 : decode cX8_compare 11 = .ok (.iload_n 1, 1) := by decide +kernel
theorem zd_X8_compare_12 : decode cX8_compare 12 = .ok (.iconst (-1), 1) := by decide +kernel
theorem zd_X8_compare_13 : decode cX8_compare 13 = .ok (.iastore, 1) := by decide +kernel
theorem zd_X8_compare_14 : decode cX8_compare 14 = .ok (.aload_n 0, 1) := by decide +kernel
theorem zd_X8_compare_15 : decode cX8_compare 15 = .ok (.invokevirtual 215, 3) := by decide +kernel
theorem zd_X8_compare_18 : decode cX8_compare 18 = .ok (.iconst 0, 1) := by decide +kernel
theorem zd_X8_compare_19 : decode cX8_compare 19 = .ok (.istore_n 3, 1) := by decide +kernel
theorem zd_X8_compare_20 : decode cX8_compare 20 = .ok (.iconst 0, 1) := by decide +kernel
theorem zd_X8_compare_21 : decode cX8_compare 21 = .ok (.istore 4, 2) := by decide +kernel
theorem zd_X8_compare_23 : decode cX8_compare 23 = .ok (.iload 4, 2) := by decide +kernel
theorem zd_X8_compare_25 : decode cX8_compare 25 = .ok (.aload_n 0, 1) := by decide +kernel
theorem zd_X8_compare_26 : decode cX8_compare 26 = .ok (.getfield 102, 3) := by decide +kernel
theorem zd_X8_compare_29 : decode cX8_compare 29 = .ok (.if_icmp .ge 43, 3) := by decide +kernel
theorem zd_X8_compare_32 : decode cX8_compare 32 = .ok (.aload_n 0, 1) := by decide +kernel
theorem zd_X8_compare_33 : decode cX8_compare 33 = .ok (.getfield 81, 3) := by decide +kernel
theorem zd_X8_compare_36 : decode cX8_compare 36 = .ok (.iload 4, 2) := by decide +kernel
theorem zd_X8_compare_38 : decode cX8_compare 38 = .ok (.iaload, 1) := by decide +kernel
theorem zd_X8_compare_39 : decode cX8_compare 39 = .ok (.iload_n 2, 1) := by decide +kernel
theorem zd_X8_compare_40 : decode cX8_compare 40 = .ok (.if_icmp .gt 24, 3) := by decide +kernel
theorem zd_X8_compare_43 : decode cX8_compare 43 = .ok (.aload_n 0, 1) := by decide +kernel
theorem zd_X8_compare_44 : decode cX8_compare 44 = .ok (.getfield 72, 3) := by decide +kernel
theorem zd_X8_compare_47 : decode cX8_compare 47 = .ok (.iload 4, 2) := by decide +kernel
theorem zd_X8_compare_49 : decode cX8_compare 49 = .ok (.iaload, 1) := by decide +kernel
theorem zd_X8_compare_50 : decode cX8_compare 50 = .ok (.iload_n 3, 1) := by decide +kernel
theorem zd_X8_compare_51 : decode cX8_compare 51 = .ok (.if_icmp .le 13, 3) := by decide +kernel
theorem zd_X8_compare_54 : decode cX8_compare 54 = .ok (.aload_n 0, 1) := by decide +kernel
theorem zd_X8_compare_55 : decode cX8_compare 55 = .ok (.getfield 72, 3) := by decide +kernel
theorem zd_X8_compare_58 : decode cX8_compare 58 = .ok (.iload 4, 2) := by decide +kernel
theorem zd_X8_compare_60 : decode cX8_compare 60 = .ok (.iaload, 1) := by decide +kernel
theorem zd_X8_compare_61 : decode cX8_compare 61 = .ok (.goto 4, 3) := by decide +kernel
theorem zd_X8_compare_64 : decode cX8_compare 64 = .ok (.iload_n 3, 1) := by decide +kernel
theorem zd_X8_compare_65 : decode cX8_compare 65 = .ok (.istore_n 3, 1) := by decide +kernel
theorem zd_X8_compare_66 : decode cX8_compare 66 = .ok (.iinc 4 1, 3) := by decide +kernel
theorem zd_X8_compare_69 : decode cX8_compare 69 = .ok (.goto (-46), 3) := by decide +kernel
theorem zd_X8_compare_72 : decode cX8_compare 72 = .ok (.iconst 0, 1) := by decide +kernel
theorem zd_X8_compare_73 : decode cX8_compare 73 = .ok (.istore 4, 2) := by decide +kernel
theorem zd_X8_compare_75 : decode cX8_compare 75 = .ok (.iload 4, 2) := by decide +kernel
theorem zd_X8_compare_77 : decode cX8_compare 77 = .ok (.iload_n 3, 1) := by decide +kernel
theorem zd_X8_compare_78 : decode cX8_compare 78 = .ok (.if_icmp .gt 131, 3) := by decide +kernel
theorem zd_X8_compare_81 : decode cX8_compare 81 = .ok (.iload 4, 2) := by decide +kernel
theorem zd_X8_compare_83 : decode cX8_compare 83 = .ok (.ifCond .le 10, 3) := by decide +kernel
theorem zd_X8_compare_86 : decode cX8_compare 86 = .ok (.aload_n 0, 1) := by decide +kernel
theorem zd_X8_compare_87 : decode cX8_compare 87 = .ok (.iload_n 1, 1) := by decide +kernel
theorem zd_X8_compare_88 : decode cX8_compare 88 = .ok (.iload 4, 2) := by decide +kernel
theorem zd_X8_compare_90 : decode cX8_compare 90 = .ok (.invokevirtual 218, 3) := by decide +kernel
theorem zd_X8_compare_93 : decode cX8_compare 93 = .ok (.iconst 0, 1) := by decide +kernel
theorem zd_X8_compare_94 : decode cX8_compare 94 = .ok (.istore 5, 2) := by decide +kernel
theorem zd_X8_compare_96 : decode cX8_compare 96 = .ok (.iload 5, 2) := by decide +kernel
theorem zd_X8_compare_98 : decode cX8_compare 98 = .ok (.aload_n 0, 1) := by decide +kernel
theorem zd_X8_compare_99 : decode cX8_compare 99 = .ok (.getfield 102, 3) := by decide +kernel
theorem zd_X8_compare_102 : decode cX8_compare 102 = .ok (.if_icmp .ge 101, 3) := by decide +kernel
theorem zd_X8_compare_105 : decode cX8_compare 105 = .ok (.aload_n 0, 1) := by decide +kernel
theorem zd_X8_compare_106 : decode cX8_compare 106 = .ok (.getfield 72, 3) := by decide +kernel
theorem zd_X8_compare_109 : decode cX8_compare 109 = .ok (.iload 5, 2) := by decide +kernel
theorem zd_X8_compare_111 : decode cX8_compare 111 = .ok (.iaload, 1) := by decide +kernel
theorem zd_X8_compare_112 : decode cX8_compare 112 = .ok (.iload 4, 2) := by decide +kernel
theorem zd_X8_compare_114 : decode cX8_compare 114 = .ok (.if_icmp .ne 83, 3) := by decide +kernel
theorem zd_X8_compare_117 : decode cX8_compare 117 = .ok (.aload_n 0, 1) := by decide +kernel
theorem zd_X8_compare_118 : decode cX8_compare 118 = .ok (.getfield 81, 3) := by decide +kernel
theorem zd_X8_compare_121 : decode cX8_compare 121 = .ok (.iload 5, 2) := by decide +kernel
theorem zd_X8_compare_123 : decode cX8_compare 123 = .ok (.iaload, 1) := by decide +kernel
theorem zd_X8_compare_124 : decode cX8_compare 124 = .ok (.iload_n 2, 1) := by decide +kernel
theorem zd_X8_compare_125 : decode cX8_compare 125 = .ok (.if_icmp .gt 72, 3) := by decide +kernel
theorem zd_X8_compare_128 : decode cX8_compare 128 = .ok (.aload_n 0, 1) := by decide +kernel
theorem zd_X8_compare_129 : decode cX8_compare 129 = .ok (.getfield 50, 3) := by decide +kernel
theorem zd_X8_compare_132 : decode cX8_compare 132 = .ok (.aload_n 0, 1) := by decide +kernel
theorem zd_X8_compare_133 : decode cX8_compare 133 = .ok (.getfield 75, 3) := by decide +kernel
theorem zd_X8_compare_136 : decode cX8_compare 136 = .ok (.iload 5, 2) := by decide +kernel
theorem zd_X8_compare_138 : decode cX8_compare 138 = .ok (.iaload, 1) := by decide +kernel
theorem zd_X8_compare_139 : decode cX8_compare 139 = .ok (.iaload, 1) := by decide +kernel
theorem zd_X8_compare_140 : decode cX8_compare 140 = .ok (.aload_n 0, 1) := by decide +kernel
theorem zd_X8_compare_141 : decode cX8_compare 141 = .ok (.getfield 78, 3) := by decide +kernel
theorem zd_X8_compare_144 : decode cX8_compare 144 = .ok (.iload 5, 2) := by decide +kernel
theorem zd_X8_compare_146 : decode cX8_compare 146 = .ok (.iaload, 1) := by decide +kernel
theorem zd_X8_compare_147 : decode cX8_compare 147 = .ok (.if_icmp .eq 50, 3) := by decide +kernel
theorem zd_X8_compare_150 : decode cX8_compare 150 = .ok (.aload_n 0, 1) := by decide +kernel
theorem zd_X8_compare_151 : decode cX8_compare 151 = .ok (.getfield 84, 3) := by decide +kernel
theorem zd_X8_compare_154 : decode cX8_compare 154 = .ok (.iload_n 1, 1) := by decide +kernel
theorem zd_X8_compare_155 : decode cX8_compare 155 = .ok (.dup2, 1) := by decide +kernel
theorem zd_X8_compare_156 : decode cX8_compare 156 = .ok (.iaload, 1) := by decide +kernel
theorem zd_X8_compare_157 : decode cX8_compare 157 = .ok (.iconst 1, 1) := by decide +kernel
theorem zd_X8_compare_158 : decode cX8_compare 158 = .ok (.iadd, 1) := by decide +kernel
theorem zd_X8_compare_159 : decode cX8_compare 159 = .ok (.iastore, 1) := by decide +kernel
theorem zd_X8_compare_160 : decode cX8_compare 160 = .ok (.aload_n 0, 1) := by decide +kernel
theorem zd_X8_compare_161 : decode cX8_compare 161 = .ok (.getfield 87, 3) := by decide +kernel
theorem zd_X8_compare_164 : decode cX8_compare 164 = .ok (.iload_n 1, 1) := by decide +kernel
theorem zd_X8_compare_165 : decode cX8_compare 165 = .ok (.aload_n 0, 1) := by decide +kernel
theorem zd_X8_compare_166 : decode cX8_compare 166 = .ok (.getfield 87, 3) := by decide +kernel
theorem zd_X8_compare_169 : decode cX8_compare 169 = .ok (.iload_n 1, 1) := by decide +kernel
theorem zd_X8_compare_170 : decode cX8_compare 170 = .ok (.iaload, 1) := by decide +kernel
theorem zd_X8_compare_171 : decode cX8_compare 171 = .ok (.ifCond .lt 14, 3) := by decide +kernel
theorem zd_X8_compare_174 : decode cX8_compare 174 = .ok (.iload 5, 2) := by decide +kernel
theorem zd_X8_compare_176 : decode cX8_compare 176 = .ok (.aload_n 0, 1) := by decide +kernel
theorem zd_X8_compare_177 : decode cX8_compare 177 = .ok (.getfield 87, 3) := by decide +kernel
theorem zd_X8_compare_180 : decode cX8_compare 180 = .ok (.iload_n 1, 1) := by decide +kernel
theorem zd_X8_compare_181 : decode cX8_compare 181 = .ok (.iaload, 1) := by decide +kernel
theorem zd_X8_compare_182 : decode cX8_compare 182 = .ok (.if_icmp .ge 8, 3) := by decide +kernel
theorem zd_X8_compare_185 : decode cX8_compare 185 = .ok (.iload 5, 2) := by decide +kernel
theorem zd_X8_compare_187 : decode cX8_compare 187 = .ok (.goto 9, 3) := by decide +kernel
theorem zd_X8_compare_190 : decode cX8_compare 190 = .ok (.aload_n 0, 1) := by decide +kernel
theorem zd_X8_compare_191 : decode cX8_compare 191 = .ok (.getfield 87, 3) := by decide +kernel
theorem zd_X8_compare_194 : decode cX8_compare 194 = .ok (.iload_n 1, 1) := by decide +kernel
theorem zd_X8_compare_195 : decode cX8_compare 195 = .ok (.iaload, 1) := by decide +kernel
theorem zd_X8_compare_196 : decode cX8_compare 196 = .ok (.iastore, 1) := by decide +kernel
theorem zd_X8_compare_197 : decode cX8_compare 197 = .ok (.iinc 5 1, 3) := by decide +kernel
theorem zd_X8_compare_200 : decode cX8_compare 200 = .ok (.goto (-104), 3) := by decide +kernel
theorem zd_X8_compare_203 : decode cX8_compare 203 = .ok (.iinc 4 1, 3) := by decide +kernel
theorem zd_X8_compare_206 : decode cX8_compare 206 = .ok (.goto (-131), 3) := by decide +kernel
theorem zd_X8_compare_209 : decode cX8_compare 209 = .ok (.return_, 1) := by decide +kernel
def zb_X8_compare_0 (K : zKt) (J : Nat → zPP) : zPP := zT_ald 0 (zT_getR 8 36 38 (zT_ild 1 (zT_push (.int 0) (zT_iast (zT_ald 0 (zT_getR 8 37 38 (zT_ild 1 (zT_push (.int (-1)) (zT_iast (zT_ald 0 (zT_V0 zok 8 38 zc_X8_begin (zT_push (.int 0) (zT_ist 3 (zT_push (.int 0) (zT_ist 4 (J 23))))))))))))))))
theorem zbs_X8_compare_0 {X : zCt} (hR : zRX X = { frames := 5, cells := 0, slots := 0, locals := 126 }) (J : Nat → zPP) (hJ : ∀ h ∈ ([23, 75, 96] : List Nat), zSd X RX8 "compare" cX8_compare 6 none h (J h)) : zSd X RX8 "compare" cX8_compare 6 none 0 (zb_X8_compare_0 (zKX X) J) := zs_aload_n zd_X8_compare_0 rfl (zs_getR (ci := 8) (j := 36) (T := TX8) rfl inX8 (by decide) gw_3_125 rfl zd_X8_compare_1 (zs_iload_n zd_X8_compare_4 rfl (zs_iconst zd_X8_compare_5 (by decide) (zs_iast zd_X8_compare_6 (zs_aload_n zd_X8_compare_7 rfl (zs_getR (ci := 8) (j := 37) (T := TX8) rfl inX8 (by decide) gw_3_126 rfl zd_X8_compare_8 (zs_iload_n zd_X8_compare_11 rfl (zs_iconst zd_X8_compare_12 (by decide) (zs_iast zd_X8_compare_13 (zs_aload_n zd_X8_compare_14 rfl (zs_V (ci := 8) rfl rfl (zm_X8_begin _ _ _) gw_4_68 gw_4_65 gw_4_67 gw_0_32 gw_1_7 zdn_X8_begin (zrm hR (by decide) (by decide)) zd_X8_compare_15 (zCl_V0 zok_l) (zs_iconst zd_X8_compare_18 (by decide) (zs_istore_n zd_X8_compare_19 rfl (by decide) (zs_iconst zd_X8_compare_20 (by decide) (zs_istore zd_X8_compare_21 (by decide) (hJ 23 (by decide)))))))))))))))))
def zb_X8_compare_65 (K : zKt) (J : Nat → zPP) : zPP := zT_ist 3 (zT_iinc 4 1 (J 23))
theorem zbs_X8_compare_65 {X : zCt} (hR : zRX X = { frames := 5, cells := 0, slots := 0, locals := 126 }) (J : Nat → zPP) (hJ : ∀ h ∈ ([23, 75, 96] : List Nat), zSd X RX8 "compare" cX8_compare 6 none h (J h)) : zSd X RX8 "compare" cX8_compare 6 none 65 (zb_X8_compare_65 (zKX X) J) := zs_istore_n zd_X8_compare_65 rfl (by decide) (zs_iinc zd_X8_compare_66 (by decide) (by decide) (zs_goto (tgt := 23) zd_X8_compare_69 (by decide) (hJ 23 (by decide))))
def zb_X8_compare_64 (K : zKt) (J : Nat → zPP) : zPP := zT_ild 3 (zb_X8_compare_65 K J)
theorem zbs_X8_compare_64 {X : zCt} (hR : zRX X = { frames := 5, cells := 0, slots := 0, locals := 126 }) (J : Nat → zPP) (hJ : ∀ h ∈ ([23, 75, 96] : List Nat), zSd X RX8 "compare" cX8_compare 6 none h (J h)) : zSd X RX8 "compare" cX8_compare 6 none 64 (zb_X8_compare_64 (zKX X) J) := zs_iload_n zd_X8_compare_64 rfl (zbs_X8_compare_65 hR J hJ)
def zb_X8_compare_23 (K : zKt) (J : Nat → zPP) : zPP := zT_ild 4 (zT_ald 0 (zT_getI 8 31 38 (zT_if2 (fun x y => y ≤ x) (zT_push (.int 0) (zT_ist 4 (J 75))) (zT_ald 0 (zT_getR 8 35 38 (zT_ild 4 (zT_ald0 0 (zT_ild 2 (zT_if2 (fun x y => y < x) (zb_X8_compare_64 K J) (zT_ald 0 (zT_getR 8 32 38 (zT_ild 4 (zT_ald0 0 (zT_ild 3 (zT_if2 (fun x y => x ≤ y) (zb_X8_compare_64 K J) (zT_ald 0 (zT_getR 8 32 38 (zT_ild 4 (zT_ald0 0 (zb_X8_compare_65 K J))))))))))))))))))))
theorem zbs_X8_compare_23 {X : zCt} (hR : zRX X = { frames := 5, cells := 0, slots := 0, locals := 126 }) (J : Nat → zPP) (hJ : ∀ h ∈ ([23, 75, 96] : List Nat), zSd X RX8 "compare" cX8_compare 6 none h (J h)) : zSd X RX8 "compare" cX8_compare 6 none 23 (zb_X8_compare_23 (zKX X) J) := zs_iload zd_X8_compare_23 (zs_aload_n zd_X8_compare_25 rfl (zs_getI (ci := 8) (j := 31) (T := TX8) rfl inX8 (by decide) gw_3_120 rfl zd_X8_compare_26 (zs_icmp_ge (tgt := 72) zd_X8_compare_29 (by decide) (zs_iconst zd_X8_compare_72 (by decide) (zs_istore zd_X8_compare_73 (by decide) (hJ 75 (by decide)))) (zs_aload_n zd_X8_compare_32 rfl (zs_getR (ci := 8) (j := 35) (T := TX8) rfl inX8 (by decide) gw_3_124 rfl zd_X8_compare_33 (zs_iload zd_X8_compare_36 (zs_iald zd_X8_compare_38 (zs_iload_n zd_X8_compare_39 rfl (zs_icmp_gt (tgt := 64) zd_X8_compare_40 (by decide) (zbs_X8_compare_64 hR J hJ) (zs_aload_n zd_X8_compare_43 rfl (zs_getR (ci := 8) (j := 32) (T := TX8) rfl inX8 (by decide) gw_3_121 rfl zd_X8_compare_44 (zs_iload zd_X8_compare_47 (zs_iald zd_X8_compare_49 (zs_iload_n zd_X8_compare_50 rfl (zs_icmp_le (tgt := 64) zd_X8_compare_51 (by decide) (zbs_X8_compare_64 hR J hJ) (zs_aload_n zd_X8_compare_54 rfl (zs_getR (ci := 8) (j := 32) (T := TX8) rfl inX8 (by decide) gw_3_121 rfl zd_X8_compare_55 (zs_iload zd_X8_compare_58 (zs_iald zd_X8_compare_60 (zs_goto (tgt := 65) zd_X8_compare_61 (by decide) (zbs_X8_compare_65 hR J hJ)))))))))))))))))))))
def zb_X8_compare_93 (K : zKt) (J : Nat → zPP) : zPP := zT_push (.int 0) (zT_ist 5 (J 96))
theorem zbs_X8_compare_93 {X : zCt} (hR : zRX X = { frames := 5, cells := 0, slots := 0, locals := 126 }) (J : Nat → zPP) (hJ : ∀ h ∈ ([23, 75, 96] : List Nat), zSd X RX8 "compare" cX8_compare 6 none h (J h)) : zSd X RX8 "compare" cX8_compare 6 none 93 (zb_X8_compare_93 (zKX X) J) := zs_iconst zd_X8_compare_93 (by decide) (zs_istore zd_X8_compare_94 (by decide) (hJ 96 (by decide)))
def zb_X8_compare_75 (K : zKt) (J : Nat → zPP) : zPP := zT_ild 4 (zT_ild 3 (zT_if2 (fun x y => y < x) (zT_vret K) (zT_ild 4 (zT_if1 (fun x => x ≤ 0) (zb_X8_compare_93 K J) (zT_ald 0 (zT_ild 1 (zT_ild 4 (zT_V2 zok 8 38 zc_X8_year (zb_X8_compare_93 K J)))))))))
theorem zbs_X8_compare_75 {X : zCt} (hR : zRX X = { frames := 5, cells := 0, slots := 0, locals := 126 }) (J : Nat → zPP) (hJ : ∀ h ∈ ([23, 75, 96] : List Nat), zSd X RX8 "compare" cX8_compare 6 none h (J h)) : zSd X RX8 "compare" cX8_compare 6 none 75 (zb_X8_compare_75 (zKX X) J) := zs_iload zd_X8_compare_75 (zs_iload_n zd_X8_compare_77 rfl (zs_icmp_gt (tgt := 209) zd_X8_compare_78 (by decide) (zs_vret rfl zd_X8_compare_209) (zs_iload zd_X8_compare_81 (zs_if_le (tgt := 93) zd_X8_compare_83 (by decide) (zbs_X8_compare_93 hR J hJ) (zs_aload_n zd_X8_compare_86 rfl (zs_iload_n zd_X8_compare_87 rfl (zs_iload zd_X8_compare_88 (zs_V (ci := 8) rfl rfl (zm_X8_year _ _ _) gw_4_72 gw_4_69 gw_4_71 gw_0_33 gw_1_7 zdn_X8_year (zrm hR (by decide) (by decide)) zd_X8_compare_90 (zCl_V2 zok_l) (zbs_X8_compare_93 hR J hJ)))))))))
def zb_X8_compare_197 (K : zKt) (J : Nat → zPP) : zPP := zT_iinc 5 1 (J 96)
theorem zbs_X8_compare_197 {X : zCt} (hR : zRX X = { frames := 5, cells := 0, slots := 0, locals := 126 }) (J : Nat → zPP) (hJ : ∀ h ∈ ([23, 75, 96] : List Nat), zSd X RX8 "compare" cX8_compare 6 none h (J h)) : zSd X RX8 "compare" cX8_compare 6 none 197 (zb_X8_compare_197 (zKX X) J) := zs_iinc zd_X8_compare_197 (by decide) (by decide) (zs_goto (tgt := 96) zd_X8_compare_200 (by decide) (hJ 96 (by decide)))
def zb_X8_compare_196 (K : zKt) (J : Nat → zPP) : zPP := zT_iast (zb_X8_compare_197 K J)
theorem zbs_X8_compare_196 {X : zCt} (hR : zRX X = { frames := 5, cells := 0, slots := 0, locals := 126 }) (J : Nat → zPP) (hJ : ∀ h ∈ ([23, 75, 96] : List Nat), zSd X RX8 "compare" cX8_compare 6 none h (J h)) : zSd X RX8 "compare" cX8_compare 6 none 196 (zb_X8_compare_196 (zKX X) J) := zs_iast zd_X8_compare_196 (zbs_X8_compare_197 hR J hJ)
def zb_X8_compare_185 (K : zKt) (J : Nat → zPP) : zPP := zT_ild 5 (zb_X8_compare_196 K J)
theorem zbs_X8_compare_185 {X : zCt} (hR : zRX X = { frames := 5, cells := 0, slots := 0, locals := 126 }) (J : Nat → zPP) (hJ : ∀ h ∈ ([23, 75, 96] : List Nat), zSd X RX8 "compare" cX8_compare 6 none h (J h)) : zSd X RX8 "compare" cX8_compare 6 none 185 (zb_X8_compare_185 (zKX X) J) := zs_iload zd_X8_compare_185 (zs_goto (tgt := 196) zd_X8_compare_187 (by decide) (zbs_X8_compare_196 hR J hJ))
def zb_X8_compare_96 (K : zKt) (J : Nat → zPP) : zPP := zT_ild 5 (zT_ald 0 (zT_getI 8 31 38 (zT_if2 (fun x y => y ≤ x) (zT_iinc 4 1 (J 75)) (zT_ald 0 (zT_getR 8 32 38 (zT_ild 5 (zT_ald0 0 (zT_ild 4 (zT_if2 (fun x y => x = y) (zT_ald 0 (zT_getR 8 35 38 (zT_ild 5 (zT_ald0 0 (zT_ild 2 (zT_if2 (fun x y => y < x) (zb_X8_compare_197 K J) (zT_ald 0 (zT_getR 8 24 38 (zT_ald 0 (zT_getR 8 33 38 (zT_ild 5 (zT_ald0 0 (zT_ald0 0 (zT_ald 0 (zT_getR 8 34 38 (zT_ild 5 (zT_ald0 0 (zT_if2 (fun x y => x = y) (zb_X8_compare_197 K J) (zT_ald 0 (zT_getR 8 36 38 (zT_ild 1 (zT_dup2 (zT_ald0 0 (zT_push (.int 1) (zT_bin (fun x y => x + y) (zT_iast (zT_ald 0 (zT_getR 8 37 38 (zT_ild 1 (zT_ald 0 (zT_getR 8 37 38 (zT_ild 1 (zT_ald0 0 (zT_if1 (fun x => x < 0) (zb_X8_compare_185 K J) (zT_ild 5 (zT_ald 0 (zT_getR 8 37 38 (zT_ild 1 (zT_ald0 0 (zT_if2 (fun x y => y ≤ x) (zT_ald 0 (zT_getR 8 37 38 (zT_ild 1 (zT_ald0 0 (zb_X8_compare_196 K J))))) (zb_X8_compare_185 K J))))))))))))))))))))))))))))))))))))))))) (zb_X8_compare_197 K J))))))))))
theorem zbs_X8_compare_96 {X : zCt} (hR : zRX X = { frames := 5, cells := 0, slots := 0, locals := 126 }) (J : Nat → zPP) (hJ : ∀ h ∈ ([23, 75, 96] : List Nat), zSd X RX8 "compare" cX8_compare 6 none h (J h)) : zSd X RX8 "compare" cX8_compare 6 none 96 (zb_X8_compare_96 (zKX X) J) := zs_iload zd_X8_compare_96 (zs_aload_n zd_X8_compare_98 rfl (zs_getI (ci := 8) (j := 31) (T := TX8) rfl inX8 (by decide) gw_3_120 rfl zd_X8_compare_99 (zs_icmp_ge (tgt := 203) zd_X8_compare_102 (by decide) (zs_iinc zd_X8_compare_203 (by decide) (by decide) (zs_goto (tgt := 75) zd_X8_compare_206 (by decide) (hJ 75 (by decide)))) (zs_aload_n zd_X8_compare_105 rfl (zs_getR (ci := 8) (j := 32) (T := TX8) rfl inX8 (by decide) gw_3_121 rfl zd_X8_compare_106 (zs_iload zd_X8_compare_109 (zs_iald zd_X8_compare_111 (zs_iload zd_X8_compare_112 (zs_icmp_ne (tgt := 197) zd_X8_compare_114 (by decide) (zbs_X8_compare_197 hR J hJ) (zs_aload_n zd_X8_compare_117 rfl (zs_getR (ci := 8) (j := 35) (T := TX8) rfl inX8 (by decide) gw_3_124 rfl zd_X8_compare_118 (zs_iload zd_X8_compare_121 (zs_iald zd_X8_compare_123 (zs_iload_n zd_X8_compare_124 rfl (zs_icmp_gt (tgt := 197) zd_X8_compare_125 (by decide) (zbs_X8_compare_197 hR J hJ) (zs_aload_n zd_X8_compare_128 rfl (zs_getR (ci := 8) (j := 24) (T := TX8) rfl inX8 (by decide) gw_3_113 rfl zd_X8_compare_129 (zs_aload_n zd_X8_compare_132 rfl (zs_getR (ci := 8) (j := 33) (T := TX8) rfl inX8 (by decide) gw_3_122 rfl zd_X8_compare_133 (zs_iload zd_X8_compare_136 (zs_iald zd_X8_compare_138 (zs_iald zd_X8_compare_139 (zs_aload_n zd_X8_compare_140 rfl (zs_getR (ci := 8) (j := 34) (T := TX8) rfl inX8 (by decide) gw_3_123 rfl zd_X8_compare_141 (zs_iload zd_X8_compare_144 (zs_iald zd_X8_compare_146 (zs_icmp_eq (tgt := 197) zd_X8_compare_147 (by decide) (zbs_X8_compare_197 hR J hJ) (zs_aload_n zd_X8_compare_150 rfl (zs_getR (ci := 8) (j := 36) (T := TX8) rfl inX8 (by decide) gw_3_125 rfl zd_X8_compare_151 (zs_iload_n zd_X8_compare_154 rfl (zs_dup2 zd_X8_compare_155 (zs_iald zd_X8_compare_156 (zs_iconst zd_X8_compare_157 (by decide) (zs_iadd zd_X8_compare_158 (zs_iast zd_X8_compare_159 (zs_aload_n zd_X8_compare_160 rfl (zs_getR (ci := 8) (j := 37) (T := TX8) rfl inX8 (by decide) gw_3_126 rfl zd_X8_compare_161 (zs_iload_n zd_X8_compare_164 rfl (zs_aload_n zd_X8_compare_165 rfl (zs_getR (ci := 8) (j := 37) (T := TX8) rfl inX8 (by decide) gw_3_126 rfl zd_X8_compare_166 (zs_iload_n zd_X8_compare_169 rfl (zs_iald zd_X8_compare_170 (zs_if_lt (tgt := 185) zd_X8_compare_171 (by decide) (zbs_X8_compare_185 hR J hJ) (zs_iload zd_X8_compare_174 (zs_aload_n zd_X8_compare_176 rfl (zs_getR (ci := 8) (j := 37) (T := TX8) rfl inX8 (by decide) gw_3_126 rfl zd_X8_compare_177 (zs_iload_n zd_X8_compare_180 rfl (zs_iald zd_X8_compare_181 (zs_icmp_ge (tgt := 190) zd_X8_compare_182 (by decide) (zs_aload_n zd_X8_compare_190 rfl (zs_getR (ci := 8) (j := 37) (T := TX8) rfl inX8 (by decide) gw_3_126 rfl zd_X8_compare_191 (zs_iload_n zd_X8_compare_194 rfl (zs_iald zd_X8_compare_195 (zbs_X8_compare_196 hR J hJ))))) (zbs_X8_compare_185 hR J hJ))))))))))))))))))))))))))))))))))))))))))))))))))
def zB_X8_compare (K : zKt) (J : Nat → zPP) (h : Nat) : zPP := if h = 23 then zb_X8_compare_23 K J else if h = 75 then zb_X8_compare_75 K J else if h = 96 then zb_X8_compare_96 K J else (fun _ _ _ => False)
theorem zBs_X8_compare {X : zCt} (hR : zRX X = { frames := 5, cells := 0, slots := 0, locals := 126 }) : ∀ J : Nat → zPP, (∀ h ∈ ([23, 75, 96] : List Nat), zSd X RX8 "compare" cX8_compare 6 none h (J h)) → ∀ h ∈ ([23, 75, 96] : List Nat), zSd X RX8 "compare" cX8_compare 6 none h (zB_X8_compare (zKX X) J h) := by
  intro J hJ h hh
  unfold zB_X8_compare
  simp only [List.mem_cons, List.not_mem_nil, or_false] at hh
  rcases hh with rfl | rfl | rfl
  · exact zbs_X8_compare_23 hR J hJ
  · exact zbs_X8_compare_75 hR J hJ
  · exact zbs_X8_compare_96 hR J hJ
theorem zdn_X8_compare : yX8_compare.cls ≠ "java/lang/invoke/MethodHandle" ∧ yX8_compare.cls ≠ "java/lang/invoke/VarHandle" ∧ (parseMethodDescriptor yX8_compare.desc).map (fun d => d.parameters.length) = some 2 := by decide +kernel
/-! the first of a set -/
theorem wff_s {p : Nat → Bool} : ∀ {k i j : Nat}, i ≤ j → j < i + k → p j = true → (∀ m, i ≤ m → m < j → p m = false) → wff p k i = some j
  | 0, i, j, h1, h2, _, _ => by omega
  | k + 1, i, j, h1, h2, h3, h4 => by
    unfold wff
    by_cases q : i = j
    · subst q; rw [if_pos h3]
    · rw [if_neg (by rw [h4 i (Nat.le_refl _) (by omega)]; decide)]
      exact wff_s (by omega) (by omega) h3 (fun m z1 z2 => h4 m (by omega) z2)
theorem wff_n {p : Nat → Bool} : ∀ {k i : Nat}, (∀ m, i ≤ m → m < i + k → p m = false) → wff p k i = none
  | 0, _, _ => rfl
  | k + 1, i, h => by
    unfold wff
    rw [if_neg (by rw [h i (Nat.le_refl _) (by omega)]; decide)]
    exact wff_n (fun m z1 z2 => h m (by omega) (by omega))
theorem wff_m {p : Nat → Bool} : ∀ {k i j : Nat}, wff p k i = some j → ∀ m, i ≤ m → m < j → p m = false
  | 0, i, j, h, _, _, _ => by cases h
  | k + 1, i, j, h, m, h1, h2 => by
    unfold wff at h
    by_cases q : p i = true
    · rw [if_pos q] at h
      cases h
      omega
    · rw [if_neg q] at h
      by_cases e : m = i
      · subst e; simpa using q
      · exact wff_m h m (by omega) h2
theorem wff_o {p : Nat → Bool} : ∀ {k i : Nat}, wff p k i = none → ∀ m, i ≤ m → m < i + k → p m = false
  | 0, i, _, m, h1, h2 => by omega
  | k + 1, i, h, m, h1, h2 => by
    unfold wff at h
    by_cases q : p i = true
    · rw [if_pos q] at h
      cases h
    · rw [if_neg q] at h
      by_cases e : m = i
      · subst e; simpa using q
      · exact wff_o h m (by omega) (by omega)
theorem wff_c {p q : Nat → Bool} : ∀ {k i : Nat}, (∀ m, i ≤ m → m < i + k → p m = q m) → wff p k i = wff q k i
  | 0, _, _ => rfl
  | k + 1, i, h => by
    unfold wff
    rw [h i (Nat.le_refl _) (by omega), wff_c (k := k) (i := i + 1) (fun m z1 z2 => h m (by omega) (by omega))]
theorem wff_up {p q : Nat → Bool} {n g : Nat} (hg : g < n) (h : ∀ i, i < n → q i = (if i = g then true else p i)) : wff q n 0 = match wff p n 0 with
    | none => some g
    | some f => if g < f then some g else some f := by
  have hqg : q g = true := by rw [h g hg, if_pos rfl]
  cases hp : wff p n 0 with
  | none =>
    refine wff_s (Nat.zero_le _) (by omega) hqg (fun m _ hm => ?_)
    rw [h m (by omega), if_neg (by omega)]
    exact wff_o hp m (Nat.zero_le _) (by omega)
  | some f =>
    dsimp only
    have hb := wff_bd hp
    by_cases z : g < f
    · rw [if_pos z]
      refine wff_s (Nat.zero_le _) (by omega) hqg (fun m _ hm => ?_)
      rw [h m (by omega), if_neg (by omega)]
      exact wff_m hp m (Nat.zero_le _) (by omega)
    · rw [if_neg z]
      refine wff_s (Nat.zero_le _) (by omega) ?_ (fun m _ hm => ?_)
      · rw [h f (by omega)]
        split
        · rfl
        · exact hb.2.2
      · rw [h m (by omega), if_neg (by omega)]
        exact wff_m hp m (Nat.zero_le _) hm
/-- the broken ones -/
def mbk (σ : wSP) (es : List wEn) (r day j : Nat) : Bool := wbd (wHT σ r) day (weA es j)
/-- those that the Model has been at before (y, k) -/
def mat (σ : wSP) (es : List wEn) (r day y k j : Nat) : Bool := mbk σ es r day j && decide (wey (weA es j) < y ∨ (wey (weA es j) = y ∧ j < k))
theorem mat_t {σ : wSP} {es : List wEn} {r day y k j : Nat} : mat σ es r day y k j = true ↔ mbk σ es r day j = true ∧ (wey (weA es j) < y ∨ (wey (weA es j) = y ∧ j < k)) := by simp [mat]
theorem Bool_iff {a b : Bool} (h : a = true ↔ b = true) : a = b := by
  cases a <;> cases b <;> simp_all
def zc_X8_compare (a : List Value) (M : zMm) (K : zKt) : Prop := match a with
  | [.ref k, .int r', .int d'] => k = 200 ∧ ∃ F r day, zMF M F ∧ r' = nI r ∧ r < 36 ∧ d' = nI day ∧ day ≤ 1000 ∧ ∀ M', zsm [209, 210, 211, 212, 213, 214, 215, 220, 221] M M' → M'.2.1 220 r = nI (wct (mbk F.1 F.2.1 r day) F.2.1.length) → M'.2.1 221 r = woi (wAG F.1 F.2.1 r day 0) → (∀ j, j ≠ r → M'.2.1 220 j = M.2.1 220 j ∧ M'.2.1 221 j = M.2.1 221 j) → K none M'
  | _ => False
set_option maxHeartbeats 4000000 in
theorem zm_X8_compare (l : Launch) (D : va_G) (Y : Nat → ClassId) : zMt l D Y yX8_compare cX8_compare 6 none 5 126 0 0 zc_X8_compare := by
  refine zwhile (heads := [23, 75, 96]) (by decide) (fun K J _ _ => zb_X8_compare_0 K J) (fun K _ _ J h => zB_X8_compare K J h) (fun X hR J hJ => zbs_X8_compare_0 hR J hJ) (fun X hR => zBs_X8_compare hR) (fun avs M K h => ?_)
  unfold zc_X8_compare at h
  split at h
  · next k r' d' =>
    obtain ⟨rfl, F, r, day, hF, rfl, hr, rfl, hday, h⟩ := h
    obtain ⟨g1, g2, ⟨en1, en2, en3⟩, g4, g5, g6⟩ := id hF
    obtain ⟨ok, w1, w2, w3, w4, w5, w6, w7⟩ := id g2
    obtain ⟨k1, k2, k3, k4, k5, k6, k7, k8, k9⟩ := id ok
    obtain ⟨r7, -, -, -, -, -, -, -, r24, r25, r26, r27, r28, r29, r30, r32, r33, r34, r35, r36, r37⟩ := id g1
    have hinr : vp_in (nI r) 36 := vp_in_nI hr (by decide)
    have enA : ∀ i, i < F.2.1.length → weok (weA F.2.1 i) ∧ wil (sW F.1) (sH F.1) (wec (weA F.2.1 i)) ∧ M.2.1 216 i = nI (wey (weA F.2.1 i)) ∧ M.2.1 217 i = nI (mI (sW F.1) (wec (weA F.2.1 i))) ∧ M.2.1 218 i = nI (weh (weA F.2.1 i)) ∧ M.2.1 219 i = nI (wed (weA F.2.1 i)) := fun i hi => en3 i _ (weA_get hi)
    generalize hes : F.2.1 = es at en1 en2 enA h
    generalize hσ : F.1 = σ at w1 w2 w3 w4 w5 w6 w7 k1 k2 k3 k4 k5 k6 k7 k8 k9 ok g2 enA h
    refine ⟨by simp [zent], fun q hd M' ls st => (zsm [209, 210, 211, 212, 213, 214, 215, 220, 221] M M' ∧ ∀ j, j ≠ r → M'.2.1 220 j = M.2.1 220 j ∧ M'.2.1 221 j = M.2.1 221 j) ∧ ((hd = 23 ∧ ∃ k L t, q = 100000 - k ∧ k ≤ es.length ∧ L ≤ 30 ∧ (∀ j, j < k → wed (weA es j) ≤ day → wey (weA es j) ≤ L) ∧ zmh M' (sW σ) (sH σ) (wHD σ r 0).1 ∧ zmd M' (sW σ) (sH σ) (wHD σ r 0).2 ∧ M'.2.1 220 r = 0 ∧ M'.2.1 221 r = -1 ∧ ls = [some (.ref 200), some (.int (nI r)), some (.int (nI day)), some (.int (nI L)), some (.int (nI k)), t] ∧ st = []) ∨
      (∃ L y, L ≤ 30 ∧ y ≤ L + 1 ∧ (∀ j, j < es.length → wed (weA es j) ≤ day → wey (weA es j) ≤ L) ∧
       ((hd = 75 ∧ ∃ t, q = 90000 - 1000 * y ∧ zmh M' (sW σ) (sH σ) (wHD σ r (y - 1)).1 ∧ zmd M' (sW σ) (sH σ) (wHD σ r (y - 1)).2 ∧ M'.2.1 220 r = nI (wct (mat σ es r day y 0) es.length) ∧ M'.2.1 221 r = woi (wff (mat σ es r day y 0) es.length 0) ∧ ls = [some (.ref 200), some (.int (nI r)), some (.int (nI day)), some (.int (nI L)), some (.int (nI y)), t] ∧ st = []) ∨
        (hd = 96 ∧ ∃ k, q = 90000 - 1000 * y - 1 - k ∧ y ≤ L ∧ k ≤ es.length ∧ zmh M' (sW σ) (sH σ) (wHD σ r y).1 ∧ zmd M' (sW σ) (sH σ) (wHD σ r y).2 ∧ M'.2.1 220 r = nI (wct (mat σ es r day y k) es.length) ∧ M'.2.1 221 r = woi (wff (mat σ es r day y k) es.length 0) ∧ ls = [some (.ref 200), some (.int (nI r)), some (.int (nI day)), some (.int (nI L)), some (.int (nI y)), some (.int (nI k))] ∧ st = [])))), ?_, ?_⟩
    · rintro q J hJ hd - M' ls st ⟨⟨hs, hoth⟩, ⟨rfl, k, L, t, rfl, hk, hL, hc, hh, hd, hb0, hf0, rfl, rfl⟩ | ⟨L, y, hL, hy, hlast, ⟨rfl, t, rfl, hh, hd, hb, hf, rfl, rfl⟩ | ⟨rfl, k, rfl, hyL, hk, hh, hd, hb, hf, rfl, rfl⟩⟩⟩
      · have eI : ∀ k, k < 209 ∨ (216 ≤ k ∧ k < 220) → M'.2.1 k = M.2.1 k := fun k hk => hs.at (by simp; omega)
        have eR := hs.R
        simp only [zB_X8_compare, zb_X8_compare_23, ↓reduceIte, zsh_200, zsh_216, zsh_219, eR, r32, r35, eI 200 (by omega), eI 216 (by omega), eI 219 (by omega), en1, Nat.reduceEqDiff, zT_push, zT_bin, zT_div, zT_bil, zT_shl, zT_un, zT_i2l, zT_l2i, zT_lcmp, zT_ild, zT_lld, zT_ald, zT_ist, zT_lst, zT_ast, zT_iinc, zT_dup, zT_dup2, zT_pop, zT_if1, zT_if2, zT_ifn, zT_getI, zT_getJ, zT_getR, zT_putI, zT_putZ, zT_putJ, zT_putR, zT_ald0, zT_lald, zT_aald, zT_iast, zT_zast, zT_bast, zT_last, zT_aast, zT_iret, zT_nret, zT_aret, zT_vret, zT_oi, zT_mm, zT_ialX, zT_S1, zT_S2, zT_S3, zT_V0, zT_V1, zT_V2, zT_V3, zT_V4, zT_V5, zT_V6, zT_I0, zT_I1, zT_I2, zlg, zlset, zlpr, zent, zok, va_rf, List.length_cons, List.length_nil, List.replicate, List.cons_append, List.nil_append, List.append_nil, Option.toList_some, Option.toList_none, Option.toList, Nat.reduceAdd, Nat.reduceSub, Nat.reduceLeDiff, Nat.zero_add, Nat.zero_le, true_and, and_true, Nat.le_refl, ge_iff_le, Nat.reduceEqDiff]
        have S65 : ∀ L', L' ≤ 30 → L ≤ L' → (wed (weA es k) ≤ day → wey (weA es k) ≤ L') → k < es.length → zb_X8_compare_65 K J M' [some (.ref 200), some (.int (nI r)), some (.int (nI day)), some (.int (nI L)), some (.int (nI k)), t] [.int (nI L')] := by
          intro L' hL' hLL hk2 hlt
          simp only [zb_X8_compare_65, zT_push, zT_bin, zT_div, zT_bil, zT_shl, zT_un, zT_i2l, zT_l2i, zT_lcmp, zT_ild, zT_lld, zT_ald, zT_ist, zT_lst, zT_ast, zT_iinc, zT_dup, zT_dup2, zT_pop, zT_if1, zT_if2, zT_ifn, zT_getI, zT_getJ, zT_getR, zT_putI, zT_putZ, zT_putJ, zT_putR, zT_ald0, zT_lald, zT_aald, zT_iast, zT_zast, zT_bast, zT_last, zT_aast, zT_iret, zT_nret, zT_aret, zT_vret, zT_oi, zT_mm, zT_ialX, zT_S1, zT_S2, zT_S3, zT_V0, zT_V1, zT_V2, zT_V3, zT_V4, zT_V5, zT_V6, zT_I0, zT_I1, zT_I2, zlg, zlset, zlpr, zent, zok, va_rf, List.length_cons, List.length_nil, List.replicate, List.cons_append, List.nil_append, List.append_nil, Option.toList_some, Option.toList_none, Option.toList, Nat.reduceAdd, Nat.reduceSub, Nat.reduceLeDiff, Nat.zero_add, Nat.zero_le, true_and, and_true, Nat.le_refl, ge_iff_le, Nat.reduceEqDiff]
          refine hJ (100000 - (k + 1)) (by omega) 23 (by simp) _ _ _ ⟨⟨hs, hoth⟩, Or.inl ⟨rfl, k + 1, L', t, rfl, hlt, hL', fun j hj hw => ?_, hh, hd, hb0, hf0, by rw [nI_1], rfl⟩⟩
          rcases Nat.lt_or_ge j k with z | z
          · exact Nat.le_trans (hc j z hw) hLL
          · have e : j = k := by omega
            rw [e] at hw ⊢
            exact hk2 hw
        have S64 : (wed (weA es k) ≤ day → wey (weA es k) ≤ L) → k < es.length → zb_X8_compare_64 K J M' [some (.ref 200), some (.int (nI r)), some (.int (nI day)), some (.int (nI L)), some (.int (nI k)), t] [] := by
          intro hk2 hlt
          simp only [zb_X8_compare_64, zT_push, zT_bin, zT_div, zT_bil, zT_shl, zT_un, zT_i2l, zT_l2i, zT_lcmp, zT_ild, zT_lld, zT_ald, zT_ist, zT_lst, zT_ast, zT_iinc, zT_dup, zT_dup2, zT_pop, zT_if1, zT_if2, zT_ifn, zT_getI, zT_getJ, zT_getR, zT_putI, zT_putZ, zT_putJ, zT_putR, zT_ald0, zT_lald, zT_aald, zT_iast, zT_zast, zT_bast, zT_last, zT_aast, zT_iret, zT_nret, zT_aret, zT_vret, zT_oi, zT_mm, zT_ialX, zT_S1, zT_S2, zT_S3, zT_V0, zT_V1, zT_V2, zT_V3, zT_V4, zT_V5, zT_V6, zT_I0, zT_I1, zT_I2, zlg, zlset, zlpr, zent, zok, va_rf, List.length_cons, List.length_nil, List.replicate, List.cons_append, List.nil_append, List.append_nil, Option.toList_some, Option.toList_none, Option.toList, Nat.reduceAdd, Nat.reduceSub, Nat.reduceLeDiff, Nat.zero_add, Nat.zero_le, true_and, and_true, Nat.le_refl, ge_iff_le, Nat.reduceEqDiff]
          exact S65 L hL (Nat.le_refl _) hk2 hlt
        rw [nI_clamp (n := k) (by omega)]
        refine ⟨fun h1 => ?_, fun h1 => ?_⟩
        · have := zn_ge' h1 (by omega) (by omega)
          have e : k = es.length := by omega
          subst e
          have hz : ∀ j, mat σ es r day 0 0 j = false := fun j => by
            cases z : mat σ es r day 0 0 j with
            | false => rfl
            | true => have := mat_t.mp z; omega
          have hz2 : wct (mat σ es r day 0 0) es.length = 0 := by
            have h3 : ∀ n, wct (mat σ es r day 0 0) n = 0 := by
              intro n
              induction n with
              | zero => rfl
              | succ n ih =>
                show wct (mat σ es r day 0 0) n + (if mat σ es r day 0 0 n = true then 1 else 0) = 0
                rw [ih, hz n]
                rfl
            exact h3 _
          refine hJ 90000 (by omega) 75 (by simp) _ _ _ ⟨⟨hs, hoth⟩, Or.inr ⟨L, 0, hL, by omega, hc, Or.inl ⟨rfl, t, rfl, hh, hd, ?_, ?_, rfl, rfl⟩⟩⟩
          · rw [hz2]; exact hb0
          · rw [wff_n (fun m _ _ => hz m)]; exact hf0
        · have hlt := zn_ge h1 (by omega) (by omega)
          obtain ⟨⟨q1, q2, q3, q4⟩, -, e1, e2, e3, e4⟩ := enA k hlt
          have hin : vp_in (nI k) 200 := vp_in_nI (by omega) (by decide)
          rw [e4, e1]
          refine ⟨hin, fun h2 => S64 (fun z => ?_) hlt, fun h2 => ⟨hin, fun h3 => S64 (fun z => ?_) hlt, fun h3 => ⟨hin, S65 _ q1 ?_ (fun _ => Nat.le_refl _) hlt⟩⟩⟩
          · have := (nI_ltI (by omega) (by omega)).mp h2
            omega
          · exact zn_ge' h3 (by omega) (by omega)
          · have := zn_ge h3 (by omega) (by omega)
            omega
      · have eI : ∀ k, k < 209 ∨ (216 ≤ k ∧ k < 220) → M'.2.1 k = M.2.1 k := fun k hk => hs.at (by simp; omega)
        have eR := hs.R
        simp only [zB_X8_compare, zb_X8_compare_75, ↓reduceIte, zsh_200, Nat.reduceEqDiff, zT_push, zT_bin, zT_div, zT_bil, zT_shl, zT_un, zT_i2l, zT_l2i, zT_lcmp, zT_ild, zT_lld, zT_ald, zT_ist, zT_lst, zT_ast, zT_iinc, zT_dup, zT_dup2, zT_pop, zT_if1, zT_if2, zT_ifn, zT_getI, zT_getJ, zT_getR, zT_putI, zT_putZ, zT_putJ, zT_putR, zT_ald0, zT_lald, zT_aald, zT_iast, zT_zast, zT_bast, zT_last, zT_aast, zT_iret, zT_nret, zT_aret, zT_vret, zT_oi, zT_mm, zT_ialX, zT_S1, zT_S2, zT_S3, zT_V0, zT_V1, zT_V2, zT_V3, zT_V4, zT_V5, zT_V6, zT_I0, zT_I1, zT_I2, zlg, zlset, zlpr, zent, zok, va_rf, List.length_cons, List.length_nil, List.replicate, List.cons_append, List.nil_append, List.append_nil, Option.toList_some, Option.toList_none, Option.toList, Nat.reduceAdd, Nat.reduceSub, Nat.reduceLeDiff, Nat.zero_add, Nat.zero_le, true_and, and_true, Nat.le_refl, ge_iff_le, Nat.reduceEqDiff]
        have S93 : ∀ M2, zsm [209, 210, 211, 212, 213, 214, 215] M' M2 → y ≤ L → zmh M2 (sW σ) (sH σ) (wHD σ r y).1 → zmd M2 (sW σ) (sH σ) (wHD σ r y).2 → zb_X8_compare_93 K J M2 [some (.ref 200), some (.int (nI r)), some (.int (nI day)), some (.int (nI L)), some (.int (nI y)), t] [] := by
          intro M2 hs2 hyL hh2 hd2
          simp only [zb_X8_compare_93, zT_push, zT_bin, zT_div, zT_bil, zT_shl, zT_un, zT_i2l, zT_l2i, zT_lcmp, zT_ild, zT_lld, zT_ald, zT_ist, zT_lst, zT_ast, zT_iinc, zT_dup, zT_dup2, zT_pop, zT_if1, zT_if2, zT_ifn, zT_getI, zT_getJ, zT_getR, zT_putI, zT_putZ, zT_putJ, zT_putR, zT_ald0, zT_lald, zT_aald, zT_iast, zT_zast, zT_bast, zT_last, zT_aast, zT_iret, zT_nret, zT_aret, zT_vret, zT_oi, zT_mm, zT_ialX, zT_S1, zT_S2, zT_S3, zT_V0, zT_V1, zT_V2, zT_V3, zT_V4, zT_V5, zT_V6, zT_I0, zT_I1, zT_I2, zlg, zlset, zlpr, zent, zok, va_rf, List.length_cons, List.length_nil, List.replicate, List.cons_append, List.nil_append, List.append_nil, Option.toList_some, Option.toList_none, Option.toList, Nat.reduceAdd, Nat.reduceSub, Nat.reduceLeDiff, Nat.zero_add, Nat.zero_le, true_and, and_true, Nat.le_refl, ge_iff_le, Nat.reduceEqDiff]
          exact hJ (90000 - 1000 * y - 1) (by omega) 96 (by simp) _ _ _ ⟨⟨hs.tr (hs2.up (by simp)), fun j hj => by rw [hs2.at (by simp), hs2.at (by simp)]; exact hoth j hj⟩, Or.inr ⟨L, y, hL, hy, hlast, Or.inr ⟨rfl, 0, rfl, hyL, Nat.zero_le _, hh2, hd2, by rw [hs2.at (by simp)]; exact hb, by rw [hs2.at (by simp)]; exact hf, rfl, rfl⟩⟩⟩
        refine ⟨fun h1 => ?_, fun h1 => ?_⟩
        · have := (nI_ltI (by omega) (by omega)).mp h1
          have e : y = L + 1 := by omega
          have hfin : ∀ j, j < es.length → mat σ es r day y 0 j = mbk σ es r day j := fun j hj => Bool_iff ⟨fun z => (mat_t.mp z).1, fun z => by
            refine mat_t.mpr ⟨z, Or.inl ?_⟩
            unfold mbk wbd at z
            rw [decide_eq_true_eq] at z
            have := hlast j hj z.1
            omega⟩
          refine h M' hs ?_ ?_ hoth
          · rw [hb, wct_congr hfin]
          · rw [hf, wff_c (q := mbk σ es r day) (fun m _ hm => hfin m (by omega))]
            rfl
        · have hyL : y ≤ L := by
            rcases Nat.lt_or_ge L y with z | z
            · exact absurd ((nI_ltI (by omega) (by omega)).mpr z) h1
            · exact z
          refine ⟨fun h2 => ?_, fun h2 => ?_⟩
          · have := zn_ge' (a := 0) h2 (by omega) (by omega)
            have e : y = 0 := by omega
            subst e
            exact S93 M' zsm.rf hyL hh hd
          · have hpos := zn_ge (a := 0) h2 (by omega) (by omega)
            unfold zc_X8_year
            dsimp only
            refine ⟨rfl, g1.to hs, σ, r, y, wHD σ r (y - 1), ?_, rfl, hr, rfl, by omega, hh, hd, wHD_le ok r _, fun M2 hs2 hh2 hd2 hg2 => ?_⟩
            · have := (hF.fl hs (by simp)).2.1
              rw [hσ] at this
              exact this
            · have ey : wHD σ r y = wY σ r y (wHD σ r (y - 1)) := by
                obtain ⟨z, rfl⟩ : ∃ z, y = z + 1 := ⟨y - 1, by omega⟩
                rfl
              try simp only [zT_push, zT_bin, zT_div, zT_bil, zT_shl, zT_un, zT_i2l, zT_l2i, zT_lcmp, zT_ild, zT_lld, zT_ald, zT_ist, zT_lst, zT_ast, zT_iinc, zT_dup, zT_dup2, zT_pop, zT_if1, zT_if2, zT_ifn, zT_getI, zT_getJ, zT_getR, zT_putI, zT_putZ, zT_putJ, zT_putR, zT_ald0, zT_lald, zT_aald, zT_iast, zT_zast, zT_bast, zT_last, zT_aast, zT_iret, zT_nret, zT_aret, zT_vret, zT_oi, zT_mm, zT_ialX, zT_S1, zT_S2, zT_S3, zT_V0, zT_V1, zT_V2, zT_V3, zT_V4, zT_V5, zT_V6, zT_I0, zT_I1, zT_I2, zlg, zlset, zlpr, zent, zok, va_rf, List.length_cons, List.length_nil, List.replicate, List.cons_append, List.nil_append, List.append_nil, Option.toList_some, Option.toList_none, Option.toList, Nat.reduceAdd, Nat.reduceSub, Nat.reduceLeDiff, Nat.zero_add, Nat.zero_le, true_and, and_true, Nat.le_refl, ge_iff_le, Nat.reduceEqDiff]
              exact S93 M2 hs2 hyL (by rw [ey]; exact hh2) (by rw [ey]; exact hd2)
      · have eI : ∀ k, k < 209 ∨ (216 ≤ k ∧ k < 220) → M'.2.1 k = M.2.1 k := fun k hk => hs.at (by simp; omega)
        have eR := hs.R
        simp only [zB_X8_compare, zb_X8_compare_96, ↓reduceIte, zsh_200, zsh_209, zsh_216, zsh_217, zsh_218, zsh_219, zsh_220, zsh_221, zwI_R, eR, r24, r32, r33, r34, r35, r36, r37, nI_clamp (show r < 2 ^ 31 by omega), zwI_I, zw2_n (show (221 : Nat) ≠ 220 by decide), eI 200 (by omega), eI 216 (by omega), eI 217 (by omega), eI 218 (by omega), eI 219 (by omega), en1, Nat.reduceEqDiff, zT_push, zT_bin, zT_div, zT_bil, zT_shl, zT_un, zT_i2l, zT_l2i, zT_lcmp, zT_ild, zT_lld, zT_ald, zT_ist, zT_lst, zT_ast, zT_iinc, zT_dup, zT_dup2, zT_pop, zT_if1, zT_if2, zT_ifn, zT_getI, zT_getJ, zT_getR, zT_putI, zT_putZ, zT_putJ, zT_putR, zT_ald0, zT_lald, zT_aald, zT_iast, zT_zast, zT_bast, zT_last, zT_aast, zT_iret, zT_nret, zT_aret, zT_vret, zT_oi, zT_mm, zT_ialX, zT_S1, zT_S2, zT_S3, zT_V0, zT_V1, zT_V2, zT_V3, zT_V4, zT_V5, zT_V6, zT_I0, zT_I1, zT_I2, zlg, zlset, zlpr, zent, zok, va_rf, List.length_cons, List.length_nil, List.replicate, List.cons_append, List.nil_append, List.append_nil, Option.toList_some, Option.toList_none, Option.toList, Nat.reduceAdd, Nat.reduceSub, Nat.reduceLeDiff, Nat.zero_add, Nat.zero_le, true_and, and_true, Nat.le_refl, ge_iff_le, Nat.reduceEqDiff]
        rw [nI_clamp (n := k) (by omega)]
        have S197 : ∀ M2, zsm [209, 210, 211, 212, 213, 214, 215, 220, 221] M M2 → (∀ j, j ≠ r → M2.2.1 220 j = M.2.1 220 j ∧ M2.2.1 221 j = M.2.1 221 j) → k < es.length → zsm [220, 221] M' M2 → M2.2.1 220 r = nI (wct (mat σ es r day y (k + 1)) es.length) → M2.2.1 221 r = woi (wff (mat σ es r day y (k + 1)) es.length 0) → zb_X8_compare_197 K J M2 [some (.ref 200), some (.int (nI r)), some (.int (nI day)), some (.int (nI L)), some (.int (nI y)), some (.int (nI k))] [] := by
          intro M2 hs2 hoth2 hlt hs3 hb2 hf2
          simp only [zb_X8_compare_197, zT_push, zT_bin, zT_div, zT_bil, zT_shl, zT_un, zT_i2l, zT_l2i, zT_lcmp, zT_ild, zT_lld, zT_ald, zT_ist, zT_lst, zT_ast, zT_iinc, zT_dup, zT_dup2, zT_pop, zT_if1, zT_if2, zT_ifn, zT_getI, zT_getJ, zT_getR, zT_putI, zT_putZ, zT_putJ, zT_putR, zT_ald0, zT_lald, zT_aald, zT_iast, zT_zast, zT_bast, zT_last, zT_aast, zT_iret, zT_nret, zT_aret, zT_vret, zT_oi, zT_mm, zT_ialX, zT_S1, zT_S2, zT_S3, zT_V0, zT_V1, zT_V2, zT_V3, zT_V4, zT_V5, zT_V6, zT_I0, zT_I1, zT_I2, zlg, zlset, zlpr, zent, zok, va_rf, List.length_cons, List.length_nil, List.replicate, List.cons_append, List.nil_append, List.append_nil, Option.toList_some, Option.toList_none, Option.toList, Nat.reduceAdd, Nat.reduceSub, Nat.reduceLeDiff, Nat.zero_add, Nat.zero_le, true_and, and_true, Nat.le_refl, ge_iff_le, Nat.reduceEqDiff]
          exact hJ (90000 - 1000 * y - 1 - (k + 1)) (by omega) 96 (by simp) _ _ _ ⟨⟨hs2, hoth2⟩, Or.inr ⟨L, y, hL, hy, hlast, Or.inr ⟨rfl, k + 1, rfl, hyL, hlt, hh.to hs3 (by simp), hd.to hs3 (by simp), hb2, hf2, by rw [nI_1], rfl⟩⟩⟩
        refine ⟨fun h1 => ?_, fun h1 => ?_⟩
        · have := zn_ge' h1 (by omega) (by omega)
          have e : k = es.length := by omega
          subst e
          have hfin : ∀ j, j < es.length → mat σ es r day y es.length j = mat σ es r day (y + 1) 0 j := fun j hj => Bool_iff ⟨fun z => by
            have := mat_t.mp z
            exact mat_t.mpr ⟨this.1, by omega⟩, fun z => by
            have := mat_t.mp z
            exact mat_t.mpr ⟨this.1, by omega⟩⟩
          exact hJ (90000 - 1000 * (y + 1)) (by omega) 75 (by simp) _ _ _ ⟨⟨hs, hoth⟩, Or.inr ⟨L, y + 1, hL, by omega, hlast, Or.inl ⟨rfl, _, rfl, hh, hd, by rw [hb, wct_congr hfin], by rw [hf, wff_c (fun m _ hm => hfin m (by omega))], by rw [nI_1], rfl⟩⟩⟩
        · have hlt := zn_ge h1 (by omega) (by omega)
          obtain ⟨⟨q1, q2, q3, q4⟩, q5, e1, e2, e3, e4⟩ := enA k hlt
          have hin : vp_in (nI k) 200 := vp_in_nI (by omega) (by decide)
          have c120 := mI_120 k2 k4 q5
          have hht := hh _ q5
          have Skip : (mat σ es r day y (k + 1) k = true → mat σ es r day y k k = true) → zb_X8_compare_197 K J M' [some (.ref 200), some (.int (nI r)), some (.int (nI day)), some (.int (nI L)), some (.int (nI y)), some (.int (nI k))] [] := by
            intro hm
            have hfin : ∀ j, j < es.length → mat σ es r day y (k + 1) j = mat σ es r day y k j := fun j hj => Bool_iff ⟨fun z => by
              by_cases e : j = k
              · rw [e] at z ⊢; exact hm z
              · have := mat_t.mp z
                exact mat_t.mpr ⟨this.1, by omega⟩, fun z => by
              have := mat_t.mp z
              exact mat_t.mpr ⟨this.1, by omega⟩⟩
            exact S197 M' hs hoth hlt zsm.rf (by rw [hb, wct_congr hfin]) (by rw [hf, wff_c (fun m _ hm => hfin m (by omega))])
          rw [e1, e2, e3, e4, nI_clamp (n := mI (sW σ) (wec (weA es k))) (by omega), hht.1, hb]
          have hbk : mbk σ es r day k = true ↔ wed (weA es k) ≤ day ∧ (wHD σ r (wey (weA es k))).1 (wec (weA es k)) ≠ weh (weA es k) := by
            unfold mbk wbd
            rw [decide_eq_true_eq]
            rfl
          have S196 : mat σ es r day y (k + 1) k = true → wey (weA es k) = y → ∀ v, v = woi (wff (mat σ es r day y (k + 1)) es.length 0) → zb_X8_compare_196 K J (zwI M' 220 r (nI (wct (mat σ es r day y k) es.length) + 1)) [some (.ref 200), some (.int (nI r)), some (.int (nI day)), some (.int (nI L)), some (.int (nI y)), some (.int (nI k))] [.int v, .int (nI r), .ref 221] := by
            intro hm hwy v hv
            have hup : ∀ i, i < es.length → mat σ es r day y (k + 1) i = if i = k then true else mat σ es r day y k i := by
              intro i hi
              by_cases e : i = k
              · rw [if_pos e, e]; exact hm
              · rw [if_neg e]
                exact Bool_iff ⟨fun z => by
                  have := mat_t.mp z
                  exact mat_t.mpr ⟨this.1, by omega⟩, fun z => by
                  have := mat_t.mp z
                  exact mat_t.mpr ⟨this.1, by omega⟩⟩
            have hk0 : mat σ es r day y k k = false := by
              cases z : mat σ es r day y k k with
              | false => rfl
              | true =>
                have a1 := mat_t.mp z
                have a2 := mat_t.mp hm
                omega
            simp only [zb_X8_compare_196, zsh_221, nI_clamp (show r < 2 ^ 31 by omega), zT_push, zT_bin, zT_div, zT_bil, zT_shl, zT_un, zT_i2l, zT_l2i, zT_lcmp, zT_ild, zT_lld, zT_ald, zT_ist, zT_lst, zT_ast, zT_iinc, zT_dup, zT_dup2, zT_pop, zT_if1, zT_if2, zT_ifn, zT_getI, zT_getJ, zT_getR, zT_putI, zT_putZ, zT_putJ, zT_putR, zT_ald0, zT_lald, zT_aald, zT_iast, zT_zast, zT_bast, zT_last, zT_aast, zT_iret, zT_nret, zT_aret, zT_vret, zT_oi, zT_mm, zT_ialX, zT_S1, zT_S2, zT_S3, zT_V0, zT_V1, zT_V2, zT_V3, zT_V4, zT_V5, zT_V6, zT_I0, zT_I1, zT_I2, zlg, zlset, zlpr, zent, zok, va_rf, List.length_cons, List.length_nil, List.replicate, List.cons_append, List.nil_append, List.append_nil, Option.toList_some, Option.toList_none, Option.toList, Nat.reduceAdd, Nat.reduceSub, Nat.reduceLeDiff, Nat.zero_add, Nat.zero_le, true_and, and_true, Nat.le_refl, ge_iff_le, Nat.reduceEqDiff]
            refine ⟨hinr, S197 _ ((hs.w (by simp)).w (by simp)) (fun j hj => ?_) hlt ((zsm.rf.w (by simp)).w (by simp)) ?_ ?_⟩
            · simp only [zwI_L, zwI_I, zwI_J, zwI_R, zwJ_L, zwJ_I, zwJ_J, zwJ_R, zwR_L, zwR_I, zwR_J, zwR_R, zw2_s, zw2_n, ne_eq, not_false_eq_true, reduceCtorEq, not_true_eq_false, Nat.reduceEqDiff]
              rw [zup_n hj, zup_n hj]; exact hoth j hj
            · simp only [zwI_L, zwI_I, zwI_J, zwI_R, zwJ_L, zwJ_I, zwJ_J, zwJ_R, zwR_L, zwR_I, zwR_J, zwR_R, zw2_s, zw2_n, ne_eq, not_false_eq_true, reduceCtorEq, not_true_eq_false, Nat.reduceEqDiff]
              rw [zup_s, wct_up hlt hk0 hup]; exact nI_1 _
            · simp only [zwI_L, zwI_I, zwI_J, zwI_R, zwJ_L, zwJ_I, zwJ_J, zwJ_R, zwR_L, zwR_I, zwR_J, zwR_R, zw2_s, zw2_n, ne_eq, not_false_eq_true, reduceCtorEq, not_true_eq_false, Nat.reduceEqDiff]
              rw [zup_s]; exact hv
          have hffu : mat σ es r day y (k + 1) k = true → wff (mat σ es r day y (k + 1)) es.length 0 = match wff (mat σ es r day y k) es.length 0 with
              | none => some k
              | some f => if k < f then some k else some f := by
            intro hm
            refine wff_up hlt (fun i hi => ?_)
            by_cases e : i = k
            · rw [if_pos e, e]; exact hm
            · rw [if_neg e]
              exact Bool_iff ⟨fun z => by
                have := mat_t.mp z
                exact mat_t.mpr ⟨this.1, by omega⟩, fun z => by
                have := mat_t.mp z
                exact mat_t.mpr ⟨this.1, by omega⟩⟩
          refine ⟨hin, fun h2 => ?_, fun h2 => Skip ?_⟩
          · have ey : wey (weA es k) = y := (nI_eq (by omega) (by omega)).mp h2
            refine ⟨hin, fun h3 => Skip ?_, fun h3 => ⟨hin, vp_in_nI c120 (by decide), hin, fun h4 => Skip ?_, fun h4 => ?_⟩⟩
            · have a0 := (nI_ltI (by omega) (by omega)).mp h3
              intro z
              have a1 := hbk.mp (mat_t.mp z).1
              omega
            · have a0 := (nI_eq (by omega) (by omega)).mp h4
              intro z
              have a1 := hbk.mp (mat_t.mp z).1
              rw [ey] at a1
              exact absurd a0 a1.2
            · have hm : mat σ es r day y (k + 1) k = true := by
                refine mat_t.mpr ⟨hbk.mpr ⟨?_, ?_⟩, Or.inr ⟨ey, by omega⟩⟩
                · rcases Nat.lt_or_ge day (wed (weA es k)) with z | z
                  · exact absurd ((nI_ltI (by omega) (by omega)).mpr z) h3
                  · exact z
                · rw [ey]
                  intro z
                  exact h4 (by rw [z])
              have hffk := hffu hm
              have hbd : ∀ f, wff (mat σ es r day y k) es.length 0 = some f → f < es.length := fun f hf => by have := wff_bd hf; omega
              have S185 : wff (mat σ es r day y (k + 1)) es.length 0 = some k → zb_X8_compare_185 K J (zwI M' 220 r (nI (wct (mat σ es r day y k) es.length) + 1)) [some (.ref 200), some (.int (nI r)), some (.int (nI day)), some (.int (nI L)), some (.int (nI y)), some (.int (nI k))] [.int (nI r), .ref 221] := by
                intro hw
                simp only [zb_X8_compare_185, zT_push, zT_bin, zT_div, zT_bil, zT_shl, zT_un, zT_i2l, zT_l2i, zT_lcmp, zT_ild, zT_lld, zT_ald, zT_ist, zT_lst, zT_ast, zT_iinc, zT_dup, zT_dup2, zT_pop, zT_if1, zT_if2, zT_ifn, zT_getI, zT_getJ, zT_getR, zT_putI, zT_putZ, zT_putJ, zT_putR, zT_ald0, zT_lald, zT_aald, zT_iast, zT_zast, zT_bast, zT_last, zT_aast, zT_iret, zT_nret, zT_aret, zT_vret, zT_oi, zT_mm, zT_ialX, zT_S1, zT_S2, zT_S3, zT_V0, zT_V1, zT_V2, zT_V3, zT_V4, zT_V5, zT_V6, zT_I0, zT_I1, zT_I2, zlg, zlset, zlpr, zent, zok, va_rf, List.length_cons, List.length_nil, List.replicate, List.cons_append, List.nil_append, List.append_nil, Option.toList_some, Option.toList_none, Option.toList, Nat.reduceAdd, Nat.reduceSub, Nat.reduceLeDiff, Nat.zero_add, Nat.zero_le, true_and, and_true, Nat.le_refl, ge_iff_le, Nat.reduceEqDiff]
                exact S196 hm ey _ (by rw [hw]; rfl)
              rw [hf]
              cases hw : wff (mat σ es r day y k) es.length 0 with
              | none =>
                rw [hw] at hffk
                exact ⟨hinr, hinr, hinr, fun _ => S185 hffk, fun z => absurd (by decide : (-1 : Int32) < 0) z⟩
              | some f =>
                rw [hw] at hffk
                dsimp only at hffk
                have hfl := hbd f hw
                show _ ∧ _ ∧ _ ∧ (nI f < 0 → _) ∧ (¬ nI f < 0 → _ ∧ (nI f ≤ nI k → _) ∧ _)
                refine ⟨hinr, hinr, hinr, fun z => absurd z (Int32.not_lt.mpr ((nI_leI (a := 0) (by decide) (by omega)).mpr (Nat.zero_le _))), fun _ => ⟨hinr, fun h5 => ⟨hinr, S196 hm ey _ ?_⟩, fun h5 => S185 ?_⟩⟩
                · have := zn_ge' h5 (by omega) (by omega)
                  rw [hffk, if_neg (by omega)]
                · have := zn_ge h5 (by omega) (by omega)
                  rw [hffk, if_pos (by omega)]
          · intro z
            have a1 := mat_t.mp z
            by_cases e : wey (weA es k) = y
            · exact absurd (by rw [e]) h2
            · exact mat_t.mpr ⟨a1.1, by omega⟩
    · intro J hJ
      simp only [zb_X8_compare_0, zsh_200, zsh_220, zsh_221, zwI_R, r36, r37, nI_clamp (show r < 2 ^ 31 by omega), zT_push, zT_bin, zT_div, zT_bil, zT_shl, zT_un, zT_i2l, zT_l2i, zT_lcmp, zT_ild, zT_lld, zT_ald, zT_ist, zT_lst, zT_ast, zT_iinc, zT_dup, zT_dup2, zT_pop, zT_if1, zT_if2, zT_ifn, zT_getI, zT_getJ, zT_getR, zT_putI, zT_putZ, zT_putJ, zT_putR, zT_ald0, zT_lald, zT_aald, zT_iast, zT_zast, zT_bast, zT_last, zT_aast, zT_iret, zT_nret, zT_aret, zT_vret, zT_oi, zT_mm, zT_ialX, zT_S1, zT_S2, zT_S3, zT_V0, zT_V1, zT_V2, zT_V3, zT_V4, zT_V5, zT_V6, zT_I0, zT_I1, zT_I2, zlg, zlset, zlpr, zent, zok, va_rf, List.length_cons, List.length_nil, List.replicate, List.cons_append, List.nil_append, List.append_nil, Option.toList_some, Option.toList_none, Option.toList, Nat.reduceAdd, Nat.reduceSub, Nat.reduceLeDiff, Nat.zero_add, Nat.zero_le, true_and, and_true, Nat.le_refl, ge_iff_le, Nat.reduceEqDiff]
      unfold zc_X8_begin
      dsimp only
      have hs1 : zsm [209, 210, 211, 212, 213, 214, 215, 220, 221] M (zwI (zwI M 220 r 0) 221 r (-1)) := (zsm.rf.w (by simp)).w (by simp)
      have hF2 := hF.fl hs1 (by simp)
      refine ⟨hinr, hinr, rfl, g1.to hs1, σ, by have := hF2.2.1; rw [hσ] at this; exact this, fun M2 hs2 hh2 hd2 hg2 => ?_⟩
      refine hJ 100000 23 (by simp) _ _ _ ⟨⟨hs1.tr (hs2.up (by simp)), fun j hj => ?_⟩, Or.inl ⟨rfl, 0, 0, none, rfl, by omega, by omega, fun j hj => absurd hj (Nat.not_lt_zero _), hh2, hd2, ?_, ?_, rfl, rfl⟩⟩
      · rw [hs2.at (by simp), hs2.at (by simp)]
        simp only [zwI_L, zwI_I, zwI_J, zwI_R, zwJ_L, zwJ_I, zwJ_J, zwJ_R, zwR_L, zwR_I, zwR_J, zwR_R, zw2_s, zw2_n, ne_eq, not_false_eq_true, reduceCtorEq, not_true_eq_false, Nat.reduceEqDiff]
        rw [zup_n hj, zup_n hj]
        exact ⟨rfl, rfl⟩
      · rw [hs2.at (by simp)]
        simp only [zwI_L, zwI_I, zwI_J, zwI_R, zwJ_L, zwJ_I, zwJ_J, zwJ_R, zwR_L, zwR_I, zwR_J, zwR_R, zw2_s, zw2_n, ne_eq, not_false_eq_true, reduceCtorEq, not_true_eq_false, Nat.reduceEqDiff]
        rw [zup_s]
      · rw [hs2.at (by simp)]
        simp only [zwI_L, zwI_I, zwI_J, zwI_R, zwJ_L, zwJ_I, zwJ_J, zwJ_R, zwR_L, zwR_I, zwR_J, zwR_R, zw2_s, zw2_n, ne_eq, not_false_eq_true, reduceCtorEq, not_true_eq_false, Nat.reduceEqDiff]
        rw [zup_s]
  · exact h.elim
