/-! DeltaRunsModel act -/
theorem zd_X8_act_0 : decode cX8_act 0 = .ok (.iconst 0, 1) := by decide +kernel
theorem zd_X8_act_1 : decode cX8_act 1 = .ok (.istore_n 2, 1) := by decide +kernel
theorem zd_X8_act_2 : decode cX8_act 2 = .ok (.iload_n 2, 1) := by decide +kernel
theorem zd_X8_act_3 : decode cX8_act 3 = .ok (.aload_n 0, 1) := by decide +kernel
theorem zd_X8_act_4 : decode cX8_act 4 = .ok (.getfield 195, 3) := by decide +kernel
theorem zd_X8_act_7 : decode cX8_act 7 = .ok (.if_icmp .ge 180, 3) := by decide +kernel
theorem zd_X8_act_10 : decode cX8_act 10 = .ok (.aload_n 0, 1) := by decide +kernel
theorem zd_X8_act_11 : decode cX8_act 11 = .ok (.getfield 29, 3) := by decide +kernel
theorem zd_X8_act_14 : decode cX8_act 14 = .ok (.iload_n 2, 1) := by decide +kernel
theorem zd_X8_act_15 : decode cX8_act 15 = .ok (.iaload, 1) := by decide +kernel
theorem zd_X8_act_16 : decode cX8_act 16 = .ok (.iload_n 1, 1) := by decide +kernel
theorem zd_X8_act_17 : decode cX8_act 17 = .ok (.if_icmp .ne 164, 3) := by decide +kernel
theorem zd_X8_act_20 : decode cX8_act 20 = .ok (.aload_n 0, 1) := by decide +kernel
theorem zd_X8_act_21 : decode cX8_act 21 = .ok (.aload_n 0, 1) := by decide +kernel
theorem zd_X8_act_22 : decode cX8_act 22 = .ok (.getfield 32, 3) := by decide +kernel
theorem zd_X8_act_25 : decode cX8_act 25 = .ok (.iload_n 2, 1) := by decide +kernel
theorem zd_X8_act_26 : decode cX8_act 26 = .ok (.iaload, 1) := by decide +kernel
theorem zd_X8_act_27 : decode cX8_act 27 = .ok (.aload_n 0, 1) := by decide +kernel
theorem zd_X8_act_28 : decode cX8_act 28 = .ok (.getfield 35, 3) := by decide +kernel
theorem zd_X8_act_31 : decode cX8_act 31 = .ok (.iload_n 2, 1) := by decide +kernel
theorem zd_X8_act_32 : decode cX8_act 32 = .ok (.iaload, 1) := by decide +kernel
theorem zd_X8_act_33 : decode cX8_act 33 = .ok (.invokevirtual 121, 3) := by decide +kernel
theorem zd_X8_act_36 : decode cX8_act 36 = .ok (.ifCond .ne 6, 3) := by decide +kernel
theorem zd_X8_act_39 : decode cX8_act 39 = .ok (.goto 142, 3) := by decide +kernel
theorem zd_X8_act_42 : decode cX8_act 42 = .ok (.aload_n 0, 1) := by decide +kernel
theorem zd_X8_act_43 : decode cX8_act 43 = .ok (.getfield 35, 3) := by decide +kernel
theorem zd_X8_act_46 : decode cX8_act 46 = .ok (.iload_n 2, 1) := by decide +kernel
theorem zd_X8_act_47 : decode cX8_act 47 = .ok (.iaload, 1) := by decide +kernel
theorem zd_X8_act_48 : decode cX8_act 48 = .ok (.aload_n 0, 1) := by decide +kernel
theorem zd_X8_act_49 : decode cX8_act 49 = .ok (.getfield 7, 3) := by decide +kernel
theorem zd_X8_act_52 : decode cX8_act 52 = .ok (.imul, 1) := by decide +kernel
theorem zd_X8_act_53 : decode cX8_act 53 = .ok (.aload_n 0, 1) := by decide +kernel
theorem zd_X8_act_54 : decode cX8_act 54 = .ok (.getfield 32, 3) := by decide +kernel
theorem zd_X8_act_57 : decode cX8_act 57 = .ok (.iload_n 2, 1) := by decide +kernel
theorem zd_X8_act_58 : decode cX8_act 58 = .ok (.iaload, 1) := by decide +kernel
theorem zd_X8_act_59 : decode cX8_act 59 = .ok (.iadd, 1) := by decide +kernel
theorem zd_X8_act_60 : decode cX8_act 60 = .ok (.istore_n 3, 1) := by decide +kernel
theorem zd_X8_act_61 : decode cX8_act 61 = .ok (.aload_n 0, 1) := by decide +kernel
theorem zd_X8_act_62 : decode cX8_act 62 = .ok (.getfield 26, 3) := by decide +kernel
theorem zd_X8_act_65 : decode cX8_act 65 = .ok (.iload_n 2, 1) := by decide +kernel
theorem zd_X8_act_66 : decode cX8_act 66 = .ok (.iaload, 1) := by decide +kernel
theorem zd_X8_act_67 : decode cX8_act 67 = .ok (.iconst 2, 1) := by decide +kernel
theorem zd_X8_act_68 : decode cX8_act 68 = .ok (.if_icmp .ge 26, 3) := by decide +kernel
theorem zd_X8_act_71 : decode cX8_act 71 = .ok (.aload_n 0, 1) := by decide +kernel
theorem zd_X8_act_72 : decode cX8_act 72 = .ok (.getfield 53, 3) := by decide +kernel
theorem zd_X8_act_75 : decode cX8_act 75 = .ok (.iload_n 3, 1) := by decide +kernel
theorem zd_X8_act_76 : decode cX8_act 76 = .ok (.aload_n 0, 1) := by decide +kernel
theorem zd_X8_act_77 : decode cX8_act 77 = .ok (.getfield 26, 3) := by decide +kernel
theorem zd_X8_act_80 : decode cX8_act 80 = .ok (.iload_n 2, 1) := by decide +kernel
theorem zd_X8_act_81 : decode cX8_act 81 = .ok (.iaload, 1) := by decide +kernel
theorem zd_X8_act_82 : decode cX8_act 82 = .ok (.ifCond .ne 7, 3) := by decide +kernel
theorem zd_X8_act_85 : decode cX8_act 85 = .ok (.iconst 1, 1) := by decide +kernel
theorem zd_X8_act_86 : decode cX8_act 86 = .ok (.goto 4, 3) := by decide +kernel
theorem zd_X8_act_89 : decode cX8_act 89 = .ok (.iconst 0, 1) := by decide +kernel
theorem zd_X8_act_90 : decode cX8_act 90 = .ok (.bastore, 1) := by decide +kernel
theorem zd_X8_act_91 : decode cX8_act 91 = .ok (.goto 90, 3) := by decide +kernel
theorem zd_X8_act_94 : decode cX8_act 94 = .ok (.aload_n 0, 1) := by decide +kernel
theorem zd_X8_act_95 : decode cX8_act 95 = .ok (.getfield 26, 3) := by decide +kernel
theorem zd_X8_act_98 : decode cX8_act 98 = .ok (.iload_n 2, 1) := by decide +kernel
theorem zd_X8_act_99 : decode cX8_act 99 = .ok (.iaload, 1) := by decide +kernel
theorem zd_X8_act_100 : decode cX8_act 100 = .ok (.iconst 2, 1) := by decide +kernel
theorem zd_X8_act_101 : decode cX8_act 101 = .ok (.if_icmp .ne 44, 3) := by decide +kernel
theorem zd_X8_act_104 : decode cX8_act 104 = .ok (.aload_n 0, 1) := by decide +kernel
theorem zd_X8_act_105 : decode cX8_act 105 = .ok (.getfield 50, 3) := by decide +kernel
theorem zd_X8_act_108 : decode cX8_act 108 = .ok (.iload_n 3, 1) := by decide +kernel
theorem zd_X8_act_109 : decode cX8_act 109 = .ok (.aload_n 0, 1) := by decide +kernel
theorem zd_X8_act_110 : decode cX8_act 110 = .ok (.getfield 50, 3) := by decide +kernel
theorem zd_X8_act_113 : decode cX8_act 113 = .ok (.iload_n 3, 1) := by decide +kernel
theorem zd_X8_act_114 : decode cX8_act 114 = .ok (.iaload, 1) := by decide +kernel
theorem zd_X8_act_115 : decode cX8_act 115 = .ok (.aload_n 0, 1) := by decide +kernel
theorem zd_X8_act_116 : decode cX8_act 116 = .ok (.getfield 38, 3) := by decide +kernel
theorem zd_X8_act_119 : decode cX8_act 119 = .ok (.iload_n 2, 1) := by decide +kernel
theorem zd_X8_act_120 : decode cX8_act 120 = .ok (.iaload, 1) := by decide +kernel
theorem zd_X8_act_121 : decode cX8_act 121 = .ok (.if_icmp .ge 7, 3) := by decide +kernel
theorem zd_X8_act_124 : decode cX8_act 124 = .ok (.iconst 0, 1) := by decide +kernel
theorem zd_X8_act_125 : decode cX8_act 125 = .ok (.goto 16, 3) := by decide +kernel
theorem zd_X8_act_128 : decode cX8_act 128 = .ok (.aload_n 0, 1) := by decide +kernel
theorem zd_X8_act_129 : decode cX8_act 129 = .ok (.getfield 50, 3) := by decide +kernel
theorem zd_X8_act_132 : decode cX8_act 132 = .ok (.iload_n 3, 1) := by decide +kernel
theorem zd_X8_act_133 : decode cX8_act 133 = .ok (.iaload, 1) := by decide +kernel
theorem zd_X8_act_134 : decode cX8_act 134 = .ok (.aload_n 0, 1) := by decide +kernel
theorem zd_X8_act_135 : decode cX8_act 135 = .ok (.getfield 38, 3) := by decide +kernel
theorem zd_X8_act_138 : decode cX8_act 138 = .ok (.iload_n 2, 1) := by decide +kernel
theorem zd_X8_act_139 : decode cX8_act 139 = .ok (.iaload, 1) := by decide +kernel
theorem zd_X8_act_140 : decode cX8_act 140 = .ok (.isub, 1) := by decide +kernel
theorem zd_X8_act_141 : decode cX8_act 141 = .ok (.iastore, 1) := by decide +kernel
theorem zd_X8_act_142 : decode cX8_act 142 = .ok (.goto 39, 3) := by decide +kernel
theorem zd_X8_act_145 : decode cX8_act 145 = .ok (.aload_n 0, 1) := by decide +kernel
theorem zd_X8_act_146 : decode cX8_act 146 = .ok (.getfield 50, 3) := by decide +kernel
theorem zd_X8_act_149 : decode cX8_act 149 = .ok (.iload_n 3, 1) := by decide +kernel
theorem zd_X8_act_150 : decode cX8_act 150 = .ok (.aload_n 0, 1) := by decide +kernel
theorem zd_X8_act_151 : decode cX8_act 151 = .ok (.getfield 50, 3) := by decide +kernel
theorem zd_X8_act_154 : decode cX8_act 154 = .ok (.iload_n 3, 1) := by decide +kernel
theorem zd_X8_act_155 : decode cX8_act 155 = .ok (.iaload, 1) := by decide +kernel
theorem zd_X8_act_156 : decode cX8_act 156 = .ok (.aload_n 0, 1) := by decide +kernel
theorem zd_X8_act_157 : decode cX8_act 157 = .ok (.getfield 38, 3) := by decide +kernel
theorem zd_X8_act_160 : decode cX8_act 160 = .ok (.iload_n 2, 1) := by decide +kernel
theorem zd_X8_act_161 : decode cX8_act 161 = .ok (.iaload, 1) := by decide +kernel
theorem zd_X8_act_162 : decode cX8_act 162 = .ok (.if_icmp .le 12, 3) := by decide +kernel
theorem zd_X8_act_165 : decode cX8_act 165 = .ok (.aload_n 0, 1) := by decide +kernel
theorem zd_X8_act_166 : decode cX8_act 166 = .ok (.getfield 38, 3) := by decide +kernel
theorem zd_X8_act_169 : decode cX8_act 169 = .ok (.iload_n 2, 1) := by decide +kernel
theorem zd_X8_act_170 : decode cX8_act 170 = .ok (.iaload, 1) := by decide +kernel
theorem zd_X8_act_171 : decode cX8_act 171 = .ok (.goto 9, 3) := by decide +kernel
theorem zd_X8_act_174 : decode cX8_act 174 = .ok (.aload_n 0, 1) := by decide +kernel
theorem zd_X8_act_175 : decode cX8_act 175 = .ok (.getfield 50, 3) := by decide +kernel
theorem zd_X8_act_178 : decode cX8_act 178 = .ok (.iload_n 3, 1) := by decide +kernel
theorem zd_X8_act_179 : decode cX8_act 179 = .ok (.iaload, 1) := by decide +kernel
theorem zd_X8_act_180 : decode cX8_act 180 = .ok (.iastore, 1) := by decide +kernel
theorem zd_X8_act_181 : decode cX8_act 181 = .ok (.iinc 2 1, 3) := by decide +kernel
theorem zd_X8_act_184 : decode cX8_act 184 = .ok (.goto (-182), 3) := by decide +kernel
theorem zd_X8_act_187 : decode cX8_act 187 = .ok (.return_, 1) := by decide +kernel
def zb_X8_act_0 (K : zKt) (J : Nat → zPP) : zPP := zT_push (.int 0) (zT_ist 2 (J 2))
theorem zbs_X8_act_0 {X : zCt} (hR : zRX X = { frames := 2, cells := 0, slots := 0, locals := 47 }) (J : Nat → zPP) (hJ : ∀ h ∈ ([2] : List Nat), zSd X RX8 "act" cX8_act 4 none h (J h)) : zSd X RX8 "act" cX8_act 4 none 0 (zb_X8_act_0 (zKX X) J) := zs_iconst zd_X8_act_0 (by decide) (zs_istore_n zd_X8_act_1 rfl (by decide) (hJ 2 (by decide)))
def zb_X8_act_181 (K : zKt) (J : Nat → zPP) : zPP := zT_iinc 2 1 (J 2)
theorem zbs_X8_act_181 {X : zCt} (hR : zRX X = { frames := 2, cells := 0, slots := 0, locals := 47 }) (J : Nat → zPP) (hJ : ∀ h ∈ ([2] : List Nat), zSd X RX8 "act" cX8_act 4 none h (J h)) : zSd X RX8 "act" cX8_act 4 none 181 (zb_X8_act_181 (zKX X) J) := zs_iinc zd_X8_act_181 (by decide) (by decide) (zs_goto (tgt := 2) zd_X8_act_184 (by decide) (hJ 2 (by decide)))
def zb_X8_act_90 (K : zKt) (J : Nat → zPP) : zPP := zT_zast (zb_X8_act_181 K J)
theorem zbs_X8_act_90 {X : zCt} (hR : zRX X = { frames := 2, cells := 0, slots := 0, locals := 47 }) (J : Nat → zPP) (hJ : ∀ h ∈ ([2] : List Nat), zSd X RX8 "act" cX8_act 4 none h (J h)) : zSd X RX8 "act" cX8_act 4 none 90 (zb_X8_act_90 (zKX X) J) := zs_zast zd_X8_act_90 (zs_goto (tgt := 181) zd_X8_act_91 (by decide) (zbs_X8_act_181 hR J hJ))
def zb_X8_act_141 (K : zKt) (J : Nat → zPP) : zPP := zT_iast (zb_X8_act_181 K J)
theorem zbs_X8_act_141 {X : zCt} (hR : zRX X = { frames := 2, cells := 0, slots := 0, locals := 47 }) (J : Nat → zPP) (hJ : ∀ h ∈ ([2] : List Nat), zSd X RX8 "act" cX8_act 4 none h (J h)) : zSd X RX8 "act" cX8_act 4 none 141 (zb_X8_act_141 (zKX X) J) := zs_iast zd_X8_act_141 (zs_goto (tgt := 181) zd_X8_act_142 (by decide) (zbs_X8_act_181 hR J hJ))
def zb_X8_act_180 (K : zKt) (J : Nat → zPP) : zPP := zT_iast (zb_X8_act_181 K J)
theorem zbs_X8_act_180 {X : zCt} (hR : zRX X = { frames := 2, cells := 0, slots := 0, locals := 47 }) (J : Nat → zPP) (hJ : ∀ h ∈ ([2] : List Nat), zSd X RX8 "act" cX8_act 4 none h (J h)) : zSd X RX8 "act" cX8_act 4 none 180 (zb_X8_act_180 (zKX X) J) := zs_iast zd_X8_act_180 (zbs_X8_act_181 hR J hJ)
def zb_X8_act_2 (K : zKt) (J : Nat → zPP) : zPP := zT_ild 2 (zT_ald 0 (zT_getI 8 8 38 (zT_if2 (fun x y => y ≤ x) (zT_vret K) (zT_ald 0 (zT_getR 8 10 38 (zT_ild 2 (zT_ald0 0 (zT_ild 1 (zT_if2 (fun x y => x = y) (zT_ald 0 (zT_ald 0 (zT_getR 8 11 38 (zT_ild 2 (zT_ald0 0 (zT_ald 0 (zT_getR 8 12 38 (zT_ild 2 (zT_ald0 0 (zT_V2 zok 8 38 zc_X8_isCell (zT_if1 (fun x => x = 0) (zb_X8_act_181 K J) (zT_ald 0 (zT_getR 8 12 38 (zT_ild 2 (zT_ald0 0 (zT_ald 0 (zT_getI 8 2 38 (zT_bin (fun x y => x * y) (zT_ald 0 (zT_getR 8 11 38 (zT_ild 2 (zT_ald0 0 (zT_bin (fun x y => x + y) (zT_ist 3 (zT_ald 0 (zT_getR 8 9 38 (zT_ild 2 (zT_ald0 0 (zT_push (.int 2) (zT_if2 (fun x y => y ≤ x) (zT_ald 0 (zT_getR 8 9 38 (zT_ild 2 (zT_ald0 0 (zT_push (.int 2) (zT_if2 (fun x y => x = y) (zT_ald 0 (zT_getR 8 24 38 (zT_ild 3 (zT_ald 0 (zT_getR 8 24 38 (zT_ild 3 (zT_ald0 0 (zT_ald 0 (zT_getR 8 13 38 (zT_ild 2 (zT_ald0 0 (zT_if2 (fun x y => y ≤ x) (zT_ald 0 (zT_getR 8 24 38 (zT_ild 3 (zT_ald0 0 (zT_ald 0 (zT_getR 8 13 38 (zT_ild 2 (zT_ald0 0 (zT_bin (fun x y => x - y) (zb_X8_act_141 K J)))))))))) (zT_push (.int 0) (zb_X8_act_141 K J)))))))))))))) (zT_ald 0 (zT_getR 8 24 38 (zT_ild 3 (zT_ald 0 (zT_getR 8 24 38 (zT_ild 3 (zT_ald0 0 (zT_ald 0 (zT_getR 8 13 38 (zT_ild 2 (zT_ald0 0 (zT_if2 (fun x y => x ≤ y) (zT_ald 0 (zT_getR 8 24 38 (zT_ild 3 (zT_ald0 0 (zb_X8_act_180 K J))))) (zT_ald 0 (zT_getR 8 13 38 (zT_ild 2 (zT_ald0 0 (zb_X8_act_180 K J))))))))))))))))))))))) (zT_ald 0 (zT_getR 8 25 38 (zT_ild 3 (zT_ald 0 (zT_getR 8 9 38 (zT_ild 2 (zT_ald0 0 (zT_if1 (fun x => x = 0) (zT_push (.int 1) (zb_X8_act_90 K J)) (zT_push (.int 0) (zb_X8_act_90 K J)))))))))))))))))))))))))))))))))))))))) (zb_X8_act_181 K J))))))))))
theorem zbs_X8_act_2 {X : zCt} (hR : zRX X = { frames := 2, cells := 0, slots := 0, locals := 47 }) (J : Nat → zPP) (hJ : ∀ h ∈ ([2] : List Nat), zSd X RX8 "act" cX8_act 4 none h (J h)) : zSd X RX8 "act" cX8_act 4 none 2 (zb_X8_act_2 (zKX X) J) := zs_iload_n zd_X8_act_2 rfl (zs_aload_n zd_X8_act_3 rfl (zs_getI (ci := 8) (j := 8) (T := TX8) rfl inX8 (by decide) gw_3_97 rfl zd_X8_act_4 (zs_icmp_ge (tgt := 187) zd_X8_act_7 (by decide) (zs_vret rfl zd_X8_act_187) (zs_aload_n zd_X8_act_10 rfl (zs_getR (ci := 8) (j := 10) (T := TX8) rfl inX8 (by decide) gw_3_99 rfl zd_X8_act_11 (zs_iload_n zd_X8_act_14 rfl (zs_iald zd_X8_act_15 (zs_iload_n zd_X8_act_16 rfl (zs_icmp_ne (tgt := 181) zd_X8_act_17 (by decide) (zbs_X8_act_181 hR J hJ) (zs_aload_n zd_X8_act_20 rfl (zs_aload_n zd_X8_act_21 rfl (zs_getR (ci := 8) (j := 11) (T := TX8) rfl inX8 (by decide) gw_3_100 rfl zd_X8_act_22 (zs_iload_n zd_X8_act_25 rfl (zs_iald zd_X8_act_26 (zs_aload_n zd_X8_act_27 rfl (zs_getR (ci := 8) (j := 12) (T := TX8) rfl inX8 (by decide) gw_3_101 rfl zd_X8_act_28 (zs_iload_n zd_X8_act_31 rfl (zs_iald zd_X8_act_32 (zs_V (ci := 8) rfl rfl (zm_X8_isCell _ _ _) gw_3_226 gw_3_223 gw_3_225 gw_0_24 gw_1_7 zdn_X8_isCell (zrm hR (by decide) (by decide)) zd_X8_act_33 (zCl_V2 zok_l) (zs_if_ne (tgt := 42) zd_X8_act_36 (by decide) (zs_aload_n zd_X8_act_42 rfl (zs_getR (ci := 8) (j := 12) (T := TX8) rfl inX8 (by decide) gw_3_101 rfl zd_X8_act_43 (zs_iload_n zd_X8_act_46 rfl (zs_iald zd_X8_act_47 (zs_aload_n zd_X8_act_48 rfl (zs_getI (ci := 8) (j := 2) (T := TX8) rfl inX8 (by decide) gw_3_91 rfl zd_X8_act_49 (zs_imul zd_X8_act_52 (zs_aload_n zd_X8_act_53 rfl (zs_getR (ci := 8) (j := 11) (T := TX8) rfl inX8 (by decide) gw_3_100 rfl zd_X8_act_54 (zs_iload_n zd_X8_act_57 rfl (zs_iald zd_X8_act_58 (zs_iadd zd_X8_act_59 (zs_istore_n zd_X8_act_60 rfl (by decide) (zs_aload_n zd_X8_act_61 rfl (zs_getR (ci := 8) (j := 9) (T := TX8) rfl inX8 (by decide) gw_3_98 rfl zd_X8_act_62 (zs_iload_n zd_X8_act_65 rfl (zs_iald zd_X8_act_66 (zs_iconst zd_X8_act_67 (by decide) (zs_icmp_ge (tgt := 94) zd_X8_act_68 (by decide) (zs_aload_n zd_X8_act_94 rfl (zs_getR (ci := 8) (j := 9) (T := TX8) rfl inX8 (by decide) gw_3_98 rfl zd_X8_act_95 (zs_iload_n zd_X8_act_98 rfl (zs_iald zd_X8_act_99 (zs_iconst zd_X8_act_100 (by decide) (zs_icmp_ne (tgt := 145) zd_X8_act_101 (by decide) (zs_aload_n zd_X8_act_145 rfl (zs_getR (ci := 8) (j := 24) (T := TX8) rfl inX8 (by decide) gw_3_113 rfl zd_X8_act_146 (zs_iload_n zd_X8_act_149 rfl (zs_aload_n zd_X8_act_150 rfl (zs_getR (ci := 8) (j := 24) (T := TX8) rfl inX8 (by decide) gw_3_113 rfl zd_X8_act_151 (zs_iload_n zd_X8_act_154 rfl (zs_iald zd_X8_act_155 (zs_aload_n zd_X8_act_156 rfl (zs_getR (ci := 8) (j := 13) (T := TX8) rfl inX8 (by decide) gw_3_102 rfl zd_X8_act_157 (zs_iload_n zd_X8_act_160 rfl (zs_iald zd_X8_act_161 (zs_icmp_le (tgt := 174) zd_X8_act_162 (by decide) (zs_aload_n zd_X8_act_174 rfl (zs_getR (ci := 8) (j := 24) (T := TX8) rfl inX8 (by decide) gw_3_113 rfl zd_X8_act_175 (zs_iload_n zd_X8_act_178 rfl (zs_iald zd_X8_act_179 (zbs_X8_act_180 hR J hJ))))) (zs_aload_n zd_X8_act_165 rfl (zs_getR (ci := 8) (j := 13) (T := TX8) rfl inX8 (by decide) gw_3_102 rfl zd_X8_act_166 (zs_iload_n zd_X8_act_169 rfl (zs_iald zd_X8_act_170 (zs_goto (tgt := 180) zd_X8_act_171 (by decide) (zbs_X8_act_180 hR J hJ)))))))))))))))))) (zs_aload_n zd_X8_act_104 rfl (zs_getR (ci := 8) (j := 24) (T := TX8) rfl inX8 (by decide) gw_3_113 rfl zd_X8_act_105 (zs_iload_n zd_X8_act_108 rfl (zs_aload_n zd_X8_act_109 rfl (zs_getR (ci := 8) (j := 24) (T := TX8) rfl inX8 (by decide) gw_3_113 rfl zd_X8_act_110 (zs_iload_n zd_X8_act_113 rfl (zs_iald zd_X8_act_114 (zs_aload_n zd_X8_act_115 rfl (zs_getR (ci := 8) (j := 13) (T := TX8) rfl inX8 (by decide) gw_3_102 rfl zd_X8_act_116 (zs_iload_n zd_X8_act_119 rfl (zs_iald zd_X8_act_120 (zs_icmp_ge (tgt := 128) zd_X8_act_121 (by decide) (zs_aload_n zd_X8_act_128 rfl (zs_getR (ci := 8) (j := 24) (T := TX8) rfl inX8 (by decide) gw_3_113 rfl zd_X8_act_129 (zs_iload_n zd_X8_act_132 rfl (zs_iald zd_X8_act_133 (zs_aload_n zd_X8_act_134 rfl (zs_getR (ci := 8) (j := 13) (T := TX8) rfl inX8 (by decide) gw_3_102 rfl zd_X8_act_135 (zs_iload_n zd_X8_act_138 rfl (zs_iald zd_X8_act_139 (zs_isub zd_X8_act_140 (zbs_X8_act_141 hR J hJ)))))))))) (zs_iconst zd_X8_act_124 (by decide) (zs_goto (tgt := 141) zd_X8_act_125 (by decide) (zbs_X8_act_141 hR J hJ))))))))))))))))))))) (zs_aload_n zd_X8_act_71 rfl (zs_getR (ci := 8) (j := 25) (T := TX8) rfl inX8 (by decide) gw_3_114 rfl zd_X8_act_72 (zs_iload_n zd_X8_act_75 rfl (zs_aload_n zd_X8_act_76 rfl (zs_getR (ci := 8) (j := 9) (T := TX8) rfl inX8 (by decide) gw_3_98 rfl zd_X8_act_77 (zs_iload_n zd_X8_act_80 rfl (zs_iald zd_X8_act_81 (zs_if_ne (tgt := 89) zd_X8_act_82 (by decide) (zs_iconst zd_X8_act_89 (by decide) (zbs_X8_act_90 hR J hJ)) (zs_iconst zd_X8_act_85 (by decide) (zs_goto (tgt := 90) zd_X8_act_86 (by decide) (zbs_X8_act_90 hR J hJ)))))))))))))))))))))))))))))) (zs_goto (tgt := 181) zd_X8_act_39 (by decide) (zbs_X8_act_181 hR J hJ))))))))))))))))))))))
def zB_X8_act (K : zKt) (J : Nat → zPP) (h : Nat) : zPP := if h = 2 then zb_X8_act_2 K J else (fun _ _ _ => False)
theorem zBs_X8_act {X : zCt} (hR : zRX X = { frames := 2, cells := 0, slots := 0, locals := 47 }) : ∀ J : Nat → zPP, (∀ h ∈ ([2] : List Nat), zSd X RX8 "act" cX8_act 4 none h (J h)) → ∀ h ∈ ([2] : List Nat), zSd X RX8 "act" cX8_act 4 none h (zB_X8_act (zKX X) J h) := by
  intro J hJ h hh
  unfold zB_X8_act
  simp only [List.mem_cons, List.not_mem_nil, or_false] at hh
  subst hh
  exact zbs_X8_act_2 hR J hJ
theorem zdn_X8_act : yX8_act.cls ≠ "java/lang/invoke/MethodHandle" ∧ yX8_act.cls ≠ "java/lang/invoke/VarHandle" ∧ (parseMethodDescriptor yX8_act.desc).map (fun d => d.parameters.length) = some 1 := by decide +kernel
def zc_X8_act (a : List Value) (M : zMm) (K : zKt) : Prop := match a with
  | [.ref k, .int x] => k = 200 ∧ zMr M ∧ ∃ σ n H D, zMS M σ ∧ x = nI n ∧ n ≤ 30 ∧ zmh M (sW σ) (sH σ) H ∧ zmd M (sW σ) (sH σ) D ∧ ∀ M', zsm [209, 210] M M' → zmh M' (sW σ) (sH σ) (whk (sW σ) (sH σ) n (sA σ) H) → zmd M' (sW σ) (sH σ) (wdk (sW σ) (sH σ) n (sA σ) D) → K none M'
  | _ => False
set_option maxHeartbeats 2000000 in
theorem zm_X8_act (l : Launch) (D : va_G) (Y : Nat → ClassId) : zMt l D Y yX8_act cX8_act 4 none 2 47 0 0 zc_X8_act := by
  refine zwhile1 (h0 := 2) (by decide) (fun K J _ _ => zb_X8_act_0 K J) (fun K _ _ J => zb_X8_act_2 K J) (fun X hR J hJ => zbs_X8_act_0 hR J hJ) (fun X hR J hJ => zbs_X8_act_2 hR J hJ) (fun avs M K h => ?_)
  unfold zc_X8_act at h
  split at h
  · next k x =>
    obtain ⟨rfl, g1, σ, n, H, D, ⟨ok, w1, w2, w3, w4, w5, w6, w7, w8, w9⟩, rfl, hn, hH, hD, h⟩ := h
    obtain ⟨k1, k2, k3, k4, k5, k6, k7, k8, k9⟩ := id ok
    obtain ⟨r7, r9, r10, r11, r12, r13, -, -, r24, r25, -⟩ := id g1
    refine ⟨by simp [zent], fun q M' ls st => ∃ i o, q = 20 - i ∧ i ≤ (sA σ).length ∧ ls = [some (.ref 200), some (.int (nI n)), some (.int (nI i)), o] ∧ st = [] ∧ zsm [209, 210] M M' ∧ zmh M' (sW σ) (sH σ) (whk (sW σ) (sH σ) n ((sA σ).take i) H) ∧ zmd M' (sW σ) (sH σ) (wdk (sW σ) (sH σ) n ((sA σ).take i) D), ?_, ?_⟩
    · rintro q J hJ M' ls st ⟨i, o, rfl, hi, rfl, rfl, hs, hh, hd⟩
      have eI : ∀ k, k ≠ 209 → k ≠ 210 → M'.2.1 k = M.2.1 k := fun k a b => hs.at (by simp; omega)
      have eR := hs.R
      simp only [zb_X8_act_2, zsh_200, zsh_202, zsh_203, zsh_204, zsh_205, zsh_206, zsh_209, zsh_210, eR, r7, r9, r10, r11, r12, r13, r24, r25, eI 200 (by decide) (by decide), eI 202 (by decide) (by decide), eI 203 (by decide) (by decide), eI 204 (by decide) (by decide), eI 205 (by decide) (by decide), eI 206 (by decide) (by decide), w1, w7, zT_push, zT_bin, zT_div, zT_bil, zT_shl, zT_un, zT_i2l, zT_l2i, zT_lcmp, zT_ild, zT_lld, zT_ald, zT_ist, zT_lst, zT_ast, zT_iinc, zT_dup, zT_dup2, zT_pop, zT_if1, zT_if2, zT_ifn, zT_getI, zT_getJ, zT_getR, zT_putI, zT_putZ, zT_putJ, zT_putR, zT_ald0, zT_lald, zT_aald, zT_iast, zT_zast, zT_bast, zT_last, zT_aast, zT_iret, zT_nret, zT_aret, zT_vret, zT_oi, zT_mm, zT_ialX, zT_S1, zT_S2, zT_S3, zT_V0, zT_V1, zT_V2, zT_V3, zT_V4, zT_V5, zT_V6, zT_I0, zT_I1, zT_I2, zlg, zlset, zlpr, zent, zok, va_rf, List.length_cons, List.length_nil, List.replicate, List.cons_append, List.nil_append, List.append_nil, Option.toList_some, Option.toList_none, Option.toList, Nat.reduceAdd, Nat.reduceSub, Nat.reduceLeDiff, Nat.zero_add, Nat.zero_le, true_and, and_true, Nat.le_refl, ge_iff_le, Nat.reduceEqDiff]
      refine ⟨fun h1 => ?_, fun h1 => ?_⟩
      · have := zn_ge' h1 (by omega) (by omega)
        have e : i = (sA σ).length := by omega
        subst e
        rw [List.take_length] at hh hd
        exact h M' hs hh hd
      · have hlt := zn_ge h1 (by omega) (by omega)
        obtain ⟨a, hga, htk⟩ := wab_get hlt
        obtain ⟨⟨a0, a1, a2, a3, a4⟩, b1, b2, b3, b4, b5⟩ := w9 i a hga
        have hnH : whk (sW σ) (sH σ) n ((sA σ).take (i + 1)) H = whk1 (sW σ) (sH σ) n (whk (sW σ) (sH σ) n ((sA σ).take i) H) a := by
          unfold whk
          rw [htk, List.foldl_append]
          rfl
        have hnD : wdk (sW σ) (sH σ) n ((sA σ).take (i + 1)) D = wdk1 (sW σ) (sH σ) n (wdk (sW σ) (sH σ) n ((sA σ).take i) D) a := by
          unfold wdk
          rw [htk, List.foldl_append]
          rfl
        have skip : ∀ M2 o, zsm [209, 210] M M2 → zmh M2 (sW σ) (sH σ) (whk1 (sW σ) (sH σ) n (whk (sW σ) (sH σ) n ((sA σ).take i) H) a) → zmd M2 (sW σ) (sH σ) (wdk1 (sW σ) (sH σ) n (wdk (sW σ) (sH σ) n ((sA σ).take i) D) a) → zb_X8_act_181 K J M2 [some (.ref 200), some (.int (nI n)), some (.int (nI i)), o] [] := by
          intro M2 o hs2 hh2 hd2
          simp only [zb_X8_act_181, zT_push, zT_bin, zT_div, zT_bil, zT_shl, zT_un, zT_i2l, zT_l2i, zT_lcmp, zT_ild, zT_lld, zT_ald, zT_ist, zT_lst, zT_ast, zT_iinc, zT_dup, zT_dup2, zT_pop, zT_if1, zT_if2, zT_ifn, zT_getI, zT_getJ, zT_getR, zT_putI, zT_putZ, zT_putJ, zT_putR, zT_ald0, zT_lald, zT_aald, zT_iast, zT_zast, zT_bast, zT_last, zT_aast, zT_iret, zT_nret, zT_aret, zT_vret, zT_oi, zT_mm, zT_ialX, zT_S1, zT_S2, zT_S3, zT_V0, zT_V1, zT_V2, zT_V3, zT_V4, zT_V5, zT_V6, zT_I0, zT_I1, zT_I2, zlg, zlset, zlpr, zent, zok, va_rf, List.length_cons, List.length_nil, List.replicate, List.cons_append, List.nil_append, List.append_nil, Option.toList_some, Option.toList_none, Option.toList, Nat.reduceAdd, Nat.reduceSub, Nat.reduceLeDiff, Nat.zero_add, Nat.zero_le, true_and, and_true, Nat.le_refl, ge_iff_le, Nat.reduceEqDiff]
          exact hJ (20 - (i + 1)) _ _ _ (by omega) ⟨i + 1, o, rfl, hlt, by rw [nI_1], rfl, hs2, by rw [hnH]; exact hh2, by rw [hnD]; exact hd2⟩
        have hin : vp_in (nI i) 20 := vp_in_nI (by omega) (by decide)
        rw [nI_clamp (by omega), b2]
        refine ⟨hin, fun h2 => ⟨hin, hin, ?_⟩, fun h2 => ?_⟩
        · have e2 := (nI_eq (by omega) (by omega)).mp h2
          unfold zc_X8_isCell
          dsimp only
          refine ⟨rfl, sW σ, sH σ, by rw [eI 200 (by decide) (by decide)]; exact w1, by rw [eI 200 (by decide) (by decide)]; exact w2, by omega, k2, by omega, k4, ?_⟩
          rw [b3, b4]
          simp only [zbI_0, whas k2 k4 a2 a3, zsh_200, zsh_202, zsh_203, zsh_204, zsh_205, zsh_206, zsh_209, zsh_210, eR, r7, r9, r10, r11, r12, r13, r24, r25, eI 200 (by decide) (by decide), eI 202 (by decide) (by decide), eI 203 (by decide) (by decide), eI 204 (by decide) (by decide), eI 205 (by decide) (by decide), eI 206 (by decide) (by decide), w1, nI_clamp (show i < 2 ^ 31 by omega), b1, b3, b4, b5, pk_mul, nI_add, zT_push, zT_bin, zT_div, zT_bil, zT_shl, zT_un, zT_i2l, zT_l2i, zT_lcmp, zT_ild, zT_lld, zT_ald, zT_ist, zT_lst, zT_ast, zT_iinc, zT_dup, zT_dup2, zT_pop, zT_if1, zT_if2, zT_ifn, zT_getI, zT_getJ, zT_getR, zT_putI, zT_putZ, zT_putJ, zT_putR, zT_ald0, zT_lald, zT_aald, zT_iast, zT_zast, zT_bast, zT_last, zT_aast, zT_iret, zT_nret, zT_aret, zT_vret, zT_oi, zT_mm, zT_ialX, zT_S1, zT_S2, zT_S3, zT_V0, zT_V1, zT_V2, zT_V3, zT_V4, zT_V5, zT_V6, zT_I0, zT_I1, zT_I2, zlg, zlset, zlpr, zent, zok, va_rf, List.length_cons, List.length_nil, List.replicate, List.cons_append, List.nil_append, List.append_nil, Option.toList_some, Option.toList_none, Option.toList, Nat.reduceAdd, Nat.reduceSub, Nat.reduceLeDiff, Nat.zero_add, Nat.zero_le, true_and, and_true, Nat.le_refl, ge_iff_le, Nat.reduceEqDiff]
          refine ⟨fun h4 => skip M' _ hs ?_ ?_, fun h4 => ?_⟩
          · unfold whk1 wao?
            rw [if_neg (by simp only [decide_eq_true_eq]; exact fun z => h4 z.2)]
            exact hh
          · unfold wdk1 wao?
            rw [if_neg (by simp only [decide_eq_true_eq]; exact fun z => h4 z.2)]
            exact hd
          have h5 := Classical.not_not.mp h4
          have hon : wao? (sW σ) (sH σ) n a = true := by
            unfold wao?
            rw [decide_eq_true_eq]
            exact ⟨e2, h5⟩
          have hwil : wil (sW σ) (sH σ) (wao a * 12 + wax a) := ⟨by omega, by omega⟩
          have hmx := mI_xy (w := sW σ) (x := wax a) (y := wao a) (by omega)
          have hlt2 := mI_120 k2 k4 hwil
          obtain ⟨hcur, hcur2⟩ := hh _ hwil
          rw [hmx] at hlt2 hcur
          have hinc : vp_in (nI (wao a * sW σ + wax a)) 120 := vp_in_nI hlt2 (by decide)
          rw [nI_clamp (n := wao a * sW σ + wax a) (by omega), hcur]
          have hne : ∀ e, wil (sW σ) (sH σ) e → e ≠ wao a * 12 + wax a → mI (sW σ) e ≠ wao a * sW σ + wax a := fun e he e1 z => e1 (mI_inj he.1 hwil.1 (z.trans hmx.symm))
          have hst : ∀ v g, v = nI g → g ≤ 200 → zmh (zwI M' 209 (wao a * sW σ + wax a) v) (sW σ) (sH σ) (va_up (whk (sW σ) (sH σ) n ((sA σ).take i) H) (wao a * 12 + wax a) g) := by
            intro v g hv hg e he
            simp only [zwI_L, zwI_I, zwI_J, zwI_R, zwJ_L, zwJ_I, zwJ_J, zwJ_R, zwR_L, zwR_I, zwR_J, zwR_R, zw2_s, zw2_n, ne_eq, not_false_eq_true, reduceCtorEq, not_true_eq_false, Nat.reduceEqDiff]
            by_cases q : e = wao a * 12 + wax a
            · rw [q, hmx, zup_s, zup_s, hv]; exact ⟨rfl, hg⟩
            · rw [zup_n (hne e he q), zup_n q]; exact hh e he
          have hdw : ∀ v, zmd (zwI M' 209 (wao a * sW σ + wax a) v) (sW σ) (sH σ) (wdk (sW σ) (sH σ) n ((sA σ).take i) D) := by
            intro v e he
            simp only [zwI_L, zwI_I, zwI_J, zwI_R, zwJ_L, zwJ_I, zwJ_J, zwJ_R, zwR_L, zwR_I, zwR_J, zwR_R, zw2_s, zw2_n, ne_eq, not_false_eq_true, reduceCtorEq, not_true_eq_false, Nat.reduceEqDiff]
            exact hd e he
          have hdst : ∀ v (b : Bool), v = (if b = true then 1 else 0) → zmd (zwI M' 210 (wao a * sW σ + wax a) v) (sW σ) (sH σ) (va_up (wdk (sW σ) (sH σ) n ((sA σ).take i) D) (wao a * 12 + wax a) b) := by
            intro v b hv e he
            simp only [zwI_L, zwI_I, zwI_J, zwI_R, zwJ_L, zwJ_I, zwJ_J, zwJ_R, zwR_L, zwR_I, zwR_J, zwR_R, zw2_s, zw2_n, ne_eq, not_false_eq_true, reduceCtorEq, not_true_eq_false, Nat.reduceEqDiff]
            by_cases q : e = wao a * 12 + wax a
            · rw [q, hmx, zup_s, zup_s, hv]
            · rw [zup_n (hne e he q), zup_n q]; exact hd e he
          have hhw : ∀ v, zmh (zwI M' 210 (wao a * sW σ + wax a) v) (sW σ) (sH σ) (whk (sW σ) (sH σ) n ((sA σ).take i) H) := by
            intro v e he
            simp only [zwI_L, zwI_I, zwI_J, zwI_R, zwJ_L, zwJ_I, zwJ_J, zwJ_R, zwR_L, zwR_I, zwR_J, zwR_R, zw2_s, zw2_n, ne_eq, not_false_eq_true, reduceCtorEq, not_true_eq_false, Nat.reduceEqDiff]
            exact hh e he
          generalize hgg : whk (sW σ) (sH σ) n ((sA σ).take i) H (wao a * 12 + wax a) = g at hcur hcur2
          have S141 : ∀ v, v = nI (g - wab a) → wak a = 2 → zb_X8_act_141 K J M' [some (.ref 200), some (.int (nI n)), some (.int (nI i)), some (.int (nI (wao a * sW σ + wax a)))] [.int v, .int (nI (wao a * sW σ + wax a)), .ref 209] := by
            intro v hv hk
            simp only [zb_X8_act_141, zsh_209, nI_clamp (show wao a * sW σ + wax a < 2 ^ 31 by omega), zT_push, zT_bin, zT_div, zT_bil, zT_shl, zT_un, zT_i2l, zT_l2i, zT_lcmp, zT_ild, zT_lld, zT_ald, zT_ist, zT_lst, zT_ast, zT_iinc, zT_dup, zT_dup2, zT_pop, zT_if1, zT_if2, zT_ifn, zT_getI, zT_getJ, zT_getR, zT_putI, zT_putZ, zT_putJ, zT_putR, zT_ald0, zT_lald, zT_aald, zT_iast, zT_zast, zT_bast, zT_last, zT_aast, zT_iret, zT_nret, zT_aret, zT_vret, zT_oi, zT_mm, zT_ialX, zT_S1, zT_S2, zT_S3, zT_V0, zT_V1, zT_V2, zT_V3, zT_V4, zT_V5, zT_V6, zT_I0, zT_I1, zT_I2, zlg, zlset, zlpr, zent, zok, va_rf, List.length_cons, List.length_nil, List.replicate, List.cons_append, List.nil_append, List.append_nil, Option.toList_some, Option.toList_none, Option.toList, Nat.reduceAdd, Nat.reduceSub, Nat.reduceLeDiff, Nat.zero_add, Nat.zero_le, true_and, and_true, Nat.le_refl, ge_iff_le, Nat.reduceEqDiff]
            refine ⟨hinc, skip _ _ (hs.w (by simp)) ?_ ?_⟩
            · unfold whk1
              rw [if_pos hon, if_pos hk, hgg]
              exact hst _ _ hv (by omega)
            · unfold wdk1
              rw [if_pos hon, if_neg (by omega), if_neg (by omega)]
              exact hdw _
          have S180 : ∀ v, v = nI (if wab a < g then wab a else g) → wak a = 3 → zb_X8_act_180 K J M' [some (.ref 200), some (.int (nI n)), some (.int (nI i)), some (.int (nI (wao a * sW σ + wax a)))] [.int v, .int (nI (wao a * sW σ + wax a)), .ref 209] := by
            intro v hv hk
            simp only [zb_X8_act_180, zsh_209, nI_clamp (show wao a * sW σ + wax a < 2 ^ 31 by omega), zT_push, zT_bin, zT_div, zT_bil, zT_shl, zT_un, zT_i2l, zT_l2i, zT_lcmp, zT_ild, zT_lld, zT_ald, zT_ist, zT_lst, zT_ast, zT_iinc, zT_dup, zT_dup2, zT_pop, zT_if1, zT_if2, zT_ifn, zT_getI, zT_getJ, zT_getR, zT_putI, zT_putZ, zT_putJ, zT_putR, zT_ald0, zT_lald, zT_aald, zT_iast, zT_zast, zT_bast, zT_last, zT_aast, zT_iret, zT_nret, zT_aret, zT_vret, zT_oi, zT_mm, zT_ialX, zT_S1, zT_S2, zT_S3, zT_V0, zT_V1, zT_V2, zT_V3, zT_V4, zT_V5, zT_V6, zT_I0, zT_I1, zT_I2, zlg, zlset, zlpr, zent, zok, va_rf, List.length_cons, List.length_nil, List.replicate, List.cons_append, List.nil_append, List.append_nil, Option.toList_some, Option.toList_none, Option.toList, Nat.reduceAdd, Nat.reduceSub, Nat.reduceLeDiff, Nat.zero_add, Nat.zero_le, true_and, and_true, Nat.le_refl, ge_iff_le, Nat.reduceEqDiff]
            refine ⟨hinc, skip _ _ (hs.w (by simp)) ?_ ?_⟩
            · unfold whk1
              rw [if_pos hon, if_neg (by omega), if_pos hk, hgg]
              exact hst _ _ hv (by split <;> omega)
            · unfold wdk1
              rw [if_pos hon, if_neg (by omega), if_neg (by omega)]
              exact hdw _
          have S90 : ∀ v (b : Bool), (v = 0 ∨ v = 1) → v = (if b = true then 1 else 0) → (wak a = 0 ∧ b = true ∨ wak a = 1 ∧ b = false) → zb_X8_act_90 K J M' [some (.ref 200), some (.int (nI n)), some (.int (nI i)), some (.int (nI (wao a * sW σ + wax a)))] [.int v, .int (nI (wao a * sW σ + wax a)), .ref 210] := by
            intro v b hv01 hv hk
            simp only [zb_X8_act_90, zsh_210, nI_clamp (show wao a * sW σ + wax a < 2 ^ 31 by omega), zT_push, zT_bin, zT_div, zT_bil, zT_shl, zT_un, zT_i2l, zT_l2i, zT_lcmp, zT_ild, zT_lld, zT_ald, zT_ist, zT_lst, zT_ast, zT_iinc, zT_dup, zT_dup2, zT_pop, zT_if1, zT_if2, zT_ifn, zT_getI, zT_getJ, zT_getR, zT_putI, zT_putZ, zT_putJ, zT_putR, zT_ald0, zT_lald, zT_aald, zT_iast, zT_zast, zT_bast, zT_last, zT_aast, zT_iret, zT_nret, zT_aret, zT_vret, zT_oi, zT_mm, zT_ialX, zT_S1, zT_S2, zT_S3, zT_V0, zT_V1, zT_V2, zT_V3, zT_V4, zT_V5, zT_V6, zT_I0, zT_I1, zT_I2, zlg, zlset, zlpr, zent, zok, va_rf, List.length_cons, List.length_nil, List.replicate, List.cons_append, List.nil_append, List.append_nil, Option.toList_some, Option.toList_none, Option.toList, Nat.reduceAdd, Nat.reduceSub, Nat.reduceLeDiff, Nat.zero_add, Nat.zero_le, true_and, and_true, Nat.le_refl, ge_iff_le, Nat.reduceEqDiff]
            refine ⟨hinc, hv01, skip _ _ (hs.w (by simp)) ?_ ?_⟩
            · unfold whk1
              rw [if_pos hon, if_neg (by omega), if_neg (by omega)]
              exact hhw _
            · unfold wdk1
              rw [if_pos hon]
              rcases hk with ⟨hk, rfl⟩ | ⟨hk, rfl⟩
              · rw [if_pos hk]; exact hdst _ _ hv
              · rw [if_neg (by omega), if_pos hk]; exact hdst _ _ hv
          refine ⟨hin, hin, hin, fun h6 => ⟨hin, fun h7 => ⟨hinc, hin, fun h8 => ⟨hinc, hin, S141 _ ?_ ?_⟩, fun h8 => S141 _ ?_ ?_⟩, fun h7 => ⟨hinc, hin, fun h8 => ⟨hinc, S180 _ ?_ ?_⟩, fun h8 => ⟨hin, S180 _ ?_ ?_⟩⟩⟩, fun h6 => ⟨hin, fun h7 => S90 _ true (Or.inr rfl) rfl (Or.inl ⟨?_, rfl⟩), fun h7 => S90 _ false (Or.inl rfl) rfl (Or.inr ⟨?_, rfl⟩)⟩⟩
          · exact pk_sub ((nI_leI (by omega) (by omega)).mp h8)
          · exact (nI_eq (b := 2) (by omega) (by decide)).mp h7
          · have := zn_ge h8 (by omega) (by omega)
            rw [show g - wab a = 0 by omega]; rfl
          · exact (nI_eq (b := 2) (by omega) (by decide)).mp h7
          · have := (nI_leI (by omega) (by omega)).mp h8
            rw [if_neg (by omega)]
          · have z1 := zn_ge' (b := 2) h6 (by omega) (by decide)
            have z2 : ¬ wak a = 2 := fun z => h7 (by rw [z]; rfl)
            omega
          · have := zn_ge h8 (by omega) (by omega)
            rw [if_pos (by omega)]
          · have z1 := zn_ge' (b := 2) h6 (by omega) (by decide)
            have z2 : ¬ wak a = 2 := fun z => h7 (by rw [z]; rfl)
            omega
          · exact (nI_eq (b := 0) (by omega) (by decide)).mp h7
          · have z1 := zn_ge (b := 2) h6 (by omega) (by decide)
            have z2 : ¬ wak a = 0 := fun z => h7 (by rw [z]; rfl)
            omega
        · refine skip M' _ hs ?_ ?_
          · unfold whk1 wao?
            rw [if_neg (by simp only [decide_eq_true_eq]; exact fun z => h2 (by rw [z.1]))]
            exact hh
          · unfold wdk1 wao?
            rw [if_neg (by simp only [decide_eq_true_eq]; exact fun z => h2 (by rw [z.1]))]
            exact hd
    · intro J hJ
      simp only [zb_X8_act_0, zT_push, zT_bin, zT_div, zT_bil, zT_shl, zT_un, zT_i2l, zT_l2i, zT_lcmp, zT_ild, zT_lld, zT_ald, zT_ist, zT_lst, zT_ast, zT_iinc, zT_dup, zT_dup2, zT_pop, zT_if1, zT_if2, zT_ifn, zT_getI, zT_getJ, zT_getR, zT_putI, zT_putZ, zT_putJ, zT_putR, zT_ald0, zT_lald, zT_aald, zT_iast, zT_zast, zT_bast, zT_last, zT_aast, zT_iret, zT_nret, zT_aret, zT_vret, zT_oi, zT_mm, zT_ialX, zT_S1, zT_S2, zT_S3, zT_V0, zT_V1, zT_V2, zT_V3, zT_V4, zT_V5, zT_V6, zT_I0, zT_I1, zT_I2, zlg, zlset, zlpr, zent, zok, va_rf, List.length_cons, List.length_nil, List.replicate, List.cons_append, List.nil_append, List.append_nil, Option.toList_some, Option.toList_none, Option.toList, Nat.reduceAdd, Nat.reduceSub, Nat.reduceLeDiff, Nat.zero_add, Nat.zero_le, true_and, and_true, Nat.le_refl, ge_iff_le, Nat.reduceEqDiff]
      exact hJ 20 _ _ _ ⟨0, none, rfl, by omega, rfl, rfl, zsm.rf, hH, hD⟩
  · exact h.elim
