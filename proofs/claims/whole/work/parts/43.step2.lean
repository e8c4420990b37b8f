/-! DeltaRuns$Reader step -/
theorem zd_X3_step_0 : decode cX3_step 0 = .ok (.aload_n 0, 1) := by decide +kernel
theorem zd_X3_step_1 : decode cX3_step 1 = .ok (.aload_n 0, 1) := by decide +kernel
theorem zd_X3_step_2 : decode cX3_step 2 = .ok (.getfield 86, 3) := by decide +kernel
theorem zd_X3_step_5 : decode cX3_step 5 = .ok (.putfield 36, 3) := by decide +kernel
theorem zd_X3_step_8 : decode cX3_step 8 = .ok (.aload_n 0, 1) := by decide +kernel
theorem zd_X3_step_9 : decode cX3_step 9 = .ok (.getfield 36, 3) := by decide +kernel
theorem zd_X3_step_12 : decode cX3_step 12 = .ok (.aload_n 0, 1) := by decide +kernel
theorem zd_X3_step_13 : decode cX3_step 13 = .ok (.getfield 9, 3) := by decide +kernel
theorem zd_X3_step_16 : decode cX3_step 16 = .ok (.getfield 117, 3) := by decide +kernel
theorem zd_X3_step_19 : decode cX3_step 19 = .ok (.if_icmp .ge 33, 3) := by decide +kernel
theorem zd_X3_step_22 : decode cX3_step 22 = .ok (.aload_n 0, 1) := by decide +kernel
theorem zd_X3_step_23 : decode cX3_step 23 = .ok (.getfield 9, 3) := by decide +kernel
theorem zd_X3_step_26 : decode cX3_step 26 = .ok (.getfield 94, 3) := by decide +kernel
theorem zd_X3_step_29 : decode cX3_step 29 = .ok (.aload_n 0, 1) := by decide +kernel
theorem zd_X3_step_30 : decode cX3_step 30 = .ok (.getfield 36, 3) := by decide +kernel
theorem zd_X3_step_33 : decode cX3_step 33 = .ok (.baload, 1) := by decide +kernel
theorem zd_X3_step_34 : decode cX3_step 34 = .ok (.bipush 32, 2) := by decide +kernel
theorem zd_X3_step_36 : decode cX3_step 36 = .ok (.if_icmp .ne 16, 3) := by decide +kernel
theorem zd_X3_step_39 : decode cX3_step 39 = .ok (.aload_n 0, 1) := by decide +kernel
theorem zd_X3_step_40 : decode cX3_step 40 = .ok (.dup, 1) := by decide +kernel
theorem zd_X3_step_41 : decode cX3_step 41 = .ok (.getfield 36, 3) := by decide +kernel
theorem zd_X3_step_44 : decode cX3_step 44 = .ok (.iconst 1, 1) := by decide +kernel
theorem zd_X3_step_45 : decode cX3_step 45 = .ok (.iadd, 1) := by decide +kernel
theorem zd_X3_step_46 : decode cX3_step 46 = .ok (.putfield 36, 3) := by decide +kernel
theorem zd_X3_step_49 : decode cX3_step 49 = .ok (.goto (-41), 3) := by decide +kernel
theorem zd_X3_step_52 : decode cX3_step 52 = .ok (.aload_n 0, 1) := by decide +kernel
theorem zd_X3_step_53 : decode cX3_step 53 = .ok (.aload_n 0, 1) := by decide +kernel
theorem zd_X3_step_54 : decode cX3_step 54 = .ok (.getfield 36, 3) := by decide +kernel
theorem zd_X3_step_57 : decode cX3_step 57 = .ok (.putfield 86, 3) := by decide +kernel
theorem zd_X3_step_60 : decode cX3_step 60 = .ok (.aload_n 0, 1) := by decide +kernel
theorem zd_X3_step_61 : decode cX3_step 61 = .ok (.invokevirtual 28, 3) := by decide +kernel
theorem zd_X3_step_64 : decode cX3_step 64 = .ok (.ifCond .eq 4, 3) := by decide +kernel
theorem zd_X3_step_67 : decode cX3_step 67 = .ok (.return_, 1) := by decide +kernel
theorem zd_X3_step_68 : decode cX3_step 68 = .ok (.aload_n 0, 1) := by decide +kernel
theorem zd_X3_step_69 : decode cX3_step 69 = .ok (.dup, 1) := by decide +kernel
theorem zd_X3_step_70 : decode cX3_step 70 = .ok (.getfield 86, 3) := by decide +kernel
theorem zd_X3_step_73 : decode cX3_step 73 = .ok (.iconst 1, 1) := by decide +kernel
theorem zd_X3_step_74 : decode cX3_step 74 = .ok (.iadd, 1) := by decide +kernel
theorem zd_X3_step_75 : decode cX3_step 75 = .ok (.putfield 86, 3) := by decide +kernel
theorem zd_X3_step_78 : decode cX3_step 78 = .ok (.aload_n 0, 1) := by decide +kernel
theorem zd_X3_step_79 : decode cX3_step 79 = .ok (.getfield 9, 3) := by decide +kernel
theorem zd_X3_step_82 : decode cX3_step 82 = .ok (.getfield 94, 3) := by decide +kernel
theorem zd_X3_step_85 : decode cX3_step 85 = .ok (.aload_n 0, 1) := by decide +kernel
theorem zd_X3_step_86 : decode cX3_step 86 = .ok (.getfield 36, 3) := by decide +kernel
theorem zd_X3_step_89 : decode cX3_step 89 = .ok (.baload, 1) := by decide +kernel
theorem zd_X3_step_90 : decode cX3_step 90 = .ok (.invokestatic 119, 3) := by decide +kernel
theorem zd_X3_step_93 : decode cX3_step 93 = .ok (.istore_n 1, 1) := by decide +kernel
theorem zd_X3_step_94 : decode cX3_step 94 = .ok (.aload_n 0, 1) := by decide +kernel
theorem zd_X3_step_95 : decode cX3_step 95 = .ok (.getfield 9, 3) := by decide +kernel
theorem zd_X3_step_98 : decode cX3_step 98 = .ok (.getfield 94, 3) := by decide +kernel
theorem zd_X3_step_101 : decode cX3_step 101 = .ok (.aload_n 0, 1) := by decide +kernel
theorem zd_X3_step_102 : decode cX3_step 102 = .ok (.getfield 36, 3) := by decide +kernel
theorem zd_X3_step_105 : decode cX3_step 105 = .ok (.baload, 1) := by decide +kernel
theorem zd_X3_step_106 : decode cX3_step 106 = .ok (.invokestatic 104, 3) := by decide +kernel
theorem zd_X3_step_109 : decode cX3_step 109 = .ok (.istore_n 2, 1) := by decide +kernel
theorem zd_X3_step_110 : decode cX3_step 110 = .ok (.aload_n 0, 1) := by decide +kernel
theorem zd_X3_step_111 : decode cX3_step 111 = .ok (.getfield 86, 3) := by decide +kernel
theorem zd_X3_step_114 : decode cX3_step 114 = .ok (.aload_n 0, 1) := by decide +kernel
theorem zd_X3_step_115 : decode cX3_step 115 = .ok (.getfield 9, 3) := by decide +kernel
theorem zd_X3_step_118 : decode cX3_step 118 = .ok (.getfield 117, 3) := by decide +kernel
theorem zd_X3_step_121 : decode cX3_step 121 = .ok (.if_icmp .ge 60, 3) := by decide +kernel
theorem zd_X3_step_124 : decode cX3_step 124 = .ok (.iload_n 1, 1) := by decide +kernel
theorem zd_X3_step_125 : decode cX3_step 125 = .ok (.ifCond .eq 21, 3) := by decide +kernel
theorem zd_X3_step_128 : decode cX3_step 128 = .ok (.aload_n 0, 1) := by decide +kernel
theorem zd_X3_step_129 : decode cX3_step 129 = .ok (.getfield 9, 3) := by decide +kernel
theorem zd_X3_step_132 : decode cX3_step 132 = .ok (.getfield 94, 3) := by decide +kernel
theorem zd_X3_step_135 : decode cX3_step 135 = .ok (.aload_n 0, 1) := by decide +kernel
theorem zd_X3_step_136 : decode cX3_step 136 = .ok (.getfield 86, 3) := by decide +kernel
theorem zd_X3_step_139 : decode cX3_step 139 = .ok (.baload, 1) := by decide +kernel
theorem zd_X3_step_140 : decode cX3_step 140 = .ok (.invokestatic 119, 3) := by decide +kernel
theorem zd_X3_step_143 : decode cX3_step 143 = .ok (.ifCond .ne 25, 3) := by decide +kernel
theorem zd_X3_step_146 : decode cX3_step 146 = .ok (.iload_n 2, 1) := by decide +kernel
theorem zd_X3_step_147 : decode cX3_step 147 = .ok (.ifCond .eq 34, 3) := by decide +kernel
theorem zd_X3_step_150 : decode cX3_step 150 = .ok (.aload_n 0, 1) := by decide +kernel
theorem zd_X3_step_151 : decode cX3_step 151 = .ok (.getfield 9, 3) := by decide +kernel
theorem zd_X3_step_154 : decode cX3_step 154 = .ok (.getfield 94, 3) := by decide +kernel
theorem zd_X3_step_157 : decode cX3_step 157 = .ok (.aload_n 0, 1) := by decide +kernel
theorem zd_X3_step_158 : decode cX3_step 158 = .ok (.getfield 86, 3) := by decide +kernel
theorem zd_X3_step_161 : decode cX3_step 161 = .ok (.baload, 1) := by decide +kernel
theorem zd_X3_step_162 : decode cX3_step 162 = .ok (.invokestatic 104, 3) := by decide +kernel
theorem zd_X3_step_165 : decode cX3_step 165 = .ok (.ifCond .eq 16, 3) := by decide +kernel
theorem zd_X3_step_168 : decode cX3_step 168 = .ok (.aload_n 0, 1) := by decide +kernel
theorem zd_X3_step_169 : decode cX3_step 169 = .ok (.dup, 1) := by decide +kernel
theorem zd_X3_step_170 : decode cX3_step 170 = .ok (.getfield 86, 3) := by decide +kernel
theorem zd_X3_step_173 : decode cX3_step 173 = .ok (.iconst 1, 1) := by decide +kernel
theorem zd_X3_step_174 : decode cX3_step 174 = .ok (.iadd, 1) := by decide +kernel
theorem zd_X3_step_175 : decode cX3_step 175 = .ok (.putfield 86, 3) := by decide +kernel
theorem zd_X3_step_178 : decode cX3_step 178 = .ok (.goto (-68), 3) := by decide +kernel
theorem zd_X3_step_181 : decode cX3_step 181 = .ok (.return_, 1) := by decide +kernel
def zb_X3_step_0 (K : zKt) (J : Nat → zPP) : zPP := zT_ald 0 (zT_ald 0 (zT_getI 3 3 5 (zT_putI 3 2 5 (J 8))))
theorem zbs_X3_step_0 {X : zCt} (hR : zRX X = { frames := 1, cells := 0, slots := 0, locals := 20 }) (J : Nat → zPP) (hJ : ∀ h ∈ ([8, 110] : List Nat), zSd X RX3 "step" cX3_step 3 none h (J h)) : zSd X RX3 "step" cX3_step 3 none 0 (zb_X3_step_0 (zKX X) J) := zs_aload_n zd_X3_step_0 rfl (zs_aload_n zd_X3_step_1 rfl (zs_getI (ci := 3) (j := 3) (T := TX3) rfl inX3 (by decide) gw_2_42 rfl zd_X3_step_2 (zs_putI (ci := 3) (j := 2) (T := TX3) rfl inX3 tyX3_ok nmX3 (by decide) gw_2_41 rfl rfl rfl zd_X3_step_5 (hJ 8 (by decide)))))
def zb_X3_step_52 (K : zKt) (J : Nat → zPP) : zPP := zT_ald 0 (zT_ald 0 (zT_getI 3 2 5 (zT_putI 3 3 5 (zT_ald 0 (zT_V0 zok 3 5 zc_X3_atEnd (zT_if1 (fun x => x = 0) (zT_ald 0 (zT_dup (zT_getI 3 3 5 (zT_push (.int 1) (zT_bin (fun x y => x + y) (zT_putI 3 3 5 (zT_ald 0 (zT_getR 3 0 5 (zT_getR 4 0 2 (zT_ald 0 (zT_getI 3 2 5 (zT_ald0 2 (zT_S1 zok zc_X3_isLetter (zT_ist 1 (zT_ald 0 (zT_getR 3 0 5 (zT_getR 4 0 2 (zT_ald 0 (zT_getI 3 2 5 (zT_ald0 2 (zT_S1 zok zc_X3_isDigit (zT_ist 2 (J 110))))))))))))))))))))))) (zT_vret K)))))))
theorem zbs_X3_step_52 {X : zCt} (hR : zRX X = { frames := 1, cells := 0, slots := 0, locals := 20 }) (J : Nat → zPP) (hJ : ∀ h ∈ ([8, 110] : List Nat), zSd X RX3 "step" cX3_step 3 none h (J h)) : zSd X RX3 "step" cX3_step 3 none 52 (zb_X3_step_52 (zKX X) J) := zs_aload_n zd_X3_step_52 rfl (zs_aload_n zd_X3_step_53 rfl (zs_getI (ci := 3) (j := 2) (T := TX3) rfl inX3 (by decide) gw_2_41 rfl zd_X3_step_54 (zs_putI (ci := 3) (j := 3) (T := TX3) rfl inX3 tyX3_ok nmX3 (by decide) gw_2_42 rfl rfl rfl zd_X3_step_57 (zs_aload_n zd_X3_step_60 rfl (zs_V (ci := 3) rfl rfl (zm_X3_atEnd _ _ _) gw_2_66 gw_2_63 gw_2_65 gw_0_4 gw_1_8 zdn_X3_atEnd (zrm hR (by decide) (by decide)) zd_X3_step_61 (zCl_V0 zok_l) (zs_if_eq (tgt := 68) zd_X3_step_64 (by decide) (zs_aload_n zd_X3_step_68 rfl (zs_dup zd_X3_step_69 (zs_getI (ci := 3) (j := 3) (T := TX3) rfl inX3 (by decide) gw_2_42 rfl zd_X3_step_70 (zs_iconst zd_X3_step_73 (by decide) (zs_iadd zd_X3_step_74 (zs_putI (ci := 3) (j := 3) (T := TX3) rfl inX3 tyX3_ok nmX3 (by decide) gw_2_42 rfl rfl rfl zd_X3_step_75 (zs_aload_n zd_X3_step_78 rfl (zs_getR (ci := 3) (j := 0) (T := TX3) rfl inX3 (by decide) gw_2_39 rfl zd_X3_step_79 (zs_getR (ci := 4) (j := 0) (T := TX4) rfl inX4 (by decide) gw_1_68 rfl zd_X3_step_82 (zs_aload_n zd_X3_step_85 rfl (zs_getI (ci := 3) (j := 2) (T := TX3) rfl inX3 (by decide) gw_2_41 rfl zd_X3_step_86 (zs_bald zd_X3_step_89 (zs_S (zm_X3_isLetter _ _ _) gw_2_69 gw_2_67 gw_2_68 gw_1_8 zdn_X3_isLetter (zrm hR (by decide) (by decide)) zd_X3_step_90 (zCl_S1 zok_l) (zs_istore_n zd_X3_step_93 rfl (by decide) (zs_aload_n zd_X3_step_94 rfl (zs_getR (ci := 3) (j := 0) (T := TX3) rfl inX3 (by decide) gw_2_39 rfl zd_X3_step_95 (zs_getR (ci := 4) (j := 0) (T := TX4) rfl inX4 (by decide) gw_1_68 rfl zd_X3_step_98 (zs_aload_n zd_X3_step_101 rfl (zs_getI (ci := 3) (j := 2) (T := TX3) rfl inX3 (by decide) gw_2_41 rfl zd_X3_step_102 (zs_bald zd_X3_step_105 (zs_S (zm_X3_isDigit _ _ _) gw_2_72 gw_2_70 gw_2_71 gw_1_8 zdn_X3_isDigit (zrm hR (by decide) (by decide)) zd_X3_step_106 (zCl_S1 zok_l) (zs_istore_n zd_X3_step_109 rfl (by decide) (hJ 110 (by decide)))))))))))))))))))))))) (zs_vret rfl zd_X3_step_67)))))))
def zb_X3_step_8 (K : zKt) (J : Nat → zPP) : zPP := zT_ald 0 (zT_getI 3 2 5 (zT_ald 0 (zT_getR 3 0 5 (zT_getI 4 1 2 (zT_if2 (fun x y => y ≤ x) (zb_X3_step_52 K J) (zT_ald 0 (zT_getR 3 0 5 (zT_getR 4 0 2 (zT_ald 0 (zT_getI 3 2 5 (zT_ald0 2 (zT_push (.int 32) (zT_if2 (fun x y => x = y) (zT_ald 0 (zT_dup (zT_getI 3 2 5 (zT_push (.int 1) (zT_bin (fun x y => x + y) (zT_putI 3 2 5 (J 8))))))) (zb_X3_step_52 K J))))))))))))))
theorem zbs_X3_step_8 {X : zCt} (hR : zRX X = { frames := 1, cells := 0, slots := 0, locals := 20 }) (J : Nat → zPP) (hJ : ∀ h ∈ ([8, 110] : List Nat), zSd X RX3 "step" cX3_step 3 none h (J h)) : zSd X RX3 "step" cX3_step 3 none 8 (zb_X3_step_8 (zKX X) J) := zs_aload_n zd_X3_step_8 rfl (zs_getI (ci := 3) (j := 2) (T := TX3) rfl inX3 (by decide) gw_2_41 rfl zd_X3_step_9 (zs_aload_n zd_X3_step_12 rfl (zs_getR (ci := 3) (j := 0) (T := TX3) rfl inX3 (by decide) gw_2_39 rfl zd_X3_step_13 (zs_getI (ci := 4) (j := 1) (T := TX4) rfl inX4 (by decide) gw_1_71 rfl zd_X3_step_16 (zs_icmp_ge (tgt := 52) zd_X3_step_19 (by decide) (zbs_X3_step_52 hR J hJ) (zs_aload_n zd_X3_step_22 rfl (zs_getR (ci := 3) (j := 0) (T := TX3) rfl inX3 (by decide) gw_2_39 rfl zd_X3_step_23 (zs_getR (ci := 4) (j := 0) (T := TX4) rfl inX4 (by decide) gw_1_68 rfl zd_X3_step_26 (zs_aload_n zd_X3_step_29 rfl (zs_getI (ci := 3) (j := 2) (T := TX3) rfl inX3 (by decide) gw_2_41 rfl zd_X3_step_30 (zs_bald zd_X3_step_33 (zs_bipush zd_X3_step_34 (by decide) (zs_icmp_ne (tgt := 52) zd_X3_step_36 (by decide) (zbs_X3_step_52 hR J hJ) (zs_aload_n zd_X3_step_39 rfl (zs_dup zd_X3_step_40 (zs_getI (ci := 3) (j := 2) (T := TX3) rfl inX3 (by decide) gw_2_41 rfl zd_X3_step_41 (zs_iconst zd_X3_step_44 (by decide) (zs_iadd zd_X3_step_45 (zs_putI (ci := 3) (j := 2) (T := TX3) rfl inX3 tyX3_ok nmX3 (by decide) gw_2_41 rfl rfl rfl zd_X3_step_46 (zs_goto (tgt := 8) zd_X3_step_49 (by decide) (hJ 8 (by decide))))))))))))))))))))))
def zb_X3_step_181 (K : zKt) (J : Nat → zPP) : zPP := zT_vret K
theorem zbs_X3_step_181 {X : zCt} (hR : zRX X = { frames := 1, cells := 0, slots := 0, locals := 20 }) (J : Nat → zPP) (hJ : ∀ h ∈ ([8, 110] : List Nat), zSd X RX3 "step" cX3_step 3 none h (J h)) : zSd X RX3 "step" cX3_step 3 none 181 (zb_X3_step_181 (zKX X) J) := zs_vret rfl zd_X3_step_181
def zb_X3_step_168 (K : zKt) (J : Nat → zPP) : zPP := zT_ald 0 (zT_dup (zT_getI 3 3 5 (zT_push (.int 1) (zT_bin (fun x y => x + y) (zT_putI 3 3 5 (J 110))))))
theorem zbs_X3_step_168 {X : zCt} (hR : zRX X = { frames := 1, cells := 0, slots := 0, locals := 20 }) (J : Nat → zPP) (hJ : ∀ h ∈ ([8, 110] : List Nat), zSd X RX3 "step" cX3_step 3 none h (J h)) : zSd X RX3 "step" cX3_step 3 none 168 (zb_X3_step_168 (zKX X) J) := zs_aload_n zd_X3_step_168 rfl (zs_dup zd_X3_step_169 (zs_getI (ci := 3) (j := 3) (T := TX3) rfl inX3 (by decide) gw_2_42 rfl zd_X3_step_170 (zs_iconst zd_X3_step_173 (by decide) (zs_iadd zd_X3_step_174 (zs_putI (ci := 3) (j := 3) (T := TX3) rfl inX3 tyX3_ok nmX3 (by decide) gw_2_42 rfl rfl rfl zd_X3_step_175 (zs_goto (tgt := 110) zd_X3_step_178 (by decide) (hJ 110 (by decide))))))))
def zb_X3_step_146 (K : zKt) (J : Nat → zPP) : zPP := zT_ild 2 (zT_if1 (fun x => x = 0) (zb_X3_step_181 K J) (zT_ald 0 (zT_getR 3 0 5 (zT_getR 4 0 2 (zT_ald 0 (zT_getI 3 3 5 (zT_ald0 2 (zT_S1 zok zc_X3_isDigit (zT_if1 (fun x => x = 0) (zb_X3_step_181 K J) (zb_X3_step_168 K J))))))))))
theorem zbs_X3_step_146 {X : zCt} (hR : zRX X = { frames := 1, cells := 0, slots := 0, locals := 20 }) (J : Nat → zPP) (hJ : ∀ h ∈ ([8, 110] : List Nat), zSd X RX3 "step" cX3_step 3 none h (J h)) : zSd X RX3 "step" cX3_step 3 none 146 (zb_X3_step_146 (zKX X) J) := zs_iload_n zd_X3_step_146 rfl (zs_if_eq (tgt := 181) zd_X3_step_147 (by decide) (zbs_X3_step_181 hR J hJ) (zs_aload_n zd_X3_step_150 rfl (zs_getR (ci := 3) (j := 0) (T := TX3) rfl inX3 (by decide) gw_2_39 rfl zd_X3_step_151 (zs_getR (ci := 4) (j := 0) (T := TX4) rfl inX4 (by decide) gw_1_68 rfl zd_X3_step_154 (zs_aload_n zd_X3_step_157 rfl (zs_getI (ci := 3) (j := 3) (T := TX3) rfl inX3 (by decide) gw_2_42 rfl zd_X3_step_158 (zs_bald zd_X3_step_161 (zs_S (zm_X3_isDigit _ _ _) gw_2_72 gw_2_70 gw_2_71 gw_1_8 zdn_X3_isDigit (zrm hR (by decide) (by decide)) zd_X3_step_162 (zCl_S1 zok_l) (zs_if_eq (tgt := 181) zd_X3_step_165 (by decide) (zbs_X3_step_181 hR J hJ) (zbs_X3_step_168 hR J hJ))))))))))
def zb_X3_step_110 (K : zKt) (J : Nat → zPP) : zPP := zT_ald 0 (zT_getI 3 3 5 (zT_ald 0 (zT_getR 3 0 5 (zT_getI 4 1 2 (zT_if2 (fun x y => y ≤ x) (zb_X3_step_181 K J) (zT_ild 1 (zT_if1 (fun x => x = 0) (zb_X3_step_146 K J) (zT_ald 0 (zT_getR 3 0 5 (zT_getR 4 0 2 (zT_ald 0 (zT_getI 3 3 5 (zT_ald0 2 (zT_S1 zok zc_X3_isLetter (zT_if1 (fun x => x = 0) (zb_X3_step_146 K J) (zb_X3_step_168 K J))))))))))))))))
theorem zbs_X3_step_110 {X : zCt} (hR : zRX X = { frames := 1, cells := 0, slots := 0, locals := 20 }) (J : Nat → zPP) (hJ : ∀ h ∈ ([8, 110] : List Nat), zSd X RX3 "step" cX3_step 3 none h (J h)) : zSd X RX3 "step" cX3_step 3 none 110 (zb_X3_step_110 (zKX X) J) := zs_aload_n zd_X3_step_110 rfl (zs_getI (ci := 3) (j := 3) (T := TX3) rfl inX3 (by decide) gw_2_42 rfl zd_X3_step_111 (zs_aload_n zd_X3_step_114 rfl (zs_getR (ci := 3) (j := 0) (T := TX3) rfl inX3 (by decide) gw_2_39 rfl zd_X3_step_115 (zs_getI (ci := 4) (j := 1) (T := TX4) rfl inX4 (by decide) gw_1_71 rfl zd_X3_step_118 (zs_icmp_ge (tgt := 181) zd_X3_step_121 (by decide) (zbs_X3_step_181 hR J hJ) (zs_iload_n zd_X3_step_124 rfl (zs_if_eq (tgt := 146) zd_X3_step_125 (by decide) (zbs_X3_step_146 hR J hJ) (zs_aload_n zd_X3_step_128 rfl (zs_getR (ci := 3) (j := 0) (T := TX3) rfl inX3 (by decide) gw_2_39 rfl zd_X3_step_129 (zs_getR (ci := 4) (j := 0) (T := TX4) rfl inX4 (by decide) gw_1_68 rfl zd_X3_step_132 (zs_aload_n zd_X3_step_135 rfl (zs_getI (ci := 3) (j := 3) (T := TX3) rfl inX3 (by decide) gw_2_42 rfl zd_X3_step_136 (zs_bald zd_X3_step_139 (zs_S (zm_X3_isLetter _ _ _) gw_2_69 gw_2_67 gw_2_68 gw_1_8 zdn_X3_isLetter (zrm hR (by decide) (by decide)) zd_X3_step_140 (zCl_S1 zok_l) (zs_if_ne (tgt := 168) zd_X3_step_143 (by decide) (zbs_X3_step_168 hR J hJ) (zbs_X3_step_146 hR J hJ))))))))))))))))
def zB_X3_step (K : zKt) (J : Nat → zPP) (h : Nat) : zPP := if h = 8 then zb_X3_step_8 K J else if h = 110 then zb_X3_step_110 K J else (fun _ _ _ => False)
theorem zBs_X3_step {X : zCt} (hR : zRX X = { frames := 1, cells := 0, slots := 0, locals := 20 }) : ∀ J : Nat → zPP, (∀ h ∈ ([8, 110] : List Nat), zSd X RX3 "step" cX3_step 3 none h (J h)) → ∀ h ∈ ([8, 110] : List Nat), zSd X RX3 "step" cX3_step 3 none h (zB_X3_step (zKX X) J h) := by
  intro J hJ h hh
  unfold zB_X3_step
  simp only [List.mem_cons, List.not_mem_nil, or_false] at hh
  rcases hh with rfl | rfl
  · exact zbs_X3_step_8 hR J hJ
  · exact zbs_X3_step_110 hR J hJ
theorem zdn_X3_step : yX3_step.cls ≠ "java/lang/invoke/MethodHandle" ∧ yX3_step.cls ≠ "java/lang/invoke/VarHandle" ∧ (parseMethodDescriptor yX3_step.desc).map (fun d => d.parameters.length) = some 0 := by decide +kernel
theorem zTp.rd {M M' : zMm} {tp : List Nat} {k : Nat} (h : zTp M tp) (hs : zsm [k] M M') (hk : 500 ≤ k) : zTp M' tp := h.to (fun k' a b => hs.at (by simp; omega))
def zc_X3_step (a : List Value) (M : zMm) (K : zKt) : Prop := match a with
  | [.ref k] => ∃ tp a b, zRd M k tp a b ∧ b ≤ tp.length ∧ ∀ M', zsm [k] M M' → zRd M' k tp (wtk tp b).1 (wtk tp b).2 → M'.2.1 k 4 = M.2.1 k 4 → K none M'
  | _ => False
set_option maxHeartbeats 4000000 in
theorem zm_X3_step (l : Launch) (D : va_G) (Y : Nat → ClassId) : zMt l D Y yX3_step cX3_step 3 none 1 20 0 0 zc_X3_step := by
  refine zwhile (heads := [8, 110]) (by decide) (fun K J _ _ => zb_X3_step_0 K J) (fun K _ _ J h => zB_X3_step K J h) (fun X hR J hJ => zbs_X3_step_0 hR J hJ) (fun X hR => zBs_X3_step hR) (fun avs M K h => ?_)
  unfold zc_X3_step at h
  split at h
  · next k =>
    obtain ⟨tp, a0, b0, ⟨hk, hk5, r0, r3, hT, ha0, hb0⟩, hb, h⟩ := h
    have t1 := hT.1
    have t2 := hT.2.1
    have hkne : (3 : Nat) ≠ k ∧ (4 : Nat) ≠ k := by omega
    obtain ⟨sk1, sk2⟩ := wsk_bd hb
    obtain ⟨te1, te2, te3⟩ := wte_bd sk2
    refine ⟨by simp [zent], fun q h' M' ls st => (zsm [k] M M' ∧ M'.2.1 k 4 = M.2.1 k 4) ∧ ((h' = 8 ∧ ∃ a, q = 2000 - a ∧ b0 ≤ a ∧ a ≤ tp.length ∧ ls = [some (.ref k), none, none] ∧ st = [] ∧ M'.2.1 k 2 = nI a ∧ wrun (wsp tp) (tp.length - a) a = wsk tp b0) ∨
      (h' = 110 ∧ ∃ b, q = 1000 - b ∧ wsk tp b0 < tp.length ∧ wsk tp b0 + 1 ≤ b ∧ b ≤ tp.length ∧ ls = [some (.ref k), some (.int (zbI (ltr (bt tp (wsk tp b0)) = true))), some (.int (zbI (dgt (bt tp (wsk tp b0)) = true)))] ∧ st = [] ∧ M'.2.1 k 2 = nI (wsk tp b0) ∧ M'.2.1 k 3 = nI b ∧ wrun (wq tp (wsk tp b0)) (tp.length - b) b = wte tp (wsk tp b0))), ?_, ?_⟩
    · rintro q J hJ h' - M' ls st ⟨⟨hs, h4⟩, ⟨rfl, a, rfl, ha1, ha2, rfl, rfl, hga, hw⟩ | ⟨rfl, b, rfl, hlt, hb1, hb2, rfl, rfl, hga, hgb, hw⟩⟩
      · have q0 : M'.2.2.2 k 0 = some 3 := by rw [hs.R]; exact r0
        have q3 : M'.2.2.2 3 0 = some 4 := by rw [hs.R]; exact r3
        have hT' := hT.rd hs hk5
        have u1 := hT'.1
        simp only [zB_X3_step, zb_X3_step_8, ↓reduceIte, hk, zsh_3, zsh_4, q0, q3, hga, u1, zT_push, zT_bin, zT_div, zT_bil, zT_shl, zT_un, zT_i2l, zT_l2i, zT_lcmp, zT_ild, zT_lld, zT_ald, zT_ist, zT_lst, zT_ast, zT_iinc, zT_dup, zT_dup2, zT_pop, zT_if1, zT_if2, zT_ifn, zT_getI, zT_getJ, zT_getR, zT_putI, zT_putZ, zT_putJ, zT_putR, zT_ald0, zT_lald, zT_aald, zT_iast, zT_zast, zT_bast, zT_last, zT_aast, zT_iret, zT_nret, zT_aret, zT_vret, zT_oi, zT_mm, zT_ialX, zT_S1, zT_S2, zT_S3, zT_V0, zT_V1, zT_V2, zT_V3, zT_V4, zT_V5, zT_V6, zT_I0, zT_I1, zT_I2, zlg, zlset, zlpr, zent, zok, va_rf, List.length_cons, List.length_nil, List.replicate, List.cons_append, List.nil_append, List.append_nil, Option.toList_some, Option.toList_none, Option.toList, Nat.reduceAdd, Nat.reduceSub, Nat.reduceLeDiff, Nat.zero_add, Nat.zero_le, true_and, and_true, Nat.le_refl, ge_iff_le, Nat.reduceEqDiff]
        have next : a = wsk tp b0 → zb_X3_step_52 K J M' [some (.ref k), none, none] [] := by
          intro e
          subst e
          simp only [zb_X3_step_52, hk, hga, zT_push, zT_bin, zT_div, zT_bil, zT_shl, zT_un, zT_i2l, zT_l2i, zT_lcmp, zT_ild, zT_lld, zT_ald, zT_ist, zT_lst, zT_ast, zT_iinc, zT_dup, zT_dup2, zT_pop, zT_if1, zT_if2, zT_ifn, zT_getI, zT_getJ, zT_getR, zT_putI, zT_putZ, zT_putJ, zT_putR, zT_ald0, zT_lald, zT_aald, zT_iast, zT_zast, zT_bast, zT_last, zT_aast, zT_iret, zT_nret, zT_aret, zT_vret, zT_oi, zT_mm, zT_ialX, zT_S1, zT_S2, zT_S3, zT_V0, zT_V1, zT_V2, zT_V3, zT_V4, zT_V5, zT_V6, zT_I0, zT_I1, zT_I2, zlg, zlset, zlpr, zent, zok, va_rf, List.length_cons, List.length_nil, List.replicate, List.cons_append, List.nil_append, List.append_nil, Option.toList_some, Option.toList_none, Option.toList, Nat.reduceAdd, Nat.reduceSub, Nat.reduceLeDiff, Nat.zero_add, Nat.zero_le, true_and, and_true, Nat.le_refl, ge_iff_le, Nat.reduceEqDiff]
          unfold zc_X3_atEnd
          dsimp only
          have hs2 : zsm [k] M (zwI M' k 3 (nI (wsk tp b0))) := hs.w (by simp)
          have hR2 : zRd (zwI M' k 3 (nI (wsk tp b0))) k tp (wsk tp b0) (wsk tp b0) := by
            refine ⟨hk, hk5, q0, q3, hT.rd hs2 hk5, ?_, ?_⟩
            · simp only [zwI_L, zwI_I, zwI_J, zwI_R, zwJ_L, zwJ_I, zwJ_J, zwJ_R, zwR_L, zwR_I, zwR_J, zwR_R, zw2_s, zw2_n, ne_eq, not_false_eq_true, reduceCtorEq, not_true_eq_false, Nat.reduceEqDiff]; rw [zup_n (by decide)]; exact hga
            · simp only [zwI_L, zwI_I, zwI_J, zwI_R, zwJ_L, zwJ_I, zwJ_J, zwJ_R, zwR_L, zwR_I, zwR_J, zwR_R, zw2_s, zw2_n, ne_eq, not_false_eq_true, reduceCtorEq, not_true_eq_false, Nat.reduceEqDiff]; rw [zup_s]
          refine ⟨tp, _, _, hR2, sk2, ?_⟩
          simp only [zbI_0, hk, zsh_3, zsh_4, q0, q3, zwI_R, zT_push, zT_bin, zT_div, zT_bil, zT_shl, zT_un, zT_i2l, zT_l2i, zT_lcmp, zT_ild, zT_lld, zT_ald, zT_ist, zT_lst, zT_ast, zT_iinc, zT_dup, zT_dup2, zT_pop, zT_if1, zT_if2, zT_ifn, zT_getI, zT_getJ, zT_getR, zT_putI, zT_putZ, zT_putJ, zT_putR, zT_ald0, zT_lald, zT_aald, zT_iast, zT_zast, zT_bast, zT_last, zT_aast, zT_iret, zT_nret, zT_aret, zT_vret, zT_oi, zT_mm, zT_ialX, zT_S1, zT_S2, zT_S3, zT_V0, zT_V1, zT_V2, zT_V3, zT_V4, zT_V5, zT_V6, zT_I0, zT_I1, zT_I2, zlg, zlset, zlpr, zent, zok, va_rf, List.length_cons, List.length_nil, List.replicate, List.cons_append, List.nil_append, List.append_nil, Option.toList_some, Option.toList_none, Option.toList, Nat.reduceAdd, Nat.reduceSub, Nat.reduceLeDiff, Nat.zero_add, Nat.zero_le, true_and, and_true, Nat.le_refl, ge_iff_le, Nat.reduceEqDiff]
          refine ⟨fun h1 => ?_, fun h1 => ?_⟩
          · have e3 : (zwI M' k 3 (nI (wsk tp b0))).2.1 k 3 = nI (wsk tp b0) := hR2.2.2.2.2.2.2
            rw [e3, nI_1]
            have hs3 : zsm [k] M (zwI (zwI M' k 3 (nI (wsk tp b0))) k 3 (nI (wsk tp b0 + 1))) := hs2.w (by simp)
            have g2 : (zwI (zwI M' k 3 (nI (wsk tp b0))) k 3 (nI (wsk tp b0 + 1))).2.1 k 2 = nI (wsk tp b0) := by
              simp only [zwI_L, zwI_I, zwI_J, zwI_R, zwJ_L, zwJ_I, zwJ_J, zwJ_R, zwR_L, zwR_I, zwR_J, zwR_R, zw2_s, zw2_n, ne_eq, not_false_eq_true, reduceCtorEq, not_true_eq_false, Nat.reduceEqDiff]; rw [zup_n (by decide), zup_n (by decide)]; exact hga
            have g3 : (zwI (zwI M' k 3 (nI (wsk tp b0))) k 3 (nI (wsk tp b0 + 1))).2.1 k 3 = nI (wsk tp b0 + 1) := by
              simp only [zwI_L, zwI_I, zwI_J, zwI_R, zwJ_L, zwJ_I, zwJ_J, zwJ_R, zwR_L, zwR_I, zwR_J, zwR_R, zw2_s, zw2_n, ne_eq, not_false_eq_true, reduceCtorEq, not_true_eq_false, Nat.reduceEqDiff]; rw [zup_s]
            have g4 : (zwI (zwI M' k 3 (nI (wsk tp b0))) k 3 (nI (wsk tp b0 + 1))).2.1 k 4 = M.2.1 k 4 := by
              simp only [zwI_L, zwI_I, zwI_J, zwI_R, zwJ_L, zwJ_I, zwJ_J, zwJ_R, zwR_L, zwR_I, zwR_J, zwR_R, zw2_s, zw2_n, ne_eq, not_false_eq_true, reduceCtorEq, not_true_eq_false, Nat.reduceEqDiff]; rw [zup_n (by decide), zup_n (by decide)]; exact h4
            have gR : (zwI (zwI M' k 3 (nI (wsk tp b0))) k 3 (nI (wsk tp b0 + 1))).2.2.2 = M'.2.2.2 := rfl
            generalize zwI (zwI M' k 3 (nI (wsk tp b0))) k 3 (nI (wsk tp b0 + 1)) = N at hs3 g2 g3 g4 gR ⊢
            have hTN := hT.rd hs3 hk5
            have hlt : wsk tp b0 < tp.length := by omega
            obtain ⟨v1, v2⟩ := hTN.at hlt
            rw [g2, nI_clamp (by omega), v2]
            refine ⟨vp_in_nI (by omega) (by decide), ?_⟩
            unfold zc_X3_isLetter
            dsimp only
            simp only [zsh_3, zsh_4, gR, q0, q3, g2, zT_push, zT_bin, zT_div, zT_bil, zT_shl, zT_un, zT_i2l, zT_l2i, zT_lcmp, zT_ild, zT_lld, zT_ald, zT_ist, zT_lst, zT_ast, zT_iinc, zT_dup, zT_dup2, zT_pop, zT_if1, zT_if2, zT_ifn, zT_getI, zT_getJ, zT_getR, zT_putI, zT_putZ, zT_putJ, zT_putR, zT_ald0, zT_lald, zT_aald, zT_iast, zT_zast, zT_bast, zT_last, zT_aast, zT_iret, zT_nret, zT_aret, zT_vret, zT_oi, zT_mm, zT_ialX, zT_S1, zT_S2, zT_S3, zT_V0, zT_V1, zT_V2, zT_V3, zT_V4, zT_V5, zT_V6, zT_I0, zT_I1, zT_I2, zlg, zlset, zlpr, zent, zok, va_rf, List.length_cons, List.length_nil, List.replicate, List.cons_append, List.nil_append, List.append_nil, Option.toList_some, Option.toList_none, Option.toList, Nat.reduceAdd, Nat.reduceSub, Nat.reduceLeDiff, Nat.zero_add, Nat.zero_le, true_and, and_true, Nat.le_refl, ge_iff_le, Nat.reduceEqDiff]
            rw [nI_clamp (by omega), v2]
            refine ⟨vp_in_nI (by omega) (by decide), ?_⟩
            unfold zc_X3_isDigit
            dsimp only
            have eL : zbI (97 ≤ zsb (bt tp (wsk tp b0)) ∧ zsb (bt tp (wsk tp b0)) ≤ 122) = zbI (ltr (bt tp (wsk tp b0)) = true) := by
              unfold zbI
              simp only [zsb_ltr _ v1]
            have eD : zbI (48 ≤ zsb (bt tp (wsk tp b0)) ∧ zsb (bt tp (wsk tp b0)) ≤ 57) = zbI (dgt (bt tp (wsk tp b0)) = true) := by
              unfold zbI
              simp only [zsb_dgt _ v1]
            rw [eL, eD]
            refine hJ (1000 - (wsk tp b0 + 1)) (by omega) 110 (by simp) _ _ _ ⟨⟨hs3, g4⟩, Or.inr ⟨rfl, wsk tp b0 + 1, rfl, hlt, Nat.le_refl _, hlt, rfl, rfl, g2, g3, ?_⟩⟩
            unfold wte
            rw [if_neg (by omega)]
          · have h1' := Classical.not_not.mp h1
            have ee : wte tp (wsk tp b0) = wsk tp b0 := by unfold wte; rw [if_pos h1']
            refine h _ hs2 (by show zRd _ k tp (wsk tp b0) (wte tp (wsk tp b0)); rw [ee]; exact hR2) ?_
            simp only [zwI_L, zwI_I, zwI_J, zwI_R, zwJ_L, zwJ_I, zwJ_J, zwJ_R, zwR_L, zwR_I, zwR_J, zwR_R, zw2_s, zw2_n, ne_eq, not_false_eq_true, reduceCtorEq, not_true_eq_false, Nat.reduceEqDiff]; rw [zup_n (by decide)]; exact h4
        refine ⟨fun h1 => ?_, fun h1 => ?_⟩
        · have := zn_ge' h1 (by omega) (by omega)
          have e : a = tp.length := by omega
          refine next ?_
          rw [← hw, e, Nat.sub_self]
          rfl
        · have hlt := zn_ge h1 (by omega) (by omega)
          obtain ⟨v1, v2⟩ := hT'.at hlt
          rw [nI_clamp (by omega), v2]
          refine ⟨vp_in_nI (by omega) (by decide), fun h2 => ?_, fun h2 => ?_⟩
          · have h2' : bt tp a = 32 := (zsb_eq _ v1 32 (by decide)).mp h2
            have hp : wsp tp a = true := by unfold wsp; rw [h2']; rfl
            refine hJ (2000 - (a + 1)) (by omega) 8 (by simp) _ _ _ ⟨⟨hs.w (by simp), ?_⟩, Or.inl ⟨rfl, a + 1, rfl, by omega, hlt, rfl, rfl, ?_, ?_⟩⟩
            · simp only [zwI_L, zwI_I, zwI_J, zwI_R, zwJ_L, zwJ_I, zwJ_J, zwJ_R, zwR_L, zwR_I, zwR_J, zwR_R, zw2_s, zw2_n, ne_eq, not_false_eq_true, reduceCtorEq, not_true_eq_false, Nat.reduceEqDiff]; rw [zup_n (by decide)]; exact h4
            · simp only [zwI_L, zwI_I, zwI_J, zwI_R, zwJ_L, zwJ_I, zwJ_J, zwJ_R, zwR_L, zwR_I, zwR_J, zwR_R, zw2_s, zw2_n, ne_eq, not_false_eq_true, reduceCtorEq, not_true_eq_false, Nat.reduceEqDiff]; rw [zup_s, nI_1]
            · rw [← wrun_t hlt hp]; exact hw
          · refine next ?_
            have hp : wsp tp a = false := by
              unfold wsp
              simp only [decide_eq_false_iff_not]
              exact fun z => h2 ((zsb_eq _ v1 32 (by decide)).mpr z)
            rw [← hw, wrun_f hlt hp]
      · have q0 : M'.2.2.2 k 0 = some 3 := by rw [hs.R]; exact r0
        have q3 : M'.2.2.2 3 0 = some 4 := by rw [hs.R]; exact r3
        have hT' := hT.rd hs hk5
        have u1 := hT'.1
        have stop : b = wte tp (wsk tp b0) → K none M' := by
          intro e
          rw [e] at hgb
          exact h M' hs ⟨hk, hk5, q0, q3, hT', hga, hgb⟩ h4
        simp only [zB_X3_step, zb_X3_step_110, ↓reduceIte, Nat.reduceEqDiff, hk, zsh_3, zsh_4, q0, q3, hgb, u1, zbI_0, zT_push, zT_bin, zT_div, zT_bil, zT_shl, zT_un, zT_i2l, zT_l2i, zT_lcmp, zT_ild, zT_lld, zT_ald, zT_ist, zT_lst, zT_ast, zT_iinc, zT_dup, zT_dup2, zT_pop, zT_if1, zT_if2, zT_ifn, zT_getI, zT_getJ, zT_getR, zT_putI, zT_putZ, zT_putJ, zT_putR, zT_ald0, zT_lald, zT_aald, zT_iast, zT_zast, zT_bast, zT_last, zT_aast, zT_iret, zT_nret, zT_aret, zT_vret, zT_oi, zT_mm, zT_ialX, zT_S1, zT_S2, zT_S3, zT_V0, zT_V1, zT_V2, zT_V3, zT_V4, zT_V5, zT_V6, zT_I0, zT_I1, zT_I2, zlg, zlset, zlpr, zent, zok, va_rf, List.length_cons, List.length_nil, List.replicate, List.cons_append, List.nil_append, List.append_nil, Option.toList_some, Option.toList_none, Option.toList, Nat.reduceAdd, Nat.reduceSub, Nat.reduceLeDiff, Nat.zero_add, Nat.zero_le, true_and, and_true, Nat.le_refl, ge_iff_le, Nat.reduceEqDiff]
        have S181 : b = wte tp (wsk tp b0) → zb_X3_step_181 K J M' [some (.ref k), some (.int (zbI (ltr (bt tp (wsk tp b0)) = true))), some (.int (zbI (dgt (bt tp (wsk tp b0)) = true)))] [] := by
          intro e
          simp only [zb_X3_step_181, zT_push, zT_bin, zT_div, zT_bil, zT_shl, zT_un, zT_i2l, zT_l2i, zT_lcmp, zT_ild, zT_lld, zT_ald, zT_ist, zT_lst, zT_ast, zT_iinc, zT_dup, zT_dup2, zT_pop, zT_if1, zT_if2, zT_ifn, zT_getI, zT_getJ, zT_getR, zT_putI, zT_putZ, zT_putJ, zT_putR, zT_ald0, zT_lald, zT_aald, zT_iast, zT_zast, zT_bast, zT_last, zT_aast, zT_iret, zT_nret, zT_aret, zT_vret, zT_oi, zT_mm, zT_ialX, zT_S1, zT_S2, zT_S3, zT_V0, zT_V1, zT_V2, zT_V3, zT_V4, zT_V5, zT_V6, zT_I0, zT_I1, zT_I2, zlg, zlset, zlpr, zent, zok, va_rf, List.length_cons, List.length_nil, List.replicate, List.cons_append, List.nil_append, List.append_nil, Option.toList_some, Option.toList_none, Option.toList, Nat.reduceAdd, Nat.reduceSub, Nat.reduceLeDiff, Nat.zero_add, Nat.zero_le, true_and, and_true, Nat.le_refl, ge_iff_le, Nat.reduceEqDiff]
          exact stop e
        refine ⟨fun h1 => ?_, fun h1 => ?_⟩
        · have := zn_ge' h1 (by omega) (by omega)
          refine S181 ?_
          have e : b = tp.length := by omega
          rw [← hw, e, Nat.sub_self]
          rfl
        · have hlt2 := zn_ge h1 (by omega) (by omega)
          obtain ⟨v1, v2⟩ := hT'.at hlt2
          have on : wq tp (wsk tp b0) b = true → zb_X3_step_168 K J M' [some (.ref k), some (.int (zbI (ltr (bt tp (wsk tp b0)) = true))), some (.int (zbI (dgt (bt tp (wsk tp b0)) = true)))] [] := by
            intro hp
            simp only [zb_X3_step_168, hk, hgb, zT_push, zT_bin, zT_div, zT_bil, zT_shl, zT_un, zT_i2l, zT_l2i, zT_lcmp, zT_ild, zT_lld, zT_ald, zT_ist, zT_lst, zT_ast, zT_iinc, zT_dup, zT_dup2, zT_pop, zT_if1, zT_if2, zT_ifn, zT_getI, zT_getJ, zT_getR, zT_putI, zT_putZ, zT_putJ, zT_putR, zT_ald0, zT_lald, zT_aald, zT_iast, zT_zast, zT_bast, zT_last, zT_aast, zT_iret, zT_nret, zT_aret, zT_vret, zT_oi, zT_mm, zT_ialX, zT_S1, zT_S2, zT_S3, zT_V0, zT_V1, zT_V2, zT_V3, zT_V4, zT_V5, zT_V6, zT_I0, zT_I1, zT_I2, zlg, zlset, zlpr, zent, zok, va_rf, List.length_cons, List.length_nil, List.replicate, List.cons_append, List.nil_append, List.append_nil, Option.toList_some, Option.toList_none, Option.toList, Nat.reduceAdd, Nat.reduceSub, Nat.reduceLeDiff, Nat.zero_add, Nat.zero_le, true_and, and_true, Nat.le_refl, ge_iff_le, Nat.reduceEqDiff]
            refine hJ (1000 - (b + 1)) (by omega) 110 (by simp) _ _ _ ⟨⟨hs.w (by simp), ?_⟩, Or.inr ⟨rfl, b + 1, rfl, hlt, by omega, hlt2, rfl, rfl, ?_, ?_, ?_⟩⟩
            · simp only [zwI_L, zwI_I, zwI_J, zwI_R, zwJ_L, zwJ_I, zwJ_J, zwJ_R, zwR_L, zwR_I, zwR_J, zwR_R, zw2_s, zw2_n, ne_eq, not_false_eq_true, reduceCtorEq, not_true_eq_false, Nat.reduceEqDiff]; rw [zup_n (by decide)]; exact h4
            · simp only [zwI_L, zwI_I, zwI_J, zwI_R, zwJ_L, zwJ_I, zwJ_J, zwJ_R, zwR_L, zwR_I, zwR_J, zwR_R, zw2_s, zw2_n, ne_eq, not_false_eq_true, reduceCtorEq, not_true_eq_false, Nat.reduceEqDiff]; rw [zup_n (by decide)]; exact hga
            · simp only [zwI_L, zwI_I, zwI_J, zwI_R, zwJ_L, zwJ_I, zwJ_J, zwJ_R, zwR_L, zwR_I, zwR_J, zwR_R, zw2_s, zw2_n, ne_eq, not_false_eq_true, reduceCtorEq, not_true_eq_false, Nat.reduceEqDiff]; rw [zup_s, nI_1]
            · rw [← wrun_t hlt2 hp]; exact hw
          have off : wq tp (wsk tp b0) b = false → b = wte tp (wsk tp b0) := by
            intro hp
            rw [← hw, wrun_f hlt2 hp]
          have digits : ¬ (ltr (bt tp (wsk tp b0)) = true ∧ ltr (bt tp b) = true) → zb_X3_step_146 K J M' [some (.ref k), some (.int (zbI (ltr (bt tp (wsk tp b0)) = true))), some (.int (zbI (dgt (bt tp (wsk tp b0)) = true)))] [] := by
            intro hn
            simp only [zb_X3_step_146, hk, zsh_3, zsh_4, q0, q3, hgb, zbI_0, zT_push, zT_bin, zT_div, zT_bil, zT_shl, zT_un, zT_i2l, zT_l2i, zT_lcmp, zT_ild, zT_lld, zT_ald, zT_ist, zT_lst, zT_ast, zT_iinc, zT_dup, zT_dup2, zT_pop, zT_if1, zT_if2, zT_ifn, zT_getI, zT_getJ, zT_getR, zT_putI, zT_putZ, zT_putJ, zT_putR, zT_ald0, zT_lald, zT_aald, zT_iast, zT_zast, zT_bast, zT_last, zT_aast, zT_iret, zT_nret, zT_aret, zT_vret, zT_oi, zT_mm, zT_ialX, zT_S1, zT_S2, zT_S3, zT_V0, zT_V1, zT_V2, zT_V3, zT_V4, zT_V5, zT_V6, zT_I0, zT_I1, zT_I2, zlg, zlset, zlpr, zent, zok, va_rf, List.length_cons, List.length_nil, List.replicate, List.cons_append, List.nil_append, List.append_nil, Option.toList_some, Option.toList_none, Option.toList, Nat.reduceAdd, Nat.reduceSub, Nat.reduceLeDiff, Nat.zero_add, Nat.zero_le, true_and, and_true, Nat.le_refl, ge_iff_le, Nat.reduceEqDiff]
            refine ⟨fun h2 => S181 (off ?_), fun h2 => ?_⟩
            · unfold wq
              simp only [Bool.or_eq_false_iff, Bool.and_eq_false_iff]
              refine ⟨?_, Or.inl (by simpa using h2)⟩
              by_cases z : ltr (bt tp (wsk tp b0)) = true
              · exact Or.inr (by simpa using fun z2 => hn ⟨z, z2⟩)
              · exact Or.inl (by simpa using z)
            · rw [nI_clamp (by omega), v2]
              refine ⟨vp_in_nI (by omega) (by decide), ?_⟩
              unfold zc_X3_isDigit
              dsimp only
              simp only [zbI_0, zsb_dgt _ v1, zT_push, zT_bin, zT_div, zT_bil, zT_shl, zT_un, zT_i2l, zT_l2i, zT_lcmp, zT_ild, zT_lld, zT_ald, zT_ist, zT_lst, zT_ast, zT_iinc, zT_dup, zT_dup2, zT_pop, zT_if1, zT_if2, zT_ifn, zT_getI, zT_getJ, zT_getR, zT_putI, zT_putZ, zT_putJ, zT_putR, zT_ald0, zT_lald, zT_aald, zT_iast, zT_zast, zT_bast, zT_last, zT_aast, zT_iret, zT_nret, zT_aret, zT_vret, zT_oi, zT_mm, zT_ialX, zT_S1, zT_S2, zT_S3, zT_V0, zT_V1, zT_V2, zT_V3, zT_V4, zT_V5, zT_V6, zT_I0, zT_I1, zT_I2, zlg, zlset, zlpr, zent, zok, va_rf, List.length_cons, List.length_nil, List.replicate, List.cons_append, List.nil_append, List.append_nil, Option.toList_some, Option.toList_none, Option.toList, Nat.reduceAdd, Nat.reduceSub, Nat.reduceLeDiff, Nat.zero_add, Nat.zero_le, true_and, and_true, Nat.le_refl, ge_iff_le, Nat.reduceEqDiff]
              refine ⟨fun h3 => S181 (off ?_), fun h3 => on ?_⟩
              · unfold wq
                simp only [Bool.or_eq_false_iff, Bool.and_eq_false_iff]
                refine ⟨?_, Or.inr (by simpa using h3)⟩
                by_cases z : ltr (bt tp (wsk tp b0)) = true
                · exact Or.inr (by simpa using fun z2 => hn ⟨z, z2⟩)
                · exact Or.inl (by simpa using z)
              · unfold wq
                rw [Classical.not_not.mp h2, Classical.not_not.mp h3]
                simp
          refine ⟨fun h2 => digits (fun z => h2 z.1), fun h2 => ?_⟩
          rw [nI_clamp (by omega), v2]
          refine ⟨vp_in_nI (by omega) (by decide), ?_⟩
          unfold zc_X3_isLetter
          dsimp only
          simp only [zbI_0, zsb_ltr _ v1, zT_push, zT_bin, zT_div, zT_bil, zT_shl, zT_un, zT_i2l, zT_l2i, zT_lcmp, zT_ild, zT_lld, zT_ald, zT_ist, zT_lst, zT_ast, zT_iinc, zT_dup, zT_dup2, zT_pop, zT_if1, zT_if2, zT_ifn, zT_getI, zT_getJ, zT_getR, zT_putI, zT_putZ, zT_putJ, zT_putR, zT_ald0, zT_lald, zT_aald, zT_iast, zT_zast, zT_bast, zT_last, zT_aast, zT_iret, zT_nret, zT_aret, zT_vret, zT_oi, zT_mm, zT_ialX, zT_S1, zT_S2, zT_S3, zT_V0, zT_V1, zT_V2, zT_V3, zT_V4, zT_V5, zT_V6, zT_I0, zT_I1, zT_I2, zlg, zlset, zlpr, zent, zok, va_rf, List.length_cons, List.length_nil, List.replicate, List.cons_append, List.nil_append, List.append_nil, Option.toList_some, Option.toList_none, Option.toList, Nat.reduceAdd, Nat.reduceSub, Nat.reduceLeDiff, Nat.zero_add, Nat.zero_le, true_and, and_true, Nat.le_refl, ge_iff_le, Nat.reduceEqDiff]
          refine ⟨fun h3 => digits (fun z => h3 z.2), fun h3 => on ?_⟩
          unfold wq
          rw [Classical.not_not.mp h2, Classical.not_not.mp h3]
          simp
    · intro J hJ
      simp only [zb_X3_step_0, hk, hb0, zT_push, zT_bin, zT_div, zT_bil, zT_shl, zT_un, zT_i2l, zT_l2i, zT_lcmp, zT_ild, zT_lld, zT_ald, zT_ist, zT_lst, zT_ast, zT_iinc, zT_dup, zT_dup2, zT_pop, zT_if1, zT_if2, zT_ifn, zT_getI, zT_getJ, zT_getR, zT_putI, zT_putZ, zT_putJ, zT_putR, zT_ald0, zT_lald, zT_aald, zT_iast, zT_zast, zT_bast, zT_last, zT_aast, zT_iret, zT_nret, zT_aret, zT_vret, zT_oi, zT_mm, zT_ialX, zT_S1, zT_S2, zT_S3, zT_V0, zT_V1, zT_V2, zT_V3, zT_V4, zT_V5, zT_V6, zT_I0, zT_I1, zT_I2, zlg, zlset, zlpr, zent, zok, va_rf, List.length_cons, List.length_nil, List.replicate, List.cons_append, List.nil_append, List.append_nil, Option.toList_some, Option.toList_none, Option.toList, Nat.reduceAdd, Nat.reduceSub, Nat.reduceLeDiff, Nat.zero_add, Nat.zero_le, true_and, and_true, Nat.le_refl, ge_iff_le, Nat.reduceEqDiff]
      refine hJ (2000 - b0) 8 (by simp) _ _ _ ⟨⟨zsm.rf.w (by simp), ?_⟩, Or.inl ⟨rfl, b0, rfl, Nat.le_refl _, hb, rfl, rfl, ?_, rfl⟩⟩
      · simp only [zwI_L, zwI_I, zwI_J, zwI_R, zwJ_L, zwJ_I, zwJ_J, zwJ_R, zwR_L, zwR_I, zwR_J, zwR_R, zw2_s, zw2_n, ne_eq, not_false_eq_true, reduceCtorEq, not_true_eq_false, Nat.reduceEqDiff]; rw [zup_n (by decide)]
      · simp only [zwI_L, zwI_I, zwI_J, zwI_R, zwJ_L, zwJ_I, zwJ_J, zwJ_R, zwR_L, zwR_I, zwR_J, zwR_R, zw2_s, zw2_n, ne_eq, not_false_eq_true, reduceCtorEq, not_true_eq_false, Nat.reduceEqDiff]; rw [zup_s]
  · exact h.elim
