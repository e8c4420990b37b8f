/-! DeltaRunsModel <init> -/
theorem zd_X8_init_0 : decode cX8_init 0 = .ok (.aload_n 0, 1) := by decide +kernel
theorem zd_X8_init_1 : decode cX8_init 1 = .ok (.invokespecial 1, 3) := by decide +kernel
theorem zd_X8_init_4 : decode cX8_init 4 = .ok (.aload_n 0, 1) := by decide +kernel
theorem zd_X8_init_5 : decode cX8_init 5 = .ok (.bipush 6, 2) := by decide +kernel
theorem zd_X8_init_7 : decode cX8_init 7 = .ok (.putfield 7, 3) := by decide +kernel
theorem zd_X8_init_10 : decode cX8_init 10 = .ok (.aload_n 0, 1) := by decide +kernel
theorem zd_X8_init_11 : decode cX8_init 11 = .ok (.bipush 6, 2) := by decide +kernel
theorem zd_X8_init_13 : decode cX8_init 13 = .ok (.putfield 13, 3) := by decide +kernel
theorem zd_X8_init_16 : decode cX8_init 16 = .ok (.aload_n 0, 1) := by decide +kernel
theorem zd_X8_init_17 : decode cX8_init 17 = .ok (.bipush 40, 2) := by decide +kernel
theorem zd_X8_init_19 : decode cX8_init 19 = .ok (.putfield 16, 3) := by decide +kernel
theorem zd_X8_init_22 : decode cX8_init 22 = .ok (.aload_n 0, 1) := by decide +kernel
theorem zd_X8_init_23 : decode cX8_init 23 = .ok (.bipush 64, 2) := by decide +kernel
theorem zd_X8_init_25 : decode cX8_init 25 = .ok (.putfield 19, 3) := by decide +kernel
theorem zd_X8_init_28 : decode cX8_init 28 = .ok (.aload_n 0, 1) := by decide +kernel
theorem zd_X8_init_29 : decode cX8_init 29 = .ok (.bipush 120, 2) := by decide +kernel
theorem zd_X8_init_31 : decode cX8_init 31 = .ok (.newarray .int, 2) := by decide +kernel
theorem zd_X8_init_33 : decode cX8_init 33 = .ok (.putfield 22, 3) := by decide +kernel
theorem zd_X8_init_36 : decode cX8_init 36 = .ok (.aload_n 0, 1) := by decide +kernel
theorem zd_X8_init_37 : decode cX8_init 37 = .ok (.bipush 20, 2) := by decide +kernel
theorem zd_X8_init_39 : decode cX8_init 39 = .ok (.newarray .int, 2) := by decide +kernel
theorem zd_X8_init_41 : decode cX8_init 41 = .ok (.putfield 26, 3) := by decide +kernel
theorem zd_X8_init_44 : decode cX8_init 44 = .ok (.aload_n 0, 1) := by decide +kernel
theorem zd_X8_init_45 : decode cX8_init 45 = .ok (.bipush 20, 2) := by decide +kernel
theorem zd_X8_init_47 : decode cX8_init 47 = .ok (.newarray .int, 2) := by decide +kernel
theorem zd_X8_init_49 : decode cX8_init 49 = .ok (.putfield 29, 3) := by decide +kernel
theorem zd_X8_init_52 : decode cX8_init 52 = .ok (.aload_n 0, 1) := by decide +kernel
theorem zd_X8_init_53 : decode cX8_init 53 = .ok (.bipush 20, 2) := by decide +kernel
theorem zd_X8_init_55 : decode cX8_init 55 = .ok (.newarray .int, 2) := by decide +kernel
theorem zd_X8_init_57 : decode cX8_init 57 = .ok (.putfield 32, 3) := by decide +kernel
theorem zd_X8_init_60 : decode cX8_init 60 = .ok (.aload_n 0, 1) := by decide +kernel
theorem zd_X8_init_61 : decode cX8_init 61 = .ok (.bipush 20, 2) := by decide +kernel
theorem zd_X8_init_63 : decode cX8_init 63 = .ok (.newarray .int, 2) := by decide +kernel
theorem zd_X8_init_65 : decode cX8_init 65 = .ok (.putfield 35, 3) := by decide +kernel
theorem zd_X8_init_68 : decode cX8_init 68 = .ok (.aload_n 0, 1) := by decide +kernel
theorem zd_X8_init_69 : decode cX8_init 69 = .ok (.bipush 20, 2) := by decide +kernel
theorem zd_X8_init_71 : decode cX8_init 71 = .ok (.newarray .int, 2) := by decide +kernel
theorem zd_X8_init_73 : decode cX8_init 73 = .ok (.putfield 38, 3) := by decide +kernel
theorem zd_X8_init_76 : decode cX8_init 76 = .ok (.aload_n 0, 1) := by decide +kernel
theorem zd_X8_init_77 : decode cX8_init 77 = .ok (.bipush 100, 2) := by decide +kernel
theorem zd_X8_init_79 : decode cX8_init 79 = .ok (.newarray .int, 2) := by decide +kernel
theorem zd_X8_init_81 : decode cX8_init 81 = .ok (.putfield 41, 3) := by decide +kernel
theorem zd_X8_init_84 : decode cX8_init 84 = .ok (.aload_n 0, 1) := by decide +kernel
theorem zd_X8_init_85 : decode cX8_init 85 = .ok (.sipush 300, 3) := by decide +kernel
theorem zd_X8_init_88 : decode cX8_init 88 = .ok (.newarray .int, 2) := by decide +kernel
theorem zd_X8_init_90 : decode cX8_init 90 = .ok (.putfield 44, 3) := by decide +kernel
theorem zd_X8_init_93 : decode cX8_init 93 = .ok (.aload_n 0, 1) := by decide +kernel
theorem zd_X8_init_94 : decode cX8_init 94 = .ok (.iconst (-1), 1) := by decide +kernel
theorem zd_X8_init_95 : decode cX8_init 95 = .ok (.putfield 47, 3) := by decide +kernel
theorem zd_X8_init_98 : decode cX8_init 98 = .ok (.aload_n 0, 1) := by decide +kernel
theorem zd_X8_init_99 : decode cX8_init 99 = .ok (.bipush 120, 2) := by decide +kernel
theorem zd_X8_init_101 : decode cX8_init 101 = .ok (.newarray .int, 2) := by decide +kernel
theorem zd_X8_init_103 : decode cX8_init 103 = .ok (.putfield 50, 3) := by decide +kernel
theorem zd_X8_init_106 : decode cX8_init 106 = .ok (.aload_n 0, 1) := by decide +kernel
theorem zd_X8_init_107 : decode cX8_init 107 = .ok (.bipush 120, 2) := by decide +kernel
theorem zd_X8_init_109 : decode cX8_init 109 = .ok (.newarray .boolean, 2) := by decide +kernel
theorem zd_X8_init_111 : decode cX8_init 111 = .ok (.putfield 53, 3) := by decide +kernel
theorem zd_X8_init_114 : decode cX8_init 114 = .ok (.aload_n 0, 1) := by decide +kernel
theorem zd_X8_init_115 : decode cX8_init 115 = .ok (.bipush 120, 2) := by decide +kernel
theorem zd_X8_init_117 : decode cX8_init 117 = .ok (.newarray .int, 2) := by decide +kernel
theorem zd_X8_init_119 : decode cX8_init 119 = .ok (.putfield 57, 3) := by decide +kernel
theorem zd_X8_init_122 : decode cX8_init 122 = .ok (.aload_n 0, 1) := by decide +kernel
theorem zd_X8_init_123 : decode cX8_init 123 = .ok (.bipush 120, 2) := by decide +kernel
theorem zd_X8_init_125 : decode cX8_init 125 = .ok (.newarray .boolean, 2) := by decide +kernel
theorem zd_X8_init_127 : decode cX8_init 127 = .ok (.putfield 60, 3) := by decide +kernel
theorem zd_X8_init_130 : decode cX8_init 130 = .ok (.aload_n 0, 1) := by decide +kernel
theorem zd_X8_init_131 : decode cX8_init 131 = .ok (.bipush 120, 2) := by decide +kernel
theorem zd_X8_init_133 : decode cX8_init 133 = .ok (.newarray .int, 2) := by decide +kernel
theorem zd_X8_init_135 : decode cX8_init 135 = .ok (.putfield 63, 3) := by decide +kernel
theorem zd_X8_init_138 : decode cX8_init 138 = .ok (.aload_n 0, 1) := by decide +kernel
theorem zd_X8_init_139 : decode cX8_init 139 = .ok (.iconst 4, 1) := by decide +kernel
theorem zd_X8_init_140 : decode cX8_init 140 = .ok (.newarray .int, 2) := by decide +kernel
theorem zd_X8_init_142 : decode cX8_init 142 = .ok (.putfield 66, 3) := by decide +kernel
theorem zd_X8_init_145 : decode cX8_init 145 = .ok (.aload_n 0, 1) := by decide +kernel
theorem zd_X8_init_146 : decode cX8_init 146 = .ok (.iconst 4, 1) := by decide +kernel
theorem zd_X8_init_147 : decode cX8_init 147 = .ok (.newarray .int, 2) := by decide +kernel
theorem zd_X8_init_149 : decode cX8_init 149 = .ok (.putfield 69, 3) := by decide +kernel
theorem zd_X8_init_152 : decode cX8_init 152 = .ok (.aload_n 0, 1) := by decide +kernel
theorem zd_X8_init_153 : decode cX8_init 153 = .ok (.sipush 200, 3) := by decide +kernel
theorem zd_X8_init_156 : decode cX8_init 156 = .ok (.newarray .int, 2) := by decide +kernel
theorem zd_X8_init_158 : decode cX8_init 158 = .ok (.putfield 72, 3) := by decide +kernel
theorem zd_X8_init_161 : decode cX8_init 161 = .ok (.aload_n 0, 1) := by decide +kernel
theorem zd_X8_init_162 : decode cX8_init 162 = .ok (.sipush 200, 3) := by decide +kernel
theorem zd_X8_init_165 : decode cX8_init 165 = .ok (.newarray .int, 2) := by decide +kernel
theorem zd_X8_init_167 : decode cX8_init 167 = .ok (.putfield 75, 3) := by decide +kernel
theorem zd_X8_init_170 : decode cX8_init 170 = .ok (.aload_n 0, 1) := by decide +kernel
theorem zd_X8_init_171 : decode cX8_init 171 = .ok (.sipush 200, 3) := by decide +kernel
theorem zd_X8_init_174 : decode cX8_init 174 = .ok (.newarray .int, 2) := by decide +kernel
theorem zd_X8_init_176 : decode cX8_init 176 = .ok (.putfield 78, 3) := by decide +kernel
theorem zd_X8_init_179 : decode cX8_init 179 = .ok (.aload_n 0, 1) := by decide +kernel
theorem zd_X8_init_180 : decode cX8_init 180 = .ok (.sipush 200, 3) := by decide +kernel
theorem zd_X8_init_183 : decode cX8_init 183 = .ok (.newarray .int, 2) := by decide +kernel
theorem zd_X8_init_185 : decode cX8_init 185 = .ok (.putfield 81, 3) := by decide +kernel
theorem zd_X8_init_188 : decode cX8_init 188 = .ok (.aload_n 0, 1) := by decide +kernel
theorem zd_X8_init_189 : decode cX8_init 189 = .ok (.bipush 36, 2) := by decide +kernel
theorem zd_X8_init_191 : decode cX8_init 191 = .ok (.newarray .int, 2) := by decide +kernel
theorem zd_X8_init_193 : decode cX8_init 193 = .ok (.putfield 84, 3) := by decide +kernel
theorem zd_X8_init_196 : decode cX8_init 196 = .ok (.aload_n 0, 1) := by decide +kernel
theorem zd_X8_init_197 : decode cX8_init 197 = .ok (.bipush 36, 2) := by decide +kernel
theorem zd_X8_init_199 : decode cX8_init 199 = .ok (.newarray .int, 2) := by decide +kernel
theorem zd_X8_init_201 : decode cX8_init 201 = .ok (.putfield 87, 3) := by decide +kernel
theorem zd_X8_init_204 : decode cX8_init 204 = .ok (.aload_n 0, 1) := by decide +kernel
theorem zd_X8_init_205 : decode cX8_init 205 = .ok (.invokevirtual 90, 3) := by decide +kernel
theorem zd_X8_init_208 : decode cX8_init 208 = .ok (.return_, 1) := by decide +kernel
def zb_X8_init_0 (K : zKt) (J : Nat → zPP) (lc lz : Nat) : zPP := zT_ald 0 (zT_oi (zT_ald 0 (zT_push (.int 6) (zT_putI 8 2 38 (zT_ald 0 (zT_push (.int 6) (zT_putI 8 3 38 (zT_ald 0 (zT_push (.int 40) (zT_putI 8 4 38 (zT_ald 0 (zT_push (.int 64) (zT_putI 8 6 38 (zT_ald 0 (zT_push (.int 120) (zT_newa 0 lc lz (zT_putR 8 7 38 (zT_ald 0 (zT_push (.int 20) (zT_newa 0 lc lz (zT_putR 8 9 38 (zT_ald 0 (zT_push (.int 20) (zT_newa 0 lc lz (zT_putR 8 10 38 (zT_ald 0 (zT_push (.int 20) (zT_newa 0 lc lz (zT_putR 8 11 38 (zT_ald 0 (zT_push (.int 20) (zT_newa 0 lc lz (zT_putR 8 12 38 (zT_ald 0 (zT_push (.int 20) (zT_newa 0 lc lz (zT_putR 8 13 38 (zT_ald 0 (zT_push (.int 100) (zT_newa 0 lc lz (zT_putR 8 15 38 (zT_ald 0 (zT_push (.int 300) (zT_newa 0 lc lz (zT_putR 8 16 38 (zT_ald 0 (zT_push (.int (-1)) (zT_putI 8 22 38 (zT_ald 0 (zT_push (.int 120) (zT_newa 0 lc lz (zT_putR 8 24 38 (zT_ald 0 (zT_push (.int 120) (zT_newa 1 lc lz (zT_putR 8 25 38 (zT_ald 0 (zT_push (.int 120) (zT_newa 0 lc lz (zT_putR 8 26 38 (zT_ald 0 (zT_push (.int 120) (zT_newa 1 lc lz (zT_putR 8 27 38 (zT_ald 0 (zT_push (.int 120) (zT_newa 0 lc lz (zT_putR 8 28 38 (zT_ald 0 (zT_push (.int 4) (zT_newa 0 lc lz (zT_putR 8 29 38 (zT_ald 0 (zT_push (.int 4) (zT_newa 0 lc lz (zT_putR 8 30 38 (zT_ald 0 (zT_push (.int 200) (zT_newa 0 lc lz (zT_putR 8 32 38 (zT_ald 0 (zT_push (.int 200) (zT_newa 0 lc lz (zT_putR 8 33 38 (zT_ald 0 (zT_push (.int 200) (zT_newa 0 lc lz (zT_putR 8 34 38 (zT_ald 0 (zT_push (.int 200) (zT_newa 0 lc lz (zT_putR 8 35 38 (zT_ald 0 (zT_push (.int 36) (zT_newa 0 lc lz (zT_putR 8 36 38 (zT_ald 0 (zT_push (.int 36) (zT_newa 0 lc lz (zT_putR 8 37 38 (zT_ald 0 (zT_V0 zok 8 38 zc_X8_flat (zT_vret K)))))))))))))))))))))))))))))))))))))))))))))))))))))))))))))))))))))))))))))))))))))))))))))))))))))))
theorem zbs_X8_init_0 {X : zCt} (hR : zRX X = { frames := 1, cells := 22, slots := 3000, locals := 21 }) (J : Nat → zPP) (hJ : ∀ h ∈ ([] : List Nat), zSd X RX8 "<init>" cX8_init 1 none h (J h)) : zSd X RX8 "<init>" cX8_init 1 none 0 (zb_X8_init_0 (zKX X) J (zlc X) (zls X)) := zs_aload_n zd_X8_init_0 rfl (zs_oi gw_3_84 gw_1_21 gw_1_22 (zrm1 hR (by decide) (by decide)) zd_X8_init_1 (zs_aload_n zd_X8_init_4 rfl (zs_bipush zd_X8_init_5 (by decide) (zs_putI (ci := 8) (j := 2) (T := TX8) rfl inX8 tyX8_ok nmX8 (by decide) gw_3_91 rfl rfl rfl zd_X8_init_7 (zs_aload_n zd_X8_init_10 rfl (zs_bipush zd_X8_init_11 (by decide) (zs_putI (ci := 8) (j := 3) (T := TX8) rfl inX8 tyX8_ok nmX8 (by decide) gw_3_92 rfl rfl rfl zd_X8_init_13 (zs_aload_n zd_X8_init_16 rfl (zs_bipush zd_X8_init_17 (by decide) (zs_putI (ci := 8) (j := 4) (T := TX8) rfl inX8 tyX8_ok nmX8 (by decide) gw_3_93 rfl rfl rfl zd_X8_init_19 (zs_aload_n zd_X8_init_22 rfl (zs_bipush zd_X8_init_23 (by decide) (zs_putI (ci := 8) (j := 6) (T := TX8) rfl inX8 tyX8_ok nmX8 (by decide) gw_3_95 rfl rfl rfl zd_X8_init_25 (zs_aload_n zd_X8_init_28 rfl (zs_bipush zd_X8_init_29 (by decide) (zs_newI gw_1_60 rfl rfl zd_X8_init_31 (zs_putR (ci := 8) (j := 7) (T := TX8) rfl inX8 tyX8_ok nmX8 (by decide) gw_3_96 (Or.inr ⟨rfl, rfl, rfl⟩) (fun _ => ⟨rfl, rfl⟩) rfl zd_X8_init_33 (zs_aload_n zd_X8_init_36 rfl (zs_bipush zd_X8_init_37 (by decide) (zs_newI gw_1_60 rfl rfl zd_X8_init_39 (zs_putR (ci := 8) (j := 9) (T := TX8) rfl inX8 tyX8_ok nmX8 (by decide) gw_3_98 (Or.inr ⟨rfl, rfl, rfl⟩) (fun _ => ⟨rfl, rfl⟩) rfl zd_X8_init_41 (zs_aload_n zd_X8_init_44 rfl (zs_bipush zd_X8_init_45 (by decide) (zs_newI gw_1_60 rfl rfl zd_X8_init_47 (zs_putR (ci := 8) (j := 10) (T := TX8) rfl inX8 tyX8_ok nmX8 (by decide) gw_3_99 (Or.inr ⟨rfl, rfl, rfl⟩) (fun _ => ⟨rfl, rfl⟩) rfl zd_X8_init_49 (zs_aload_n zd_X8_init_52 rfl (zs_bipush zd_X8_init_53 (by decide) (zs_newI gw_1_60 rfl rfl zd_X8_init_55 (zs_putR (ci := 8) (j := 11) (T := TX8) rfl inX8 tyX8_ok nmX8 (by decide) gw_3_100 (Or.inr ⟨rfl, rfl, rfl⟩) (fun _ => ⟨rfl, rfl⟩) rfl zd_X8_init_57 (zs_aload_n zd_X8_init_60 rfl (zs_bipush zd_X8_init_61 (by decide) (zs_newI gw_1_60 rfl rfl zd_X8_init_63 (zs_putR (ci := 8) (j := 12) (T := TX8) rfl inX8 tyX8_ok nmX8 (by decide) gw_3_101 (Or.inr ⟨rfl, rfl, rfl⟩) (fun _ => ⟨rfl, rfl⟩) rfl zd_X8_init_65 (zs_aload_n zd_X8_init_68 rfl (zs_bipush zd_X8_init_69 (by decide) (zs_newI gw_1_60 rfl rfl zd_X8_init_71 (zs_putR (ci := 8) (j := 13) (T := TX8) rfl inX8 tyX8_ok nmX8 (by decide) gw_3_102 (Or.inr ⟨rfl, rfl, rfl⟩) (fun _ => ⟨rfl, rfl⟩) rfl zd_X8_init_73 (zs_aload_n zd_X8_init_76 rfl (zs_bipush zd_X8_init_77 (by decide) (zs_newI gw_1_60 rfl rfl zd_X8_init_79 (zs_putR (ci := 8) (j := 15) (T := TX8) rfl inX8 tyX8_ok nmX8 (by decide) gw_3_104 (Or.inr ⟨rfl, rfl, rfl⟩) (fun _ => ⟨rfl, rfl⟩) rfl zd_X8_init_81 (zs_aload_n zd_X8_init_84 rfl (zs_sipush zd_X8_init_85 (by decide) (zs_newI gw_1_60 rfl rfl zd_X8_init_88 (zs_putR (ci := 8) (j := 16) (T := TX8) rfl inX8 tyX8_ok nmX8 (by decide) gw_3_105 (Or.inr ⟨rfl, rfl, rfl⟩) (fun _ => ⟨rfl, rfl⟩) rfl zd_X8_init_90 (zs_aload_n zd_X8_init_93 rfl (zs_iconst zd_X8_init_94 (by decide) (zs_putI (ci := 8) (j := 22) (T := TX8) rfl inX8 tyX8_ok nmX8 (by decide) gw_3_111 rfl rfl rfl zd_X8_init_95 (zs_aload_n zd_X8_init_98 rfl (zs_bipush zd_X8_init_99 (by decide) (zs_newI gw_1_60 rfl rfl zd_X8_init_101 (zs_putR (ci := 8) (j := 24) (T := TX8) rfl inX8 tyX8_ok nmX8 (by decide) gw_3_113 (Or.inr ⟨rfl, rfl, rfl⟩) (fun _ => ⟨rfl, rfl⟩) rfl zd_X8_init_103 (zs_aload_n zd_X8_init_106 rfl (zs_bipush zd_X8_init_107 (by decide) (zs_newZ gw_1_150 rfl rfl zd_X8_init_109 (zs_putR (ci := 8) (j := 25) (T := TX8) rfl inX8 tyX8_ok nmX8 (by decide) gw_3_114 (Or.inr ⟨rfl, rfl, rfl⟩) (fun _ => ⟨rfl, rfl⟩) rfl zd_X8_init_111 (zs_aload_n zd_X8_init_114 rfl (zs_bipush zd_X8_init_115 (by decide) (zs_newI gw_1_60 rfl rfl zd_X8_init_117 (zs_putR (ci := 8) (j := 26) (T := TX8) rfl inX8 tyX8_ok nmX8 (by decide) gw_3_115 (Or.inr ⟨rfl, rfl, rfl⟩) (fun _ => ⟨rfl, rfl⟩) rfl zd_X8_init_119 (zs_aload_n zd_X8_init_122 rfl (zs_bipush zd_X8_init_123 (by decide) (zs_newZ gw_1_150 rfl rfl zd_X8_init_125 (zs_putR (ci := 8) (j := 27) (T := TX8) rfl inX8 tyX8_ok nmX8 (by decide) gw_3_116 (Or.inr ⟨rfl, rfl, rfl⟩) (fun _ => ⟨rfl, rfl⟩) rfl zd_X8_init_127 (zs_aload_n zd_X8_init_130 rfl (zs_bipush zd_X8_init_131 (by decide) (zs_newI gw_1_60 rfl rfl zd_X8_init_133 (zs_putR (ci := 8) (j := 28) (T := TX8) rfl inX8 tyX8_ok nmX8 (by decide) gw_3_117 (Or.inr ⟨rfl, rfl, rfl⟩) (fun _ => ⟨rfl, rfl⟩) rfl zd_X8_init_135 (zs_aload_n zd_X8_init_138 rfl (zs_iconst zd_X8_init_139 (by decide) (zs_newI gw_1_60 rfl rfl zd_X8_init_140 (zs_putR (ci := 8) (j := 29) (T := TX8) rfl inX8 tyX8_ok nmX8 (by decide) gw_3_118 (Or.inr ⟨rfl, rfl, rfl⟩) (fun _ => ⟨rfl, rfl⟩) rfl zd_X8_init_142 (zs_aload_n zd_X8_init_145 rfl (zs_iconst zd_X8_init_146 (by decide) (zs_newI gw_1_60 rfl rfl zd_X8_init_147 (zs_putR (ci := 8) (j := 30) (T := TX8) rfl inX8 tyX8_ok nmX8 (by decide) gw_3_119 (Or.inr ⟨rfl, rfl, rfl⟩) (fun _ => ⟨rfl, rfl⟩) rfl zd_X8_init_149 (zs_aload_n zd_X8_init_152 rfl (zs_sipush zd_X8_init_153 (by decide) (zs_newI gw_1_60 rfl rfl zd_X8_init_156 (zs_putR (ci := 8) (j := 32) (T := TX8) rfl inX8 tyX8_ok nmX8 (by decide) gw_3_121 (Or.inr ⟨rfl, rfl, rfl⟩) (fun _ => ⟨rfl, rfl⟩) rfl zd_X8_init_158 (zs_aload_n zd_X8_init_161 rfl (zs_sipush zd_X8_init_162 (by decide) (zs_newI gw_1_60 rfl rfl zd_X8_init_165 (zs_putR (ci := 8) (j := 33) (T := TX8) rfl inX8 tyX8_ok nmX8 (by decide) gw_3_122 (Or.inr ⟨rfl, rfl, rfl⟩) (fun _ => ⟨rfl, rfl⟩) rfl zd_X8_init_167 (zs_aload_n zd_X8_init_170 rfl (zs_sipush zd_X8_init_171 (by decide) (zs_newI gw_1_60 rfl rfl zd_X8_init_174 (zs_putR (ci := 8) (j := 34) (T := TX8) rfl inX8 tyX8_ok nmX8 (by decide) gw_3_123 (Or.inr ⟨rfl, rfl, rfl⟩) (fun _ => ⟨rfl, rfl⟩) rfl zd_X8_init_176 (zs_aload_n zd_X8_init_179 rfl (zs_sipush zd_X8_init_180 (by decide) (zs_newI gw_1_60 rfl rfl zd_X8_init_183 (zs_putR (ci := 8) (j := 35) (T := TX8) rfl inX8 tyX8_ok nmX8 (by decide) gw_3_124 (Or.inr ⟨rfl, rfl, rfl⟩) (fun _ => ⟨rfl, rfl⟩) rfl zd_X8_init_185 (zs_aload_n zd_X8_init_188 rfl (zs_bipush zd_X8_init_189 (by decide) (zs_newI gw_1_60 rfl rfl zd_X8_init_191 (zs_putR (ci := 8) (j := 36) (T := TX8) rfl inX8 tyX8_ok nmX8 (by decide) gw_3_125 (Or.inr ⟨rfl, rfl, rfl⟩) (fun _ => ⟨rfl, rfl⟩) rfl zd_X8_init_193 (zs_aload_n zd_X8_init_196 rfl (zs_bipush zd_X8_init_197 (by decide) (zs_newI gw_1_60 rfl rfl zd_X8_init_199 (zs_putR (ci := 8) (j := 37) (T := TX8) rfl inX8 tyX8_ok nmX8 (by decide) gw_3_126 (Or.inr ⟨rfl, rfl, rfl⟩) (fun _ => ⟨rfl, rfl⟩) rfl zd_X8_init_201 (zs_aload_n zd_X8_init_204 rfl (zs_V (ci := 8) rfl rfl (zm_X8_flat _ _ _) gw_3_88 gw_3_85 gw_3_87 gw_0_22 gw_1_7 zdn_X8_flat (zrm hR (by decide) (by decide)) zd_X8_init_205 (zCl_V0 zok_l) (zs_vret rfl zd_X8_init_208)))))))))))))))))))))))))))))))))))))))))))))))))))))))))))))))))))))))))))))))))))))))))))))))))))))))
theorem zdn_X8_init : yX8_init.cls ≠ "java/lang/invoke/MethodHandle" ∧ yX8_init.cls ≠ "java/lang/invoke/VarHandle" ∧ (parseMethodDescriptor yX8_init.desc).map (fun d => d.parameters.length) = some 0 := by decide +kernel
def zN0 : zMm := ([200], fun _ _ => 0, fun _ _ => 0, fun _ _ => none)
def mIn (N : zMm) (L : List Nat) (T : List (Nat × Nat × Nat)) (A : Nat → Int32) : Prop := N.1 = L ∧ (∀ k j, N.2.2.2 k j = zlk T k j) ∧ N.2.1 200 = A
theorem mIn.w {N : zMm} {L : List Nat} {T : List (Nat × Nat × Nat)} {A : Nat → Int32} (h : mIn N L T A) (j : Nat) (x : Int32) : mIn (zwI N 200 j x) L T (va_up A j x) := by
  obtain ⟨h1, h2, h3⟩ := h
  refine ⟨h1, h2, ?_⟩
  simp only [zwI_L, zwI_I, zwI_J, zwI_R, zwJ_L, zwJ_I, zwJ_J, zwJ_R, zwR_L, zwR_I, zwR_J, zwR_R, zw2_s, zw2_n, ne_eq, not_false_eq_true, reduceCtorEq, not_true_eq_false, Nat.reduceEqDiff]
  rw [h3]
theorem mIn.nA {N : zMm} {L : List Nat} {T : List (Nat × Nat × Nat)} {A : Nat → Int32} (h : mIn N L T A) (j : Nat) {k : Nat} (k1 : k ≠ 200) (hT : ∀ t ∈ T, t.1 ≠ k) : mIn (zwR (znw N k) 200 j (some k)) (L ++ [k]) ((200, j, k) :: T) A := by
  obtain ⟨h1, h2, h3⟩ := h
  refine ⟨by show N.1 ++ [k] = _; rw [h1], fun k' j' => ?_, ?_⟩
  · show zw2 (zrw N.2.2.2 k none) 200 j (some k) k' j' = if k' = 200 ∧ j' = j then some k else zlk T k' j'
    by_cases e : k' = 200
    · subst e
      rw [zw2_s]
      by_cases e2 : j' = j
      · subst e2
        rw [zup_s, if_pos ⟨rfl, rfl⟩]
      · rw [zup_n e2, if_neg (fun z => e2 z.2), zrw_n (Ne.symm k1)]
        exact h2 _ _
    · rw [zw2_n e, if_neg (fun z => e z.1)]
      by_cases e3 : k' = k
      · subst e3
        rw [zrw_s, zlk_no hT]
      · rw [zrw_n e3]
        exact h2 _ _
  · show zrw N.2.1 k 0 200 = _
    rw [zrw_n (Ne.symm k1)]; exact h3
def zc_X8_init (a : List Value) (M : zMm) (K : zKt) : Prop := match a with
  | [.ref k] => k = 200 ∧ M = zN0 ∧ ∀ M', zMF M' wF0 → K none M'
  | _ => False
set_option maxRecDepth 4000 in
set_option maxHeartbeats 4000000 in
theorem zm_X8_init (l : Launch) (D : va_G) (Y : Nat → ClassId) : zMt l D Y yX8_init cX8_init 1 none 1 21 22 3000 zc_X8_init := by
  refine zflat (by decide) (fun K J lc lz => zb_X8_init_0 K J lc lz) (fun X hR => zbs_X8_init_0 hR zJ0 zJ0_ok) (fun avs M K h => ?_)
  unfold zc_X8_init at h
  split at h
  · obtain ⟨rfl, rfl, h⟩ := h
    refine ⟨by simp [zent], ?_⟩
    have lc : zN0.1.length = 1 := rfl
    have lz : zss zN0.1 = 38 := rfl
    simp only [zb_X8_init_0, zT_newa, zsh_200, lc, lz, zT_push, zT_bin, zT_div, zT_bil, zT_shl, zT_un, zT_i2l, zT_l2i, zT_lcmp, zT_ild, zT_lld, zT_ald, zT_ist, zT_lst, zT_ast, zT_iinc, zT_dup, zT_dup2, zT_pop, zT_if1, zT_if2, zT_ifn, zT_getI, zT_getJ, zT_getR, zT_putI, zT_putZ, zT_putJ, zT_putR, zT_ald0, zT_lald, zT_aald, zT_iast, zT_zast, zT_bast, zT_last, zT_aast, zT_iret, zT_nret, zT_aret, zT_vret, zT_oi, zT_mm, zT_ialX, zT_S1, zT_S2, zT_S3, zT_V0, zT_V1, zT_V2, zT_V3, zT_V4, zT_V5, zT_V6, zT_I0, zT_I1, zT_I2, zlg, zlset, zlpr, zent, zok, va_rf, List.length_cons, List.length_nil, List.replicate, List.cons_append, List.nil_append, List.append_nil, Option.toList_some, Option.toList_none, Option.toList, Nat.reduceAdd, Nat.reduceSub, Nat.reduceLeDiff, Nat.zero_add, Nat.zero_le, true_and, and_true, Nat.le_refl, ge_iff_le, Nat.reduceEqDiff]
    have z0 : mIn zN0 [200] [] (fun _ => 0) := ⟨rfl, fun _ _ => rfl, rfl⟩
    have z0 := (((z0.w 2 6).w 3 6).w 4 40).w 6 64
    generalize zwI (zwI (zwI (zwI zN0 200 2 6) 200 3 6) 200 4 40) 200 6 64 = N at z0 ⊢
    have l1 : N.1 = ([200] : List Nat) := z0.1
    refine ⟨201, (by rw [l1]; decide), rfl, by decide, by decide, (by rw [l1]; decide), (by rw [l1]; decide), by decide, ?_⟩
    have z0 := z0.nA 7 (k := 201) (by decide) (by decide)
    generalize zwR (znw N 201) 200 7 (some 201) = N1 at z0 ⊢
    have l2 : N1.1 = ([200, 201] : List Nat) := z0.1
    refine ⟨202, (by rw [l2]; decide), rfl, by decide, by decide, (by rw [l2]; decide), (by rw [l2]; decide), by decide, ?_⟩
    have z0 := z0.nA 9 (k := 202) (by decide) (by decide)
    generalize zwR (znw N1 202) 200 9 (some 202) = N2 at z0 ⊢
    have l3 : N2.1 = ([200, 201, 202] : List Nat) := z0.1
    refine ⟨203, (by rw [l3]; decide), rfl, by decide, by decide, (by rw [l3]; decide), (by rw [l3]; decide), by decide, ?_⟩
    have z0 := z0.nA 10 (k := 203) (by decide) (by decide)
    generalize zwR (znw N2 203) 200 10 (some 203) = N3 at z0 ⊢
    have l4 : N3.1 = ([200, 201, 202, 203] : List Nat) := z0.1
    refine ⟨204, (by rw [l4]; decide), rfl, by decide, by decide, (by rw [l4]; decide), (by rw [l4]; decide), by decide, ?_⟩
    have z0 := z0.nA 11 (k := 204) (by decide) (by decide)
    generalize zwR (znw N3 204) 200 11 (some 204) = N4 at z0 ⊢
    have l5 : N4.1 = ([200, 201, 202, 203, 204] : List Nat) := z0.1
    refine ⟨205, (by rw [l5]; decide), rfl, by decide, by decide, (by rw [l5]; decide), (by rw [l5]; decide), by decide, ?_⟩
    have z0 := z0.nA 12 (k := 205) (by decide) (by decide)
    generalize zwR (znw N4 205) 200 12 (some 205) = N5 at z0 ⊢
    have l6 : N5.1 = ([200, 201, 202, 203, 204, 205] : List Nat) := z0.1
    refine ⟨206, (by rw [l6]; decide), rfl, by decide, by decide, (by rw [l6]; decide), (by rw [l6]; decide), by decide, ?_⟩
    have z0 := z0.nA 13 (k := 206) (by decide) (by decide)
    generalize zwR (znw N5 206) 200 13 (some 206) = N6 at z0 ⊢
    have l7 : N6.1 = ([200, 201, 202, 203, 204, 205, 206] : List Nat) := z0.1
    refine ⟨207, (by rw [l7]; decide), rfl, by decide, by decide, (by rw [l7]; decide), (by rw [l7]; decide), by decide, ?_⟩
    have z0 := z0.nA 15 (k := 207) (by decide) (by decide)
    generalize zwR (znw N6 207) 200 15 (some 207) = N7 at z0 ⊢
    have l8 : N7.1 = ([200, 201, 202, 203, 204, 205, 206, 207] : List Nat) := z0.1
    refine ⟨208, (by rw [l8]; decide), rfl, by decide, by decide, (by rw [l8]; decide), (by rw [l8]; decide), by decide, ?_⟩
    have z0 := z0.nA 16 (k := 208) (by decide) (by decide)
    generalize zwR (znw N7 208) 200 16 (some 208) = N8 at z0 ⊢
    have z0 := z0.w 22 (-1)
    generalize zwI N8 200 22 (-1) = N9 at z0 ⊢
    have l10 : N9.1 = ([200, 201, 202, 203, 204, 205, 206, 207, 208] : List Nat) := z0.1
    refine ⟨209, (by rw [l10]; decide), rfl, by decide, by decide, (by rw [l10]; decide), (by rw [l10]; decide), by decide, ?_⟩
    have z0 := z0.nA 24 (k := 209) (by decide) (by decide)
    generalize zwR (znw N9 209) 200 24 (some 209) = N10 at z0 ⊢
    have l11 : N10.1 = ([200, 201, 202, 203, 204, 205, 206, 207, 208, 209] : List Nat) := z0.1
    refine ⟨210, (by rw [l11]; decide), rfl, by decide, by decide, (by rw [l11]; decide), (by rw [l11]; decide), by decide, ?_⟩
    have z0 := z0.nA 25 (k := 210) (by decide) (by decide)
    generalize zwR (znw N10 210) 200 25 (some 210) = N11 at z0 ⊢
    have l12 : N11.1 = ([200, 201, 202, 203, 204, 205, 206, 207, 208, 209, 210] : List Nat) := z0.1
    refine ⟨211, (by rw [l12]; decide), rfl, by decide, by decide, (by rw [l12]; decide), (by rw [l12]; decide), by decide, ?_⟩
    have z0 := z0.nA 26 (k := 211) (by decide) (by decide)
    generalize zwR (znw N11 211) 200 26 (some 211) = N12 at z0 ⊢
    have l13 : N12.1 = ([200, 201, 202, 203, 204, 205, 206, 207, 208, 209, 210, 211] : List Nat) := z0.1
    refine ⟨212, (by rw [l13]; decide), rfl, by decide, by decide, (by rw [l13]; decide), (by rw [l13]; decide), by decide, ?_⟩
    have z0 := z0.nA 27 (k := 212) (by decide) (by decide)
    generalize zwR (znw N12 212) 200 27 (some 212) = N13 at z0 ⊢
    have l14 : N13.1 = ([200, 201, 202, 203, 204, 205, 206, 207, 208, 209, 210, 211, 212] : List Nat) := z0.1
    refine ⟨213, (by rw [l14]; decide), rfl, by decide, by decide, (by rw [l14]; decide), (by rw [l14]; decide), by decide, ?_⟩
    have z0 := z0.nA 28 (k := 213) (by decide) (by decide)
    generalize zwR (znw N13 213) 200 28 (some 213) = N14 at z0 ⊢
    have l15 : N14.1 = ([200, 201, 202, 203, 204, 205, 206, 207, 208, 209, 210, 211, 212, 213] : List Nat) := z0.1
    refine ⟨214, (by rw [l15]; decide), rfl, by decide, by decide, (by rw [l15]; decide), (by rw [l15]; decide), by decide, ?_⟩
    have z0 := z0.nA 29 (k := 214) (by decide) (by decide)
    generalize zwR (znw N14 214) 200 29 (some 214) = N15 at z0 ⊢
    have l16 : N15.1 = ([200, 201, 202, 203, 204, 205, 206, 207, 208, 209, 210, 211, 212, 213, 214] : List Nat) := z0.1
    refine ⟨215, (by rw [l16]; decide), rfl, by decide, by decide, (by rw [l16]; decide), (by rw [l16]; decide), by decide, ?_⟩
    have z0 := z0.nA 30 (k := 215) (by decide) (by decide)
    generalize zwR (znw N15 215) 200 30 (some 215) = N16 at z0 ⊢
    have l17 : N16.1 = ([200, 201, 202, 203, 204, 205, 206, 207, 208, 209, 210, 211, 212, 213, 214, 215] : List Nat) := z0.1
    refine ⟨216, (by rw [l17]; decide), rfl, by decide, by decide, (by rw [l17]; decide), (by rw [l17]; decide), by decide, ?_⟩
    have z0 := z0.nA 32 (k := 216) (by decide) (by decide)
    generalize zwR (znw N16 216) 200 32 (some 216) = N17 at z0 ⊢
    have l18 : N17.1 = ([200, 201, 202, 203, 204, 205, 206, 207, 208, 209, 210, 211, 212, 213, 214, 215, 216] : List Nat) := z0.1
    refine ⟨217, (by rw [l18]; decide), rfl, by decide, by decide, (by rw [l18]; decide), (by rw [l18]; decide), by decide, ?_⟩
    have z0 := z0.nA 33 (k := 217) (by decide) (by decide)
    generalize zwR (znw N17 217) 200 33 (some 217) = N18 at z0 ⊢
    have l19 : N18.1 = ([200, 201, 202, 203, 204, 205, 206, 207, 208, 209, 210, 211, 212, 213, 214, 215, 216, 217] : List Nat) := z0.1
    refine ⟨218, (by rw [l19]; decide), rfl, by decide, by decide, (by rw [l19]; decide), (by rw [l19]; decide), by decide, ?_⟩
    have z0 := z0.nA 34 (k := 218) (by decide) (by decide)
    generalize zwR (znw N18 218) 200 34 (some 218) = N19 at z0 ⊢
    have l20 : N19.1 = ([200, 201, 202, 203, 204, 205, 206, 207, 208, 209, 210, 211, 212, 213, 214, 215, 216, 217, 218] : List Nat) := z0.1
    refine ⟨219, (by rw [l20]; decide), rfl, by decide, by decide, (by rw [l20]; decide), (by rw [l20]; decide), by decide, ?_⟩
    have z0 := z0.nA 35 (k := 219) (by decide) (by decide)
    generalize zwR (znw N19 219) 200 35 (some 219) = N20 at z0 ⊢
    have l21 : N20.1 = ([200, 201, 202, 203, 204, 205, 206, 207, 208, 209, 210, 211, 212, 213, 214, 215, 216, 217, 218, 219] : List Nat) := z0.1
    refine ⟨220, (by rw [l21]; decide), rfl, by decide, by decide, (by rw [l21]; decide), (by rw [l21]; decide), by decide, ?_⟩
    have z0 := z0.nA 36 (k := 220) (by decide) (by decide)
    generalize zwR (znw N20 220) 200 36 (some 220) = N21 at z0 ⊢
    have l22 : N21.1 = ([200, 201, 202, 203, 204, 205, 206, 207, 208, 209, 210, 211, 212, 213, 214, 215, 216, 217, 218, 219, 220] : List Nat) := z0.1
    refine ⟨221, (by rw [l22]; decide), rfl, by decide, by decide, (by rw [l22]; decide), (by rw [l22]; decide), by decide, ?_⟩
    have z0 := z0.nA 37 (k := 221) (by decide) (by decide)
    generalize zwR (znw N21 221) 200 37 (some 221) = N22 at z0 ⊢
    obtain ⟨zl, zr, zi⟩ := z0
    have rr : zMr N22 := by
      unfold zMr
      simp only [zr]
      decide
    unfold zc_X8_flat
    dsimp only
    refine ⟨rfl, rr.1, fun M' hs f5 f31 fo fl => ?_⟩
    try simp only [zT_push, zT_bin, zT_div, zT_bil, zT_shl, zT_un, zT_i2l, zT_l2i, zT_lcmp, zT_ild, zT_lld, zT_ald, zT_ist, zT_lst, zT_ast, zT_iinc, zT_dup, zT_dup2, zT_pop, zT_if1, zT_if2, zT_ifn, zT_getI, zT_getJ, zT_getR, zT_putI, zT_putZ, zT_putJ, zT_putR, zT_ald0, zT_lald, zT_aald, zT_iast, zT_zast, zT_bast, zT_last, zT_aast, zT_iret, zT_nret, zT_aret, zT_vret, zT_oi, zT_mm, zT_ialX, zT_S1, zT_S2, zT_S3, zT_V0, zT_V1, zT_V2, zT_V3, zT_V4, zT_V5, zT_V6, zT_I0, zT_I1, zT_I2, zlg, zlset, zlpr, zent, zok, va_rf, List.length_cons, List.length_nil, List.replicate, List.cons_append, List.nil_append, List.append_nil, Option.toList_some, Option.toList_none, Option.toList, Nat.reduceAdd, Nat.reduceSub, Nat.reduceLeDiff, Nat.zero_add, Nat.zero_le, true_and, and_true, Nat.le_refl, ge_iff_le, Nat.reduceEqDiff]
    refine h M' ⟨rr.to hs, ⟨?_, ?_, ?_, ?_, ?_, ?_, fun e he => ?_, ?_, Nat.zero_le _, fun i t ht => (by cases ht)⟩, ⟨f31, Nat.zero_le _, fun i t ht => (by cases ht)⟩, ⟨?_, Nat.zero_le _, fun i t ht => (by cases ht)⟩, ?_, ?_⟩
    · exact ⟨by decide, by decide, by decide, by decide, by decide, by decide, ⟨by decide, by decide⟩, by decide, fun _ => by show 50 ≤ 200; decide⟩
    · rw [fo 2 (by decide) (by decide), zi]; rfl
    · rw [fo 3 (by decide) (by decide), zi]; rfl
    · rw [fo 4 (by decide) (by decide), zi]; rfl
    · exact f5
    · rw [fo 6 (by decide) (by decide), zi]; rfl
    · exact fl _ (mI_120 (w := 6) (h := 6) (by decide) (by decide) he)
    · rw [fo 8 (by decide) (by decide), zi]; rfl
    · rw [fo 17 (by decide) (by decide), zi]; rfl
    · rw [fo 22 (by decide) (by decide), zi]; rfl
    · rw [fo 1 (by decide) (by decide), zi]; rfl
  · exact h.elim
