/-! DeltaRuns height -/
theorem zd_X7_height_0 : decode cX7_height 0 = .ok (.iload_n 1, 1) := by decide +kernel
theorem zd_X7_height_1 : decode cX7_height 1 = .ok (.iconst 0, 1) := by decide +kernel
theorem zd_X7_height_2 : decode cX7_height 2 = .ok (.bipush 35, 2) := by decide +kernel
theorem zd_X7_height_4 : decode cX7_height 4 = .ok (.invokestatic 60, 3) := by decide +kernel
theorem zd_X7_height_7 : decode cX7_height 7 = .ok (.ifCond .eq 26, 3) := by decide +kernel
theorem zd_X7_height_10 : decode cX7_height 10 = .ok (.iload_n 2, 1) := by decide +kernel
theorem zd_X7_height_11 : decode cX7_height 11 = .ok (.iconst 0, 1) := by decide +kernel
theorem zd_X7_height_12 : decode cX7_height 12 = .ok (.bipush 30, 2) := by decide +kernel
theorem zd_X7_height_14 : decode cX7_height 14 = .ok (.invokestatic 60, 3) := by decide +kernel
theorem zd_X7_height_17 : decode cX7_height 17 = .ok (.ifCond .eq 16, 3) := by decide +kernel
theorem zd_X7_height_20 : decode cX7_height 20 = .ok (.aload_n 0, 1) := by decide +kernel
theorem zd_X7_height_21 : decode cX7_height 21 = .ok (.getfield 10, 3) := by decide +kernel
theorem zd_X7_height_24 : decode cX7_height 24 = .ok (.iload_n 3, 1) := by decide +kernel
theorem zd_X7_height_25 : decode cX7_height 25 = .ok (.iload 4, 2) := by decide +kernel
theorem zd_X7_height_27 : decode cX7_height 27 = .ok (.invokevirtual 81, 3) := by decide +kernel
theorem zd_X7_height_30 : decode cX7_height 30 = .ok (.ifCond .ne 5, 3) := by decide +kernel
theorem zd_X7_height_33 : decode cX7_height 33 = .ok (.iconst (-1), 1) := by decide +kernel
theorem zd_X7_height_34 : decode cX7_height 34 = .ok (.ireturn, 1) := by decide +kernel
theorem zd_X7_height_35 : decode cX7_height 35 = .ok (.aload_n 0, 1) := by decide +kernel
theorem zd_X7_height_36 : decode cX7_height 36 = .ok (.iload_n 1, 1) := by decide +kernel
theorem zd_X7_height_37 : decode cX7_height 37 = .ok (.iload_n 2, 1) := by decide +kernel
theorem zd_X7_height_38 : decode cX7_height 38 = .ok (.invokevirtual 119, 3) := by decide +kernel
theorem zd_X7_height_41 : decode cX7_height 41 = .ok (.iload_n 2, 1) := by decide +kernel
theorem zd_X7_height_42 : decode cX7_height 42 = .ok (.iload_n 3, 1) := by decide +kernel
theorem zd_X7_height_43 : decode cX7_height 43 = .ok (.iload 4, 2) := by decide +kernel
theorem zd_X7_height_45 : decode cX7_height 45 = .ok (.invokestatic 92, 3) := by decide +kernel
theorem zd_X7_height_48 : decode cX7_height 48 = .ok (.invokevirtual 123, 3) := by decide +kernel
theorem zd_X7_height_51 : decode cX7_height 51 = .ok (.ireturn, 1) := by decide +kernel
def zb_X7_height_33 (K : zKt) (J : Nat → zPP) (lc lz : Nat) : zPP := zT_push (.int (-1)) (zT_iret K)
theorem zbs_X7_height_33 {X : zCt} (hR : zRX X = { frames := 5, cells := 2, slots := 467, locals := 119 }) (J : Nat → zPP) (hJ : ∀ h ∈ ([] : List Nat), zSd X RX7 "height" cX7_height 5 (some .int) h (J h)) : zSd X RX7 "height" cX7_height 5 (some .int) 33 (zb_X7_height_33 (zKX X) J (zlc X) (zls X)) := zs_iconst zd_X7_height_33 (by decide) (zs_iret rfl zd_X7_height_34)
def zb_X7_height_0 (K : zKt) (J : Nat → zPP) (lc lz : Nat) : zPP := zT_ild 1 (zT_push (.int 0) (zT_push (.int 35) (zT_S3 zok zc_X7_within (zT_if1 (fun x => x = 0) (zb_X7_height_33 K J lc lz) (zT_ild 2 (zT_push (.int 0) (zT_push (.int 30) (zT_S3 zok zc_X7_within (zT_if1 (fun x => x = 0) (zb_X7_height_33 K J lc lz) (zT_ald 0 (zT_getR 7 0 9 (zT_ild 3 (zT_ild 4 (zT_V2 zok 1 6 zc_X1_has (zT_if1 (fun x => x = 0) (zb_X7_height_33 K J lc lz) (zT_ald 0 (zT_ild 1 (zT_ild 2 (zT_V2 (zlm 2 467 lc lz) 7 9 zc_X7_runTo (zT_ild 2 (zT_ild 3 (zT_ild 4 (zT_S2 zok zc_X7_cellAt (zT_V2 zok 6 2 zc_X6_heightOf (zT_iret K)))))))))))))))))))))))))
theorem zbs_X7_height_0 {X : zCt} (hR : zRX X = { frames := 5, cells := 2, slots := 467, locals := 119 }) (J : Nat → zPP) (hJ : ∀ h ∈ ([] : List Nat), zSd X RX7 "height" cX7_height 5 (some .int) h (J h)) : zSd X RX7 "height" cX7_height 5 (some .int) 0 (zb_X7_height_0 (zKX X) J (zlc X) (zls X)) := zs_iload_n zd_X7_height_0 rfl (zs_iconst zd_X7_height_1 (by decide) (zs_bipush zd_X7_height_2 (by decide) (zs_S (zm_X7_within _ _ _) gw_1_219 gw_1_217 gw_1_218 gw_1_1 zdn_X7_within (zrm hR (by decide) (by decide)) zd_X7_height_4 (zCl_S3 zok_l) (zs_if_eq (tgt := 33) zd_X7_height_7 (by decide) (zbs_X7_height_33 hR J hJ) (zs_iload_n zd_X7_height_10 rfl (zs_iconst zd_X7_height_11 (by decide) (zs_bipush zd_X7_height_12 (by decide) (zs_S (zm_X7_within _ _ _) gw_1_219 gw_1_217 gw_1_218 gw_1_1 zdn_X7_within (zrm hR (by decide) (by decide)) zd_X7_height_14 (zCl_S3 zok_l) (zs_if_eq (tgt := 33) zd_X7_height_17 (by decide) (zbs_X7_height_33 hR J hJ) (zs_aload_n zd_X7_height_20 rfl (zs_getR (ci := 7) (j := 0) (T := TX7) rfl inX7 (by decide) gw_1_185 rfl zd_X7_height_21 (zs_iload_n zd_X7_height_24 rfl (zs_iload zd_X7_height_25 (zs_V (ci := 1) rfl rfl (zm_X1_has _ _ _) gw_2_0 gw_1_237 gw_1_238 gw_1_239 gw_1_2 zdn_X1_has (zrm hR (by decide) (by decide)) zd_X7_height_27 (zCl_V2 zok_l) (zs_if_ne (tgt := 35) zd_X7_height_30 (by decide) (zs_aload_n zd_X7_height_35 rfl (zs_iload_n zd_X7_height_36 rfl (zs_iload_n zd_X7_height_37 rfl (zs_V (ci := 7) rfl rfl (zm_X7_runTo _ _ _) gw_2_160 gw_2_157 gw_2_159 gw_0_9 gw_1_1 zdn_X7_runTo (zrm hR (by decide) (by decide)) zd_X7_height_38 (zCl_V2 zlm_l) (zs_iload_n zd_X7_height_41 rfl (zs_iload_n zd_X7_height_42 rfl (zs_iload zd_X7_height_43 (zs_S (zm_X7_cellAt _ _ _) gw_2_7 gw_2_16 gw_2_6 gw_1_1 zdn_X7_cellAt (zrm hR (by decide) (by decide)) zd_X7_height_45 (zCl_S2 zok_l) (zs_V (ci := 6) rfl rfl (zm_X6_heightOf _ _ _) gw_2_190 gw_2_187 gw_2_188 gw_2_189 gw_1_14 zdn_X6_heightOf (zrm hR (by decide) (by decide)) zd_X7_height_48 (zCl_V2 zok_l) (zs_iret rfl zd_X7_height_51)))))))))) (zbs_X7_height_33 hR J hJ))))))))))))))))
theorem zdn_X7_height : yX7_height.cls ≠ "java/lang/invoke/MethodHandle" ∧ yX7_height.cls ≠ "java/lang/invoke/VarHandle" ∧ (parseMethodDescriptor yX7_height.desc).map (fun d => d.parameters.length) = some 4 := by decide +kernel
/-! DeltaRuns flow -/
theorem zd_X7_flow_0 : decode cX7_flow 0 = .ok (.iload_n 1, 1) := by decide +kernel
theorem zd_X7_flow_1 : decode cX7_flow 1 = .ok (.iconst 0, 1) := by decide +kernel
theorem zd_X7_flow_2 : decode cX7_flow 2 = .ok (.bipush 35, 2) := by decide +kernel
theorem zd_X7_flow_4 : decode cX7_flow 4 = .ok (.invokestatic 60, 3) := by decide +kernel
theorem zd_X7_flow_7 : decode cX7_flow 7 = .ok (.ifCond .eq 26, 3) := by decide +kernel
theorem zd_X7_flow_10 : decode cX7_flow 10 = .ok (.iload_n 2, 1) := by decide +kernel
theorem zd_X7_flow_11 : decode cX7_flow 11 = .ok (.iconst 1, 1) := by decide +kernel
theorem zd_X7_flow_12 : decode cX7_flow 12 = .ok (.bipush 30, 2) := by decide +kernel
theorem zd_X7_flow_14 : decode cX7_flow 14 = .ok (.invokestatic 60, 3) := by decide +kernel
theorem zd_X7_flow_17 : decode cX7_flow 17 = .ok (.ifCond .eq 16, 3) := by decide +kernel
theorem zd_X7_flow_20 : decode cX7_flow 20 = .ok (.aload_n 0, 1) := by decide +kernel
theorem zd_X7_flow_21 : decode cX7_flow 21 = .ok (.getfield 10, 3) := by decide +kernel
theorem zd_X7_flow_24 : decode cX7_flow 24 = .ok (.iload_n 3, 1) := by decide +kernel
theorem zd_X7_flow_25 : decode cX7_flow 25 = .ok (.iload 4, 2) := by decide +kernel
theorem zd_X7_flow_27 : decode cX7_flow 27 = .ok (.invokevirtual 81, 3) := by decide +kernel
theorem zd_X7_flow_30 : decode cX7_flow 30 = .ok (.ifCond .ne 5, 3) := by decide +kernel
theorem zd_X7_flow_33 : decode cX7_flow 33 = .ok (.iconst (-1), 1) := by decide +kernel
theorem zd_X7_flow_34 : decode cX7_flow 34 = .ok (.ireturn, 1) := by decide +kernel
theorem zd_X7_flow_35 : decode cX7_flow 35 = .ok (.aload_n 0, 1) := by decide +kernel
theorem zd_X7_flow_36 : decode cX7_flow 36 = .ok (.iload_n 1, 1) := by decide +kernel
theorem zd_X7_flow_37 : decode cX7_flow 37 = .ok (.iload_n 2, 1) := by decide +kernel
theorem zd_X7_flow_38 : decode cX7_flow 38 = .ok (.iconst 1, 1) := by decide +kernel
theorem zd_X7_flow_39 : decode cX7_flow 39 = .ok (.isub, 1) := by decide +kernel
theorem zd_X7_flow_40 : decode cX7_flow 40 = .ok (.invokevirtual 119, 3) := by decide +kernel
theorem zd_X7_flow_43 : decode cX7_flow 43 = .ok (.astore 5, 2) := by decide +kernel
theorem zd_X7_flow_45 : decode cX7_flow 45 = .ok (.aload_n 0, 1) := by decide +kernel
theorem zd_X7_flow_46 : decode cX7_flow 46 = .ok (.aload 5, 2) := by decide +kernel
theorem zd_X7_flow_48 : decode cX7_flow 48 = .ok (.iload_n 2, 1) := by decide +kernel
theorem zd_X7_flow_49 : decode cX7_flow 49 = .ok (.iconst 1, 1) := by decide +kernel
theorem zd_X7_flow_50 : decode cX7_flow 50 = .ok (.isub, 1) := by decide +kernel
theorem zd_X7_flow_51 : decode cX7_flow 51 = .ok (.invokevirtual 126, 3) := by decide +kernel
theorem zd_X7_flow_54 : decode cX7_flow 54 = .ok (.aload_n 0, 1) := by decide +kernel
theorem zd_X7_flow_55 : decode cX7_flow 55 = .ok (.getfield 46, 3) := by decide +kernel
theorem zd_X7_flow_58 : decode cX7_flow 58 = .ok (.iload_n 2, 1) := by decide +kernel
theorem zd_X7_flow_59 : decode cX7_flow 59 = .ok (.aload_n 0, 1) := by decide +kernel
theorem zd_X7_flow_60 : decode cX7_flow 60 = .ok (.getfield 10, 3) := by decide +kernel
theorem zd_X7_flow_63 : decode cX7_flow 63 = .ok (.aload_n 0, 1) := by decide +kernel
theorem zd_X7_flow_64 : decode cX7_flow 64 = .ok (.getfield 33, 3) := by decide +kernel
theorem zd_X7_flow_67 : decode cX7_flow 67 = .ok (.invokevirtual 130, 3) := by decide +kernel
theorem zd_X7_flow_70 : decode cX7_flow 70 = .ok (.aload_n 0, 1) := by decide +kernel
theorem zd_X7_flow_71 : decode cX7_flow 71 = .ok (.getfield 33, 3) := by decide +kernel
theorem zd_X7_flow_74 : decode cX7_flow 74 = .ok (.aload_n 0, 1) := by decide +kernel
theorem zd_X7_flow_75 : decode cX7_flow 75 = .ok (.getfield 10, 3) := by decide +kernel
theorem zd_X7_flow_78 : decode cX7_flow 78 = .ok (.iload_n 1, 1) := by decide +kernel
theorem zd_X7_flow_79 : decode cX7_flow 79 = .ok (.invokestatic 134, 3) := by decide +kernel
theorem zd_X7_flow_82 : decode cX7_flow 82 = .ok (.invokevirtual 137, 3) := by decide +kernel
theorem zd_X7_flow_85 : decode cX7_flow 85 = .ok (.aload_n 0, 1) := by decide +kernel
theorem zd_X7_flow_86 : decode cX7_flow 86 = .ok (.getfield 33, 3) := by decide +kernel
theorem zd_X7_flow_89 : decode cX7_flow 89 = .ok (.getfield 141, 3) := by decide +kernel
theorem zd_X7_flow_92 : decode cX7_flow 92 = .ok (.iload_n 3, 1) := by decide +kernel
theorem zd_X7_flow_93 : decode cX7_flow 93 = .ok (.iload 4, 2) := by decide +kernel
theorem zd_X7_flow_95 : decode cX7_flow 95 = .ok (.invokestatic 92, 3) := by decide +kernel
theorem zd_X7_flow_98 : decode cX7_flow 98 = .ok (.iaload, 1) := by decide +kernel
theorem zd_X7_flow_99 : decode cX7_flow 99 = .ok (.ireturn, 1) := by decide +kernel
def zb_X7_flow_33 (K : zKt) (J : Nat → zPP) (lc lz : Nat) : zPP := zT_push (.int (-1)) (zT_iret K)
theorem zbs_X7_flow_33 {X : zCt} (hR : zRX X = { frames := 5, cells := 2, slots := 467, locals := 119 }) (J : Nat → zPP) (hJ : ∀ h ∈ ([] : List Nat), zSd X RX7 "flow" cX7_flow 6 (some .int) h (J h)) : zSd X RX7 "flow" cX7_flow 6 (some .int) 33 (zb_X7_flow_33 (zKX X) J (zlc X) (zls X)) := zs_iconst zd_X7_flow_33 (by decide) (zs_iret rfl zd_X7_flow_34)
def zb_X7_flow_0 (K : zKt) (J : Nat → zPP) (lc lz : Nat) : zPP := zT_ild 1 (zT_push (.int 0) (zT_push (.int 35) (zT_S3 zok zc_X7_within (zT_if1 (fun x => x = 0) (zb_X7_flow_33 K J lc lz) (zT_ild 2 (zT_push (.int 1) (zT_push (.int 30) (zT_S3 zok zc_X7_within (zT_if1 (fun x => x = 0) (zb_X7_flow_33 K J lc lz) (zT_ald 0 (zT_getR 7 0 9 (zT_ild 3 (zT_ild 4 (zT_V2 zok 1 6 zc_X1_has (zT_if1 (fun x => x = 0) (zb_X7_flow_33 K J lc lz) (zT_ald 0 (zT_ild 1 (zT_ild 2 (zT_push (.int 1) (zT_bin (fun x y => x - y) (zT_V2 (zlm 2 467 lc lz) 7 9 zc_X7_runTo (zT_ast 5 (zT_ald 0 (zT_ald 5 (zT_ild 2 (zT_push (.int 1) (zT_bin (fun x y => x - y) (zT_V2 zok 7 9 zc_X7_takeUp (zT_ald 0 (zT_getR 7 5 9 (zT_ild 2 (zT_ald 0 (zT_getR 7 0 9 (zT_ald 0 (zT_getR 7 3 9 (zT_V3 zok 2 6 zc_X2_workIn (zT_ald 0 (zT_getR 7 3 9 (zT_ald 0 (zT_getR 7 0 9 (zT_ild 1 (zT_S1 zok zc_X7_sortOf (zT_V2 zok 5 11 zc_X5_run (zT_ald 0 (zT_getR 7 3 9 (zT_getR 5 2 11 (zT_ild 3 (zT_ild 4 (zT_S2 zok zc_X7_cellAt (zT_ald0 0 (zT_iret K)))))))))))))))))))))))))))))))))))))))))))))))))))
theorem zbs_X7_flow_0 {X : zCt} (hR : zRX X = { frames := 5, cells := 2, slots := 467, locals := 119 }) (J : Nat → zPP) (hJ : ∀ h ∈ ([] : List Nat), zSd X RX7 "flow" cX7_flow 6 (some .int) h (J h)) : zSd X RX7 "flow" cX7_flow 6 (some .int) 0 (zb_X7_flow_0 (zKX X) J (zlc X) (zls X)) := zs_iload_n zd_X7_flow_0 rfl (zs_iconst zd_X7_flow_1 (by decide) (zs_bipush zd_X7_flow_2 (by decide) (zs_S (zm_X7_within _ _ _) gw_1_219 gw_1_217 gw_1_218 gw_1_1 zdn_X7_within (zrm hR (by decide) (by decide)) zd_X7_flow_4 (zCl_S3 zok_l) (zs_if_eq (tgt := 33) zd_X7_flow_7 (by decide) (zbs_X7_flow_33 hR J hJ) (zs_iload_n zd_X7_flow_10 rfl (zs_iconst zd_X7_flow_11 (by decide) (zs_bipush zd_X7_flow_12 (by decide) (zs_S (zm_X7_within _ _ _) gw_1_219 gw_1_217 gw_1_218 gw_1_1 zdn_X7_within (zrm hR (by decide) (by decide)) zd_X7_flow_14 (zCl_S3 zok_l) (zs_if_eq (tgt := 33) zd_X7_flow_17 (by decide) (zbs_X7_flow_33 hR J hJ) (zs_aload_n zd_X7_flow_20 rfl (zs_getR (ci := 7) (j := 0) (T := TX7) rfl inX7 (by decide) gw_1_185 rfl zd_X7_flow_21 (zs_iload_n zd_X7_flow_24 rfl (zs_iload zd_X7_flow_25 (zs_V (ci := 1) rfl rfl (zm_X1_has _ _ _) gw_2_0 gw_1_237 gw_1_238 gw_1_239 gw_1_2 zdn_X1_has (zrm hR (by decide) (by decide)) zd_X7_flow_27 (zCl_V2 zok_l) (zs_if_ne (tgt := 35) zd_X7_flow_30 (by decide) (zs_aload_n zd_X7_flow_35 rfl (zs_iload_n zd_X7_flow_36 rfl (zs_iload_n zd_X7_flow_37 rfl (zs_iconst zd_X7_flow_38 (by decide) (zs_isub zd_X7_flow_39 (zs_V (ci := 7) rfl rfl (zm_X7_runTo _ _ _) gw_2_160 gw_2_157 gw_2_159 gw_0_9 gw_1_1 zdn_X7_runTo (zrm hR (by decide) (by decide)) zd_X7_flow_40 (zCl_V2 zlm_l) (zs_astore zd_X7_flow_43 (by decide) (zs_aload_n zd_X7_flow_45 rfl (zs_aload zd_X7_flow_46 (zs_iload_n zd_X7_flow_48 rfl (zs_iconst zd_X7_flow_49 (by decide) (zs_isub zd_X7_flow_50 (zs_V (ci := 7) rfl rfl (zm_X7_takeUp _ _ _) gw_2_186 gw_2_183 gw_2_185 gw_0_11 gw_1_1 zdn_X7_takeUp (zrm hR (by decide) (by decide)) zd_X7_flow_51 (zCl_V2 zok_l) (zs_aload_n zd_X7_flow_54 rfl (zs_getR (ci := 7) (j := 5) (T := TX7) rfl inX7 (by decide) gw_1_190 rfl zd_X7_flow_55 (zs_iload_n zd_X7_flow_58 rfl (zs_aload_n zd_X7_flow_59 rfl (zs_getR (ci := 7) (j := 0) (T := TX7) rfl inX7 (by decide) gw_1_185 rfl zd_X7_flow_60 (zs_aload_n zd_X7_flow_63 rfl (zs_getR (ci := 7) (j := 3) (T := TX7) rfl inX7 (by decide) gw_1_188 rfl zd_X7_flow_64 (zs_V (ci := 2) rfl rfl (zm_X2_workIn _ _ _) gw_2_200 gw_2_197 gw_2_198 gw_2_199 gw_1_6 zdn_X2_workIn (zrm hR (by decide) (by decide)) zd_X7_flow_67 (zCl_V3 zok_l) (zs_aload_n zd_X7_flow_70 rfl (zs_getR (ci := 7) (j := 3) (T := TX7) rfl inX7 (by decide) gw_1_188 rfl zd_X7_flow_71 (zs_aload_n zd_X7_flow_74 rfl (zs_getR (ci := 7) (j := 0) (T := TX7) rfl inX7 (by decide) gw_1_185 rfl zd_X7_flow_75 (zs_iload_n zd_X7_flow_78 rfl (zs_S (zm_X7_sortOf _ _ _) gw_2_208 gw_2_206 gw_2_207 gw_1_1 zdn_X7_sortOf (zrm hR (by decide) (by decide)) zd_X7_flow_79 (zCl_S1 zok_l) (zs_V (ci := 5) rfl rfl (zm_X5_run _ _ _) gw_2_212 gw_2_209 gw_2_210 gw_2_211 gw_1_5 zdn_X5_run (zrm hR (by decide) (by decide)) zd_X7_flow_82 (zCl_V2 zok_l) (zs_aload_n zd_X7_flow_85 rfl (zs_getR (ci := 7) (j := 3) (T := TX7) rfl inX7 (by decide) gw_1_188 rfl zd_X7_flow_86 (zs_getR (ci := 5) (j := 2) (T := TX5) rfl inX5 (by decide) gw_1_118 rfl zd_X7_flow_89 (zs_iload_n zd_X7_flow_92 rfl (zs_iload zd_X7_flow_93 (zs_S (zm_X7_cellAt _ _ _) gw_2_7 gw_2_16 gw_2_6 gw_1_1 zdn_X7_cellAt (zrm hR (by decide) (by decide)) zd_X7_flow_95 (zCl_S2 zok_l) (zs_iald zd_X7_flow_98 (zs_iret rfl zd_X7_flow_99)))))))))))))))))))))))))))))))))))) (zbs_X7_flow_33 hR J hJ))))))))))))))))
theorem zdn_X7_flow : yX7_flow.cls ≠ "java/lang/invoke/MethodHandle" ∧ yX7_flow.cls ≠ "java/lang/invoke/VarHandle" ∧ (parseMethodDescriptor yX7_flow.desc).map (fun d => d.parameters.length) = some 4 := by decide +kernel
/-! DeltaRuns against -/
theorem zd_X7_against_0 : decode cX7_against 0 = .ok (.iload_n 1, 1) := by decide +kernel
theorem zd_X7_against_1 : decode cX7_against 1 = .ok (.iconst 0, 1) := by decide +kernel
theorem zd_X7_against_2 : decode cX7_against 2 = .ok (.bipush 35, 2) := by decide +kernel
theorem zd_X7_against_4 : decode cX7_against 4 = .ok (.invokestatic 60, 3) := by decide +kernel
theorem zd_X7_against_7 : decode cX7_against 7 = .ok (.ifCond .eq 10, 3) := by decide +kernel
theorem zd_X7_against_10 : decode cX7_against 10 = .ok (.iload_n 2, 1) := by decide +kernel
theorem zd_X7_against_11 : decode cX7_against 11 = .ok (.invokestatic 151, 3) := by decide +kernel
theorem zd_X7_against_14 : decode cX7_against 14 = .ok (.ifCond .ne 5, 3) := by decide +kernel
theorem zd_X7_against_17 : decode cX7_against 17 = .ok (.iconst (-1), 1) := by decide +kernel
theorem zd_X7_against_18 : decode cX7_against 18 = .ok (.ireturn, 1) := by decide +kernel
theorem zd_X7_against_19 : decode cX7_against 19 = .ok (.aload_n 0, 1) := by decide +kernel
theorem zd_X7_against_20 : decode cX7_against 20 = .ok (.iconst 0, 1) := by decide +kernel
theorem zd_X7_against_21 : decode cX7_against 21 = .ok (.iload_n 1, 1) := by decide +kernel
theorem zd_X7_against_22 : decode cX7_against 22 = .ok (.iload_n 2, 1) := by decide +kernel
theorem zd_X7_against_23 : decode cX7_against 23 = .ok (.invokevirtual 159, 3) := by decide +kernel
theorem zd_X7_against_26 : decode cX7_against 26 = .ok (.ireturn, 1) := by decide +kernel
def zb_X7_against_17 (K : zKt) (J : Nat → zPP) (lc lz : Nat) : zPP := zT_push (.int (-1)) (zT_iret K)
theorem zbs_X7_against_17 {X : zCt} (hR : zRX X = { frames := 6, cells := 4, slots := 934, locals := 144 }) (J : Nat → zPP) (hJ : ∀ h ∈ ([] : List Nat), zSd X RX7 "against" cX7_against 3 (some .int) h (J h)) : zSd X RX7 "against" cX7_against 3 (some .int) 17 (zb_X7_against_17 (zKX X) J (zlc X) (zls X)) := zs_iconst zd_X7_against_17 (by decide) (zs_iret rfl zd_X7_against_18)
def zb_X7_against_0 (K : zKt) (J : Nat → zPP) (lc lz : Nat) : zPP := zT_ild 1 (zT_push (.int 0) (zT_push (.int 35) (zT_S3 zok zc_X7_within (zT_if1 (fun x => x = 0) (zb_X7_against_17 K J lc lz) (zT_ild 2 (zT_S1 zok zc_X7_isDay (zT_if1 (fun x => x = 0) (zb_X7_against_17 K J lc lz) (zT_ald 0 (zT_push (.int 0) (zT_ild 1 (zT_ild 2 (zT_V3 (zlm 4 934 lc lz) 7 9 zc_X7_againstFrom (zT_iret K)))))))))))))
theorem zbs_X7_against_0 {X : zCt} (hR : zRX X = { frames := 6, cells := 4, slots := 934, locals := 144 }) (J : Nat → zPP) (hJ : ∀ h ∈ ([] : List Nat), zSd X RX7 "against" cX7_against 3 (some .int) h (J h)) : zSd X RX7 "against" cX7_against 3 (some .int) 0 (zb_X7_against_0 (zKX X) J (zlc X) (zls X)) := zs_iload_n zd_X7_against_0 rfl (zs_iconst zd_X7_against_1 (by decide) (zs_bipush zd_X7_against_2 (by decide) (zs_S (zm_X7_within _ _ _) gw_1_219 gw_1_217 gw_1_218 gw_1_1 zdn_X7_within (zrm hR (by decide) (by decide)) zd_X7_against_4 (zCl_S3 zok_l) (zs_if_eq (tgt := 17) zd_X7_against_7 (by decide) (zbs_X7_against_17 hR J hJ) (zs_iload_n zd_X7_against_10 rfl (zs_S (zm_X7_isDay _ _ _) gw_3_41 gw_3_39 gw_3_40 gw_1_1 zdn_X7_isDay (zrm hR (by decide) (by decide)) zd_X7_against_11 (zCl_S1 zok_l) (zs_if_ne (tgt := 19) zd_X7_against_14 (by decide) (zs_aload_n zd_X7_against_19 rfl (zs_iconst zd_X7_against_20 (by decide) (zs_iload_n zd_X7_against_21 rfl (zs_iload_n zd_X7_against_22 rfl (zs_V (ci := 7) rfl rfl (zm_X7_againstFrom _ _ _) gw_3_53 gw_3_50 gw_3_52 gw_0_21 gw_1_1 zdn_X7_againstFrom (zrm hR (by decide) (by decide)) zd_X7_against_23 (zCl_V3 zlm_l) (zs_iret rfl zd_X7_against_26)))))) (zbs_X7_against_17 hR J hJ))))))))
theorem zdn_X7_against : yX7_against.cls ≠ "java/lang/invoke/MethodHandle" ∧ yX7_against.cls ≠ "java/lang/invoke/VarHandle" ∧ (parseMethodDescriptor yX7_against.desc).map (fun d => d.parameters.length) = some 2 := by decide +kernel
theorem zXF.run {M M' : zMm} {F : wFS} {pk dk p r : Nat} (h : zXF M F pk dk p) (hn : zrn M M' r) (hx : zXI M' F.1 pk dk p) : zXF M' F pk dk p := by
  obtain ⟨h1, h2, h3, h4, h5, h6⟩ := h
  exact ⟨hx, h2.to (fun k a b => hn.row (by omega)), h3, h4.to (fun k a b => hn.row (by omega)), by rw [hn.row (by omega)]; exact h5, by rw [hn.row (by omega)]; exact h6⟩
theorem zXI.wat {M M' : zMm} {σ : wSP} {pk dk p : Nat} {ks : List Nat} (h : zXI M σ pk dk p) (hs : zsm ks M M') (hk : ∀ k ∈ ks, 10 ≤ k ∧ k < 20) (hw : ∃ S : wST, zwt M' S.1 S.2 ∧ wwf S) : zXI M' σ pk dk p := by
  obtain ⟨h1, h2, h3, h4, h5, h6, h7, h8, h9, -, h11, h12⟩ := h
  have e : ∀ {k : Nat}, (k < 10 ∨ 20 ≤ k) → M'.2.1 k = M.2.1 k := fun hk' => hs.2.2 _ (fun z => by have := hk _ z; omega)
  refine ⟨h1.to hs.R, h2, by rw [e (by omega)]; exact h3, by rw [e (by omega)]; exact h4, by rw [e (by omega)]; exact h5, by rw [e (by omega)]; exact h6, by rw [e (by omega)]; exact h7, by rw [e (by omega)]; exact h8, h9.to hs (fun k hk' => by have := hk k hk'; omega), hw, fun r hr => ?_, ?_⟩
  · unfold zys
    rw [hs.R, hs.1, hs.J, e (k := zyi r) (by unfold zyi; omega)]
    exact h11 r hr
  · unfold zLL zlv
    rw [hs.R, hs.1]
    exact h12
theorem zXF.wat {M M' : zMm} {F : wFS} {pk dk p : Nat} {ks : List Nat} (h : zXF M F pk dk p) (hs : zsm ks M M') (hk : ∀ k ∈ ks, 10 ≤ k ∧ k < 20) (hw : ∃ S : wST, zwt M' S.1 S.2 ∧ wwf S) : zXF M' F pk dk p := by
  obtain ⟨h1, h2, h3, h4, h5, h6⟩ := h
  have e : ∀ {k : Nat}, (k < 10 ∨ 20 ≤ k) → M'.2.1 k = M.2.1 k := fun hk' => hs.2.2 _ (fun z => by have := hk _ z; omega)
  exact ⟨h1.wat hs hk hw, h2.to (fun k a b => e (by omega)), h3, h4.to (fun k a b => e (by omega)), by rw [e (by omega)]; exact h5, by rw [e (by omega)]; exact h6⟩
/-! map -/
def pday (d : Int32) : Prop := 0 ≤ d ∧ d ≤ 1000
def pMap (yr x y g d : Int32) (F : wFS) : Int32 × wFS :=
  if (0 ≤ yr ∧ yr ≤ 30) ∧ (0 ≤ g ∧ g ≤ 200) ∧ 0 ≤ d ∧ d ≤ 1000 then
    (if pclD F.1 x y = true then (if F.2.1.length < 200 then (nI (F.2.1.length + 1), (F.1, F.2.1 ++ [(tn yr, tn y * 12 + tn x, tn g, tn d)], F.2.2.1, F.2.2.2.1, 0)) else fRef F (-5)) else fRef F (-2)) else fRef F (-1)
def zc_X0_add (a : List Value) (M : zMm) (K : zKt) : Prop := match a with
  | [.ref k, .int x1, .int y1, .int u1, .int v1] => k = 5 ∧ (M.2.2.2 5 0 = some 6 ∧ M.2.2.2 5 1 = some 7 ∧ M.2.2.2 5 2 = some 8 ∧ M.2.2.2 5 3 = some 9) ∧ ∃ es e, zEn M es ∧ es.length < 200 ∧ weok e ∧ x1 = nI (wey e) ∧ y1 = nI (wec e) ∧ u1 = nI (weh e) ∧ v1 = nI (wed e) ∧ ∀ M', zsm [5, 6, 7, 8, 9] M M' → zEn M' (es ++ [e]) → K none M'
  | _ => False
theorem zm_X0_add (l : Launch) (D : va_G) (Y : Nat → ClassId) : zMt l D Y yX0_add cX0_add 5 none 0 0 0 0 zc_X0_add := by
  refine zflat (by decide) (fun K J lc lz => zb_X0_add_0 K J) (fun X hR => zbs_X0_add_0 hR zJ0 zJ0_ok) (fun avs M K h => ?_)
  unfold zc_X0_add at h
  split at h
  · obtain ⟨rfl, ⟨a0, a1, a2, a3⟩, es, e, hEn, hlt, hok, rfl, rfl, rfl, rfl, h⟩ := h
    obtain ⟨e1, e2, e3⟩ := hEn
    refine ⟨by simp [zent], ?_⟩
    simp only [zb_X0_add_0, zsh_5, zsh_6, zsh_7, zsh_8, zsh_9, a0, a1, a2, a3, e1, zwI_R, zwI_I, zw2_n (show (5 : Nat) ≠ 6 by decide), zw2_n (show (5 : Nat) ≠ 7 by decide), zw2_n (show (5 : Nat) ≠ 8 by decide), zw2_n (show (5 : Nat) ≠ 9 by decide), zT_push, zT_bin, zT_div, zT_bil, zT_shl, zT_un, zT_i2l, zT_l2i, zT_lcmp, zT_ild, zT_lld, zT_ald, zT_ist, zT_lst, zT_ast, zT_iinc, zT_dup, zT_dup2, zT_pop, zT_if1, zT_if2, zT_ifn, zT_getI, zT_getJ, zT_getR, zT_putI, zT_putZ, zT_putJ, zT_putR, zT_ald0, zT_lald, zT_aald, zT_iast, zT_zast, zT_bast, zT_last, zT_aast, zT_iret, zT_nret, zT_aret, zT_vret, zT_oi, zT_mm, zT_ialX, zT_S1, zT_S2, zT_S3, zT_V0, zT_V1, zT_V2, zT_V3, zT_V4, zT_V5, zT_V6, zT_I0, zT_I1, zT_I2, zlg, zlset, zlpr, zent, zok, va_rf, List.length_cons, List.length_nil, List.replicate, List.cons_append, List.nil_append, List.append_nil, Option.toList_some, Option.toList_none, Option.toList, Nat.reduceAdd, Nat.reduceSub, Nat.reduceLeDiff, Nat.zero_add, Nat.zero_le, true_and, and_true, Nat.le_refl, ge_iff_le, Nat.reduceEqDiff]
    have hin : vp_in (nI es.length) 200 := vp_in_nI hlt (by decide)
    refine ⟨fun h1 => absurd (zn_ge' (b := 200) h1 (by omega) (by decide)) (by omega), fun _ => ⟨hin, hin, hin, hin, ?_⟩⟩
    simp only [zb_X0_add_61, zT_push, zT_bin, zT_div, zT_bil, zT_shl, zT_un, zT_i2l, zT_l2i, zT_lcmp, zT_ild, zT_lld, zT_ald, zT_ist, zT_lst, zT_ast, zT_iinc, zT_dup, zT_dup2, zT_pop, zT_if1, zT_if2, zT_ifn, zT_getI, zT_getJ, zT_getR, zT_putI, zT_putZ, zT_putJ, zT_putR, zT_ald0, zT_lald, zT_aald, zT_iast, zT_zast, zT_bast, zT_last, zT_aast, zT_iret, zT_nret, zT_aret, zT_vret, zT_oi, zT_mm, zT_ialX, zT_S1, zT_S2, zT_S3, zT_V0, zT_V1, zT_V2, zT_V3, zT_V4, zT_V5, zT_V6, zT_I0, zT_I1, zT_I2, zlg, zlset, zlpr, zent, zok, va_rf, List.length_cons, List.length_nil, List.replicate, List.cons_append, List.nil_append, List.append_nil, Option.toList_some, Option.toList_none, Option.toList, Nat.reduceAdd, Nat.reduceSub, Nat.reduceLeDiff, Nat.zero_add, Nat.zero_le, true_and, and_true, Nat.le_refl, ge_iff_le, Nat.reduceEqDiff]
    rw [nI_clamp (by omega)]
    refine h _ (((((zsm.rf.w (by simp)).w (by simp)).w (by simp)).w (by simp)).w (by simp)) ⟨?_, ?_, fun i e' hi => ?_⟩
    · simp only [zwI_L, zwI_I, zwI_J, zwI_R, zwJ_L, zwJ_I, zwJ_J, zwJ_R, zwR_L, zwR_I, zwR_J, zwR_R, zw2_s, zw2_n, ne_eq, not_false_eq_true, reduceCtorEq, not_true_eq_false, Nat.reduceEqDiff, List.length_append, List.length_singleton]
      rw [zup_s, nI_1]
    · rw [List.length_append, List.length_singleton]; omega
    · simp only [zwI_L, zwI_I, zwI_J, zwI_R, zwJ_L, zwJ_I, zwJ_J, zwJ_R, zwR_L, zwR_I, zwR_J, zwR_R, zw2_s, zw2_n, ne_eq, not_false_eq_true, reduceCtorEq, not_true_eq_false, Nat.reduceEqDiff]
      by_cases q : i < es.length
      · rw [List.getElem?_append_left q] at hi
        obtain ⟨f1, f2, f3, f4, f5⟩ := e3 i e' hi
        have ne : i ≠ es.length := by omega
        refine ⟨f1, ?_, ?_, ?_, ?_⟩
        · simp only [zw2_s, zw2_n (show (6 : Nat) ≠ 5 by decide), zw2_n (show (6 : Nat) ≠ 7 by decide), zw2_n (show (6 : Nat) ≠ 8 by decide), zw2_n (show (6 : Nat) ≠ 9 by decide), zup_n ne]; exact f2
        · simp only [zw2_s, zw2_n (show (7 : Nat) ≠ 5 by decide), zw2_n (show (7 : Nat) ≠ 6 by decide), zw2_n (show (7 : Nat) ≠ 8 by decide), zw2_n (show (7 : Nat) ≠ 9 by decide), zup_n ne]; exact f3
        · simp only [zw2_s, zw2_n (show (8 : Nat) ≠ 5 by decide), zw2_n (show (8 : Nat) ≠ 6 by decide), zw2_n (show (8 : Nat) ≠ 7 by decide), zw2_n (show (8 : Nat) ≠ 9 by decide), zup_n ne]; exact f4
        · simp only [zw2_s, zw2_n (show (9 : Nat) ≠ 5 by decide), zw2_n (show (9 : Nat) ≠ 6 by decide), zw2_n (show (9 : Nat) ≠ 7 by decide), zw2_n (show (9 : Nat) ≠ 8 by decide), zup_n ne]; exact f5
      · rw [List.getElem?_append_right (by omega)] at hi
        have q2 : i = es.length := by
          rcases Nat.lt_or_ge (i - es.length) 1 with z | z
          · omega
          · rw [List.getElem?_eq_none (by simpa using z)] at hi; cases hi
        subst q2
        simp at hi
        subst hi
        refine ⟨hok, ?_, ?_, ?_, ?_⟩
        · simp only [zw2_s, zw2_n (show (6 : Nat) ≠ 5 by decide), zw2_n (show (6 : Nat) ≠ 7 by decide), zw2_n (show (6 : Nat) ≠ 8 by decide), zw2_n (show (6 : Nat) ≠ 9 by decide), zup_s]
        · simp only [zw2_s, zw2_n (show (7 : Nat) ≠ 5 by decide), zw2_n (show (7 : Nat) ≠ 6 by decide), zw2_n (show (7 : Nat) ≠ 8 by decide), zw2_n (show (7 : Nat) ≠ 9 by decide), zup_s]
        · simp only [zw2_s, zw2_n (show (8 : Nat) ≠ 5 by decide), zw2_n (show (8 : Nat) ≠ 6 by decide), zw2_n (show (8 : Nat) ≠ 7 by decide), zw2_n (show (8 : Nat) ≠ 9 by decide), zup_s]
        · simp only [zw2_s, zw2_n (show (9 : Nat) ≠ 5 by decide), zw2_n (show (9 : Nat) ≠ 6 by decide), zw2_n (show (9 : Nat) ≠ 7 by decide), zw2_n (show (9 : Nat) ≠ 8 by decide), zup_s]
  · exact h.elim
/-! asking -/
def pHeight (r yr x y : Int32) (F : wFS) : Int32 × wFS :=
  if (0 ≤ r ∧ r ≤ 35) ∧ (0 ≤ yr ∧ yr ≤ 30) ∧ pclD F.1 x y = true then (nI (wHT F.1 (tn r) (tn yr) (tn y * 12 + tn x)), F) else (-1, F)
def pFlow (r yr x y : Int32) (F : wFS) : Int32 × wFS :=
  if (0 ≤ r ∧ r ≤ 35) ∧ (1 ≤ yr ∧ yr ≤ 30) ∧ pclD F.1 x y = true then (nI (wGT F.1 (tn r) (tn yr - 1) (tn y * 12 + tn x)), F) else (-1, F)
def pAgainst (r d : Int32) (F : wFS) : Int32 × wFS :=
  if (0 ≤ r ∧ r ≤ 35) ∧ 0 ≤ d ∧ d ≤ 1000 then (woi (wAG F.1 F.2.1 (tn r) (tn d) 0), F) else (-1, F)
def zc_X7_height (a : List Value) (M : zMm) (K : zKt) : Prop := match a with
  | [.ref k, .int r, .int yr, .int x, .int y] => k = 0 ∧ ∃ F pk dk p, zXF M F pk dk p ∧ ∀ M', zXF M' (pHeight r yr x y F).2 pk dk p → K (some (.int (pHeight r yr x y F).1)) M'
  | _ => False
set_option maxHeartbeats 1000000 in
theorem zm_X7_height (l : Launch) (D : va_G) (Y : Nat → ClassId) : zMt l D Y yX7_height cX7_height 5 (some .int) 5 119 2 467 zc_X7_height := by
  refine zflat (by decide) (fun K J lc lz => zb_X7_height_0 K J lc lz) (fun X hR => zbs_X7_height_0 hR zJ0 zJ0_ok) (fun avs M K h => ?_)
  unfold zc_X7_height at h
  split at h
  · next k r yr x y =>
    obtain ⟨rfl, F, pk, dk, p, hF, h⟩ := h
    have hxi := hF.1
    obtain ⟨a0, -⟩ := id hxi.1
    obtain ⟨-, ok, w1, w2, -⟩ := id hxi
    refine ⟨by simp [zent], ?_⟩
    have bad : ¬ ((0 ≤ r ∧ r ≤ 35) ∧ (0 ≤ yr ∧ yr ≤ 30) ∧ pclD F.1 x y = true) → K (some (.int (-1))) M := by
      intro hb
      have h2 := h M
      unfold pHeight at h2
      rw [if_neg hb] at h2
      exact h2 hF
    simp only [zb_X7_height_0, zb_X7_height_33, zT_push, zT_bin, zT_div, zT_bil, zT_shl, zT_un, zT_i2l, zT_l2i, zT_lcmp, zT_ild, zT_lld, zT_ald, zT_ist, zT_lst, zT_ast, zT_iinc, zT_dup, zT_dup2, zT_pop, zT_if1, zT_if2, zT_ifn, zT_getI, zT_getJ, zT_getR, zT_putI, zT_putZ, zT_putJ, zT_putR, zT_ald0, zT_lald, zT_aald, zT_iast, zT_zast, zT_bast, zT_last, zT_aast, zT_iret, zT_nret, zT_aret, zT_vret, zT_oi, zT_mm, zT_ialX, zT_S1, zT_S2, zT_S3, zT_V0, zT_V1, zT_V2, zT_V3, zT_V4, zT_V5, zT_V6, zT_I0, zT_I1, zT_I2, zlg, zlset, zlpr, zent, zok, va_rf, List.length_cons, List.length_nil, List.replicate, List.cons_append, List.nil_append, List.append_nil, Option.toList_some, Option.toList_none, Option.toList, Nat.reduceAdd, Nat.reduceSub, Nat.reduceLeDiff, Nat.zero_add, Nat.zero_le, true_and, and_true, Nat.le_refl, ge_iff_le, Nat.reduceEqDiff]
    unfold zc_X7_within
    dsimp only
    simp only [zbI_0, zsh_0, zsh_1, a0, zT_push, zT_bin, zT_div, zT_bil, zT_shl, zT_un, zT_i2l, zT_l2i, zT_lcmp, zT_ild, zT_lld, zT_ald, zT_ist, zT_lst, zT_ast, zT_iinc, zT_dup, zT_dup2, zT_pop, zT_if1, zT_if2, zT_ifn, zT_getI, zT_getJ, zT_getR, zT_putI, zT_putZ, zT_putJ, zT_putR, zT_ald0, zT_lald, zT_aald, zT_iast, zT_zast, zT_bast, zT_last, zT_aast, zT_iret, zT_nret, zT_aret, zT_vret, zT_oi, zT_mm, zT_ialX, zT_S1, zT_S2, zT_S3, zT_V0, zT_V1, zT_V2, zT_V3, zT_V4, zT_V5, zT_V6, zT_I0, zT_I1, zT_I2, zlg, zlset, zlpr, zent, zok, va_rf, List.length_cons, List.length_nil, List.replicate, List.cons_append, List.nil_append, List.append_nil, Option.toList_some, Option.toList_none, Option.toList, Nat.reduceAdd, Nat.reduceSub, Nat.reduceLeDiff, Nat.zero_add, Nat.zero_le, true_and, and_true, Nat.le_refl, ge_iff_le, Nat.reduceEqDiff]
    refine ⟨fun h1 => bad (fun z => h1 z.1), fun h1 => ⟨fun h2 => bad (fun z => h2 z.2.1), fun h2 => ?_⟩⟩
    have c1 := Classical.not_not.mp h1
    have c2 := Classical.not_not.mp h2
    unfold zc_X1_has
    dsimp only
    refine ⟨rfl, ?_⟩
    simp only [zbI_0, w1, w2, zT_push, zT_bin, zT_div, zT_bil, zT_shl, zT_un, zT_i2l, zT_l2i, zT_lcmp, zT_ild, zT_lld, zT_ald, zT_ist, zT_lst, zT_ast, zT_iinc, zT_dup, zT_dup2, zT_pop, zT_if1, zT_if2, zT_ifn, zT_getI, zT_getJ, zT_getR, zT_putI, zT_putZ, zT_putJ, zT_putR, zT_ald0, zT_lald, zT_aald, zT_iast, zT_zast, zT_bast, zT_last, zT_aast, zT_iret, zT_nret, zT_aret, zT_vret, zT_oi, zT_mm, zT_ialX, zT_S1, zT_S2, zT_S3, zT_V0, zT_V1, zT_V2, zT_V3, zT_V4, zT_V5, zT_V6, zT_I0, zT_I1, zT_I2, zlg, zlset, zlpr, zent, zok, va_rf, List.length_cons, List.length_nil, List.replicate, List.cons_append, List.nil_append, List.append_nil, Option.toList_some, Option.toList_none, Option.toList, Nat.reduceAdd, Nat.reduceSub, Nat.reduceLeDiff, Nat.zero_add, Nat.zero_le, true_and, and_true, Nat.le_refl, ge_iff_le, Nat.reduceEqDiff]
    refine ⟨fun h3 => bad (fun z => h3 (pclD_t.mp z.2.2)), fun h3 => ?_⟩
    have c3 : pcl F.1 x y := Classical.not_not.mp h3
    obtain ⟨x1, x2, y1, y2, x3, y3⟩ := pcl_n ok c3
    obtain ⟨r1, r2⟩ := tn_nI (x := r) (b := 35) c1.1 c1.2 (by decide)
    obtain ⟨n1, n2⟩ := tn_nI (x := yr) (b := 30) c2.1 c2.2 (by decide)
    obtain ⟨z0, z1⟩ := zyk_sh (yk := zyi (tn r)) ⟨tn r, by omega, rfl⟩
    refine ⟨⟨by omega, by omega⟩, ?_⟩
    unfold zc_X7_runTo
    dsimp only
    refine ⟨rfl, tn r, tn yr, F.1, pk, dk, p, r1, by omega, n1, n2, hxi, fun M2 m hrn2 hxi2 hm1 hm2 q1 q2 hlat hzy => ?_⟩
    simp only [z0, zT_push, zT_bin, zT_div, zT_bil, zT_shl, zT_un, zT_i2l, zT_l2i, zT_lcmp, zT_ild, zT_lld, zT_ald, zT_ist, zT_lst, zT_ast, zT_iinc, zT_dup, zT_dup2, zT_pop, zT_if1, zT_if2, zT_ifn, zT_getI, zT_getJ, zT_getR, zT_putI, zT_putZ, zT_putJ, zT_putR, zT_ald0, zT_lald, zT_aald, zT_iast, zT_zast, zT_bast, zT_last, zT_aast, zT_iret, zT_nret, zT_aret, zT_vret, zT_oi, zT_mm, zT_ialX, zT_S1, zT_S2, zT_S3, zT_V0, zT_V1, zT_V2, zT_V3, zT_V4, zT_V5, zT_V6, zT_I0, zT_I1, zT_I2, zlg, zlset, zlpr, zent, zok, va_rf, List.length_cons, List.length_nil, List.replicate, List.cons_append, List.nil_append, List.append_nil, Option.toList_some, Option.toList_none, Option.toList, Nat.reduceAdd, Nat.reduceSub, Nat.reduceLeDiff, Nat.zero_add, Nat.zero_le, true_and, and_true, Nat.le_refl, ge_iff_le, Nat.reduceEqDiff]
    unfold zc_X7_cellAt
    dsimp only
    have ec : y * 12 + x = nI (tn y * 12 + tn x) := by
      conv => lhs; rw [x1, y1]
      exact wcell
    simp only [z0, ec, zT_push, zT_bin, zT_div, zT_bil, zT_shl, zT_un, zT_i2l, zT_l2i, zT_lcmp, zT_ild, zT_lld, zT_ald, zT_ist, zT_lst, zT_ast, zT_iinc, zT_dup, zT_dup2, zT_pop, zT_if1, zT_if2, zT_ifn, zT_getI, zT_getJ, zT_getR, zT_putI, zT_putZ, zT_putJ, zT_putR, zT_ald0, zT_lald, zT_aald, zT_iast, zT_zast, zT_bast, zT_last, zT_aast, zT_iret, zT_nret, zT_aret, zT_vret, zT_oi, zT_mm, zT_ialX, zT_S1, zT_S2, zT_S3, zT_V0, zT_V1, zT_V2, zT_V3, zT_V4, zT_V5, zT_V6, zT_I0, zT_I1, zT_I2, zlg, zlset, zlpr, zent, zok, va_rf, List.length_cons, List.length_nil, List.replicate, List.cons_append, List.nil_append, List.append_nil, Option.toList_some, Option.toList_none, Option.toList, Nat.reduceAdd, Nat.reduceSub, Nat.reduceLeDiff, Nat.zero_add, Nat.zero_le, true_and, and_true, Nat.le_refl, ge_iff_le, Nat.reduceEqDiff]
    unfold zc_X6_heightOf
    dsimp only
    refine ⟨⟨⟨tn r, by omega, rfl⟩, q2⟩, tn yr, tn y * 12 + tn x, (wHD F.1 (tn r) (tn yr)).1, n1, n2, rfl, by omega, fun e _ => wHD_le ok (tn r) _ e, fun j hj => hzy _ hm1 j hj, ?_⟩
    have h4 := h M2
    unfold pHeight at h4
    rw [if_pos ⟨c1, c2, pclD_t.mpr c3⟩] at h4
    exact h4 (hF.run hrn2 hxi2)
  · exact h.elim
def zc_X7_against (a : List Value) (M : zMm) (K : zKt) : Prop := match a with
  | [.ref k, .int r, .int d] => k = 0 ∧ ∃ F pk dk p, zXF M F pk dk p ∧ ∀ M', zXF M' (pAgainst r d F).2 pk dk p → K (some (.int (pAgainst r d F).1)) M'
  | _ => False
set_option maxHeartbeats 1000000 in
theorem zm_X7_against (l : Launch) (D : va_G) (Y : Nat → ClassId) : zMt l D Y yX7_against cX7_against 3 (some .int) 6 144 4 934 zc_X7_against := by
  refine zflat (by decide) (fun K J lc lz => zb_X7_against_0 K J lc lz) (fun X hR => zbs_X7_against_0 hR zJ0 zJ0_ok) (fun avs M K h => ?_)
  unfold zc_X7_against at h
  split at h
  · next k r d =>
    obtain ⟨rfl, F, pk, dk, p, hF, h⟩ := h
    have hxi := hF.1
    refine ⟨by simp [zent], ?_⟩
    have bad : ¬ ((0 ≤ r ∧ r ≤ 35) ∧ 0 ≤ d ∧ d ≤ 1000) → K (some (.int (-1))) M := by
      intro hb
      have h2 := h M
      unfold pAgainst at h2
      rw [if_neg hb] at h2
      exact h2 hF
    simp only [zb_X7_against_0, zb_X7_against_17, zT_push, zT_bin, zT_div, zT_bil, zT_shl, zT_un, zT_i2l, zT_l2i, zT_lcmp, zT_ild, zT_lld, zT_ald, zT_ist, zT_lst, zT_ast, zT_iinc, zT_dup, zT_dup2, zT_pop, zT_if1, zT_if2, zT_ifn, zT_getI, zT_getJ, zT_getR, zT_putI, zT_putZ, zT_putJ, zT_putR, zT_ald0, zT_lald, zT_aald, zT_iast, zT_zast, zT_bast, zT_last, zT_aast, zT_iret, zT_nret, zT_aret, zT_vret, zT_oi, zT_mm, zT_ialX, zT_S1, zT_S2, zT_S3, zT_V0, zT_V1, zT_V2, zT_V3, zT_V4, zT_V5, zT_V6, zT_I0, zT_I1, zT_I2, zlg, zlset, zlpr, zent, zok, va_rf, List.length_cons, List.length_nil, List.replicate, List.cons_append, List.nil_append, List.append_nil, Option.toList_some, Option.toList_none, Option.toList, Nat.reduceAdd, Nat.reduceSub, Nat.reduceLeDiff, Nat.zero_add, Nat.zero_le, true_and, and_true, Nat.le_refl, ge_iff_le, Nat.reduceEqDiff]
    unfold zc_X7_within zc_X7_isDay
    dsimp only
    simp only [zbI_0, zsh_0, zT_push, zT_bin, zT_div, zT_bil, zT_shl, zT_un, zT_i2l, zT_l2i, zT_lcmp, zT_ild, zT_lld, zT_ald, zT_ist, zT_lst, zT_ast, zT_iinc, zT_dup, zT_dup2, zT_pop, zT_if1, zT_if2, zT_ifn, zT_getI, zT_getJ, zT_getR, zT_putI, zT_putZ, zT_putJ, zT_putR, zT_ald0, zT_lald, zT_aald, zT_iast, zT_zast, zT_bast, zT_last, zT_aast, zT_iret, zT_nret, zT_aret, zT_vret, zT_oi, zT_mm, zT_ialX, zT_S1, zT_S2, zT_S3, zT_V0, zT_V1, zT_V2, zT_V3, zT_V4, zT_V5, zT_V6, zT_I0, zT_I1, zT_I2, zlg, zlset, zlpr, zent, zok, va_rf, List.length_cons, List.length_nil, List.replicate, List.cons_append, List.nil_append, List.append_nil, Option.toList_some, Option.toList_none, Option.toList, Nat.reduceAdd, Nat.reduceSub, Nat.reduceLeDiff, Nat.zero_add, Nat.zero_le, true_and, and_true, Nat.le_refl, ge_iff_le, Nat.reduceEqDiff]
    refine ⟨fun h1 => bad (fun z => h1 z.1), fun h1 => ⟨fun h2 => bad (fun z => h2 z.2), fun h2 => ?_⟩⟩
    have c1 := Classical.not_not.mp h1
    have c2 := Classical.not_not.mp h2
    obtain ⟨r1, r2⟩ := tn_nI (x := r) (b := 35) c1.1 c1.2 (by decide)
    obtain ⟨n1, n2⟩ := tn_nI (x := d) (b := 1000) c2.1 c2.2 (by decide)
    refine ⟨⟨by omega, by omega⟩, ?_⟩
    unfold zc_X7_againstFrom
    dsimp only
    refine ⟨rfl, 0, tn r, tn d, F.1, pk, dk, p, F.2.1, rfl, Nat.zero_le _, r1, by omega, n1, n2, hxi, hF.2.1, fun M2 hrn2 hxi2 => ?_⟩
    have h4 := h M2
    unfold pAgainst at h4
    rw [if_pos ⟨c1, c2⟩] at h4
    exact h4 (hF.run hrn2 hxi2)
  · exact h.elim
def zc_X7_flow (a : List Value) (M : zMm) (K : zKt) : Prop := match a with
  | [.ref k, .int r, .int yr, .int x, .int y] => k = 0 ∧ ∃ F pk dk p, zXF M F pk dk p ∧ ∀ M', zXF M' (pFlow r yr x y F).2 pk dk p → K (some (.int (pFlow r yr x y F).1)) M'
  | _ => False
set_option maxHeartbeats 2000000 in
theorem zm_X7_flow (l : Launch) (D : va_G) (Y : Nat → ClassId) : zMt l D Y yX7_flow cX7_flow 6 (some .int) 5 119 2 467 zc_X7_flow := by
  refine zflat (by decide) (fun K J lc lz => zb_X7_flow_0 K J lc lz) (fun X hR => zbs_X7_flow_0 hR zJ0 zJ0_ok) (fun avs M K h => ?_)
  unfold zc_X7_flow at h
  split at h
  · next k r yr x y =>
    obtain ⟨rfl, F, pk, dk, p, hF, h⟩ := h
    have hxi := hF.1
    obtain ⟨a0, -⟩ := id hxi.1
    obtain ⟨-, ok, w1, w2, -⟩ := id hxi
    obtain ⟨k1, k2, k3, k4, k5, k6, k7, k8, k9⟩ := id ok
    refine ⟨by simp [zent], ?_⟩
    have bad : ¬ ((0 ≤ r ∧ r ≤ 35) ∧ (1 ≤ yr ∧ yr ≤ 30) ∧ pclD F.1 x y = true) → K (some (.int (-1))) M := by
      intro hb
      have h2 := h M
      unfold pFlow at h2
      rw [if_neg hb] at h2
      exact h2 hF
    simp only [zb_X7_flow_0, zb_X7_flow_33, zT_push, zT_bin, zT_div, zT_bil, zT_shl, zT_un, zT_i2l, zT_l2i, zT_lcmp, zT_ild, zT_lld, zT_ald, zT_ist, zT_lst, zT_ast, zT_iinc, zT_dup, zT_dup2, zT_pop, zT_if1, zT_if2, zT_ifn, zT_getI, zT_getJ, zT_getR, zT_putI, zT_putZ, zT_putJ, zT_putR, zT_ald0, zT_lald, zT_aald, zT_iast, zT_zast, zT_bast, zT_last, zT_aast, zT_iret, zT_nret, zT_aret, zT_vret, zT_oi, zT_mm, zT_ialX, zT_S1, zT_S2, zT_S3, zT_V0, zT_V1, zT_V2, zT_V3, zT_V4, zT_V5, zT_V6, zT_I0, zT_I1, zT_I2, zlg, zlset, zlpr, zent, zok, va_rf, List.length_cons, List.length_nil, List.replicate, List.cons_append, List.nil_append, List.append_nil, Option.toList_some, Option.toList_none, Option.toList, Nat.reduceAdd, Nat.reduceSub, Nat.reduceLeDiff, Nat.zero_add, Nat.zero_le, true_and, and_true, Nat.le_refl, ge_iff_le, Nat.reduceEqDiff]
    unfold zc_X7_within
    dsimp only
    simp only [zbI_0, zsh_0, zsh_1, a0, zT_push, zT_bin, zT_div, zT_bil, zT_shl, zT_un, zT_i2l, zT_l2i, zT_lcmp, zT_ild, zT_lld, zT_ald, zT_ist, zT_lst, zT_ast, zT_iinc, zT_dup, zT_dup2, zT_pop, zT_if1, zT_if2, zT_ifn, zT_getI, zT_getJ, zT_getR, zT_putI, zT_putZ, zT_putJ, zT_putR, zT_ald0, zT_lald, zT_aald, zT_iast, zT_zast, zT_bast, zT_last, zT_aast, zT_iret, zT_nret, zT_aret, zT_vret, zT_oi, zT_mm, zT_ialX, zT_S1, zT_S2, zT_S3, zT_V0, zT_V1, zT_V2, zT_V3, zT_V4, zT_V5, zT_V6, zT_I0, zT_I1, zT_I2, zlg, zlset, zlpr, zent, zok, va_rf, List.length_cons, List.length_nil, List.replicate, List.cons_append, List.nil_append, List.append_nil, Option.toList_some, Option.toList_none, Option.toList, Nat.reduceAdd, Nat.reduceSub, Nat.reduceLeDiff, Nat.zero_add, Nat.zero_le, true_and, and_true, Nat.le_refl, ge_iff_le, Nat.reduceEqDiff]
    refine ⟨fun h1 => bad (fun z => h1 z.1), fun h1 => ⟨fun h2 => bad (fun z => h2 z.2.1), fun h2 => ?_⟩⟩
    have c1 := Classical.not_not.mp h1
    have c2 := Classical.not_not.mp h2
    unfold zc_X1_has
    dsimp only
    refine ⟨rfl, ?_⟩
    simp only [zbI_0, w1, w2, zT_push, zT_bin, zT_div, zT_bil, zT_shl, zT_un, zT_i2l, zT_l2i, zT_lcmp, zT_ild, zT_lld, zT_ald, zT_ist, zT_lst, zT_ast, zT_iinc, zT_dup, zT_dup2, zT_pop, zT_if1, zT_if2, zT_ifn, zT_getI, zT_getJ, zT_getR, zT_putI, zT_putZ, zT_putJ, zT_putR, zT_ald0, zT_lald, zT_aald, zT_iast, zT_zast, zT_bast, zT_last, zT_aast, zT_iret, zT_nret, zT_aret, zT_vret, zT_oi, zT_mm, zT_ialX, zT_S1, zT_S2, zT_S3, zT_V0, zT_V1, zT_V2, zT_V3, zT_V4, zT_V5, zT_V6, zT_I0, zT_I1, zT_I2, zlg, zlset, zlpr, zent, zok, va_rf, List.length_cons, List.length_nil, List.replicate, List.cons_append, List.nil_append, List.append_nil, Option.toList_some, Option.toList_none, Option.toList, Nat.reduceAdd, Nat.reduceSub, Nat.reduceLeDiff, Nat.zero_add, Nat.zero_le, true_and, and_true, Nat.le_refl, ge_iff_le, Nat.reduceEqDiff]
    refine ⟨fun h3 => bad (fun z => h3 (pclD_t.mp z.2.2)), fun h3 => ?_⟩
    have c3 : pcl F.1 x y := Classical.not_not.mp h3
    obtain ⟨x1, x2, y1, y2, x3, y3⟩ := pcl_n ok c3
    obtain ⟨r1, r2⟩ := tn_nI (x := r) (b := 35) c1.1 c1.2 (by decide)
    obtain ⟨n1, n2⟩ := tn_nI (x := yr) (b := 30) (Int32.le_trans (by decide) c2.1) c2.2 (by decide)
    have n3 : 1 ≤ tn yr := by have z := c2.1; rw [n1] at z; exact (nI_leI (a := 1) (by decide) (by omega)).mp z
    obtain ⟨m0, hm0⟩ : ∃ m0, tn yr = m0 + 1 := ⟨tn yr - 1, by omega⟩
    have e1 : yr - 1 = nI m0 := by
      conv => lhs; rw [n1, hm0]
      rw [← nI_1]
      exact Int32.add_sub_cancel (nI m0) 1
    obtain ⟨z0, z1⟩ := zyk_sh (yk := zyi (tn r)) ⟨tn r, by omega, rfl⟩
    rw [e1]
    refine ⟨⟨by omega, by omega⟩, ?_⟩
    unfold zc_X7_runTo
    dsimp only
    refine ⟨rfl, tn r, m0, F.1, pk, dk, p, r1, by omega, rfl, by omega, hxi, fun M2 m hrn2 hxi2 hm1 hm2 q1 q2 hlat hzy => ?_⟩
    obtain ⟨hxr2, hok2, v1, v2, v3, v4, v5, hg2, hpl2, ⟨S, hS1, hS2⟩, hYS2, hLL2⟩ := id hxi2
    obtain ⟨b0, b1, b2, b3, b4, b5, b6, b7, b8, b9, b10, b11, b12, hxw2, -⟩ := id hxr2
    obtain ⟨p0, -⟩ := zpl_sh hpl2.1
    simp only [z0, zsh_0, zT_push, zT_bin, zT_div, zT_bil, zT_shl, zT_un, zT_i2l, zT_l2i, zT_lcmp, zT_ild, zT_lld, zT_ald, zT_ist, zT_lst, zT_ast, zT_iinc, zT_dup, zT_dup2, zT_pop, zT_if1, zT_if2, zT_ifn, zT_getI, zT_getJ, zT_getR, zT_putI, zT_putZ, zT_putJ, zT_putR, zT_ald0, zT_lald, zT_aald, zT_iast, zT_zast, zT_bast, zT_last, zT_aast, zT_iret, zT_nret, zT_aret, zT_vret, zT_oi, zT_mm, zT_ialX, zT_S1, zT_S2, zT_S3, zT_V0, zT_V1, zT_V2, zT_V3, zT_V4, zT_V5, zT_V6, zT_I0, zT_I1, zT_I2, zlg, zlset, zlpr, zent, zok, va_rf, List.length_cons, List.length_nil, List.replicate, List.cons_append, List.nil_append, List.append_nil, Option.toList_some, Option.toList_none, Option.toList, Nat.reduceAdd, Nat.reduceSub, Nat.reduceLeDiff, Nat.zero_add, Nat.zero_le, true_and, and_true, Nat.le_refl, ge_iff_le, Nat.reduceEqDiff]
    unfold zc_X7_takeUp
    dsimp only
    refine ⟨rfl, pk, dk, m0, (wHD F.1 (tn r) m0).1, sW F.1, sH F.1, sA F.1, hxr2, ⟨⟨tn r, by omega, rfl⟩, q2⟩, rfl, by omega, fun e _ => wHD_le ok _ _ e, fun i hi => hzy m0 hm1 i hi, ⟨v1, v2, k2, k4⟩, hpl2, fun M3 hs3 hh3 hd3 => ?_⟩
    have hxr3 := hxr2.to hs3.R
    obtain ⟨c0, d1, d2, d3, d4, d5, d6, d7, d8, d9, d10, d11, d12, hxw3, -⟩ := id hxr3
    simp only [zsh_0, c0, d3, d5, p0, zT_push, zT_bin, zT_div, zT_bil, zT_shl, zT_un, zT_i2l, zT_l2i, zT_lcmp, zT_ild, zT_lld, zT_ald, zT_ist, zT_lst, zT_ast, zT_iinc, zT_dup, zT_dup2, zT_pop, zT_if1, zT_if2, zT_ifn, zT_getI, zT_getJ, zT_getR, zT_putI, zT_putZ, zT_putJ, zT_putR, zT_ald0, zT_lald, zT_aald, zT_iast, zT_zast, zT_bast, zT_last, zT_aast, zT_iret, zT_nret, zT_aret, zT_vret, zT_oi, zT_mm, zT_ialX, zT_S1, zT_S2, zT_S3, zT_V0, zT_V1, zT_V2, zT_V3, zT_V4, zT_V5, zT_V6, zT_I0, zT_I1, zT_I2, zlg, zlset, zlpr, zent, zok, va_rf, List.length_cons, List.length_nil, List.replicate, List.cons_append, List.nil_append, List.append_nil, Option.toList_some, Option.toList_none, Option.toList, Nat.reduceAdd, Nat.reduceSub, Nat.reduceLeDiff, Nat.zero_add, Nat.zero_le, true_and, and_true, Nat.le_refl, ge_iff_le, Nat.reduceEqDiff]
    unfold zc_X2_workIn
    dsimp only
    have f1 : M3.2.1 1 = M2.2.1 1 := hs3.at (by simp)
    refine ⟨rfl, rfl, hxw3, tn yr, sW F.1, sH F.1, sA F.1, _, _, n1, n2, ⟨by rw [f1]; exact v1, by rw [f1]; exact v2, k2, k4⟩, hpl2.to hs3 (by simp), hd3, hh3, fun M4 hs4 hd4 hh4 => ?_⟩
    have hxr4 := hxr3.to hs4.R
    obtain ⟨g0, g1, g2, g3, g4, g5, g6, g7, g8, g9, g10, g11, g12, hxw4, -⟩ := id hxr4
    simp only [zsh_0, g0, g3, zT_push, zT_bin, zT_div, zT_bil, zT_shl, zT_un, zT_i2l, zT_l2i, zT_lcmp, zT_ild, zT_lld, zT_ald, zT_ist, zT_lst, zT_ast, zT_iinc, zT_dup, zT_dup2, zT_pop, zT_if1, zT_if2, zT_ifn, zT_getI, zT_getJ, zT_getR, zT_putI, zT_putZ, zT_putJ, zT_putR, zT_ald0, zT_lald, zT_aald, zT_iast, zT_zast, zT_bast, zT_last, zT_aast, zT_iret, zT_nret, zT_aret, zT_vret, zT_oi, zT_mm, zT_ialX, zT_S1, zT_S2, zT_S3, zT_V0, zT_V1, zT_V2, zT_V3, zT_V4, zT_V5, zT_V6, zT_I0, zT_I1, zT_I2, zlg, zlset, zlpr, zent, zok, va_rf, List.length_cons, List.length_nil, List.replicate, List.cons_append, List.nil_append, List.append_nil, Option.toList_some, Option.toList_none, Option.toList, Nat.reduceAdd, Nat.reduceSub, Nat.reduceLeDiff, Nat.zero_add, Nat.zero_le, true_and, and_true, Nat.le_refl, ge_iff_le, Nat.reduceEqDiff]
    unfold zc_X7_sortOf
    dsimp only
    have hsort : r / 12 = nI (tn r / 12) := by
      conv => lhs; rw [r1]
      rw [show (12 : Int32) = nI 12 from rfl, pk_div (by omega) (by omega) (by omega)]
    simp only [zsh_0, zsh_1, zsh_10, g0, g3, hsort, zT_push, zT_bin, zT_div, zT_bil, zT_shl, zT_un, zT_i2l, zT_l2i, zT_lcmp, zT_ild, zT_lld, zT_ald, zT_ist, zT_lst, zT_ast, zT_iinc, zT_dup, zT_dup2, zT_pop, zT_if1, zT_if2, zT_ifn, zT_getI, zT_getJ, zT_getR, zT_putI, zT_putZ, zT_putJ, zT_putR, zT_ald0, zT_lald, zT_aald, zT_iast, zT_zast, zT_bast, zT_last, zT_aast, zT_iret, zT_nret, zT_aret, zT_vret, zT_oi, zT_mm, zT_ialX, zT_S1, zT_S2, zT_S3, zT_V0, zT_V1, zT_V2, zT_V3, zT_V4, zT_V5, zT_V6, zT_I0, zT_I1, zT_I2, zlg, zlset, zlpr, zent, zok, va_rf, List.length_cons, List.length_nil, List.replicate, List.cons_append, List.nil_append, List.append_nil, Option.toList_some, Option.toList_none, Option.toList, Nat.reduceAdd, Nat.reduceSub, Nat.reduceLeDiff, Nat.zero_add, Nat.zero_le, true_and, and_true, Nat.le_refl, ge_iff_le, Nat.reduceEqDiff]
    unfold zc_X5_run
    dsimp only
    have f2 : M4.2.1 1 = M2.2.1 1 := by rw [hs4.at (by simp)]; exact f1
    have hS4 : zwt M4 S.1 S.2 := by
      unfold zwt
      rw [hs4.at (k := 13) (by simp), hs4.at (k := 15) (by simp), hs4.at (k := 10) (by simp), hs3.at (k := 13) (by simp), hs3.at (k := 15) (by simp), hs3.at (k := 10) (by simp)]
      exact hS1
    refine ⟨rfl, rfl, hxw4, sW F.1, sH F.1, _, _, tn r / 12, sS F.1, sF F.1, S, ⟨by rw [f2]; exact v1, by rw [f2]; exact v2, k2, k4, hh4, hd4⟩, rfl, by omega, by rw [f2]; exact v3, k6, k7, by rw [f2]; exact v4, k8, hS4, hS2, fun M5 S5 hs5 hwt5 hwf5 hin5 hbd5 hfl5 hpt5 => ?_⟩
    have hxr5 := hxr4.to hs5.R
    obtain ⟨i0, i1, i2, i3, -, -, -, -, -, -, -, -, -, hxw5, -⟩ := id hxr5
    obtain ⟨-, -, j2, -⟩ := id hxw5
    simp only [zsh_0, zsh_10, zsh_13, i3, j2, zT_push, zT_bin, zT_div, zT_bil, zT_shl, zT_un, zT_i2l, zT_l2i, zT_lcmp, zT_ild, zT_lld, zT_ald, zT_ist, zT_lst, zT_ast, zT_iinc, zT_dup, zT_dup2, zT_pop, zT_if1, zT_if2, zT_ifn, zT_getI, zT_getJ, zT_getR, zT_putI, zT_putZ, zT_putJ, zT_putR, zT_ald0, zT_lald, zT_aald, zT_iast, zT_zast, zT_bast, zT_last, zT_aast, zT_iret, zT_nret, zT_aret, zT_vret, zT_oi, zT_mm, zT_ialX, zT_S1, zT_S2, zT_S3, zT_V0, zT_V1, zT_V2, zT_V3, zT_V4, zT_V5, zT_V6, zT_I0, zT_I1, zT_I2, zlg, zlset, zlpr, zent, zok, va_rf, List.length_cons, List.length_nil, List.replicate, List.cons_append, List.nil_append, List.append_nil, Option.toList_some, Option.toList_none, Option.toList, Nat.reduceAdd, Nat.reduceSub, Nat.reduceLeDiff, Nat.zero_add, Nat.zero_le, true_and, and_true, Nat.le_refl, ge_iff_le, Nat.reduceEqDiff]
    unfold zc_X7_cellAt
    dsimp only
    have ec : y * 12 + x = nI (tn y * 12 + tn x) := by
      conv => lhs; rw [x1, y1]
      exact wcell
    simp only [zsh_13, ec, zT_push, zT_bin, zT_div, zT_bil, zT_shl, zT_un, zT_i2l, zT_l2i, zT_lcmp, zT_ild, zT_lld, zT_ald, zT_ist, zT_lst, zT_ast, zT_iinc, zT_dup, zT_dup2, zT_pop, zT_if1, zT_if2, zT_ifn, zT_getI, zT_getJ, zT_getR, zT_putI, zT_putZ, zT_putJ, zT_putR, zT_ald0, zT_lald, zT_aald, zT_iast, zT_zast, zT_bast, zT_last, zT_aast, zT_iret, zT_nret, zT_aret, zT_vret, zT_oi, zT_mm, zT_ialX, zT_S1, zT_S2, zT_S3, zT_V0, zT_V1, zT_V2, zT_V3, zT_V4, zT_V5, zT_V6, zT_I0, zT_I1, zT_I2, zlg, zlset, zlpr, zent, zok, va_rf, List.length_cons, List.length_nil, List.replicate, List.cons_append, List.nil_append, List.append_nil, Option.toList_some, Option.toList_none, Option.toList, Nat.reduceAdd, Nat.reduceSub, Nat.reduceLeDiff, Nat.zero_add, Nat.zero_le, true_and, and_true, Nat.le_refl, ge_iff_le, Nat.reduceEqDiff]
    rw [nI_clamp (by omega)]
    refine ⟨vp_in_nI (by omega) (by decide), ?_⟩
    have hGeq := wG_run k2 k4 (fun x hx => (hh4 x hx).2) hwf5 hin5 hfl5 (tn y * 12 + tn x) (by omega)
    rw [hwt5.1 _ (by omega), ← hGeq]
    have h4 := h M5
    unfold pFlow at h4
    rw [if_pos ⟨c1, c2, pclD_t.mpr c3⟩] at h4
    have hdk : wdks (sW F.1) (sH F.1) (sA F.1) m0 = (wHD F.1 (tn r) m0).2 := (wHD_2 F.1 (tn r) m0).symm
    rw [hdk, hm0]
    unfold wGT at h4
    rw [hm0] at h4
    have hs24 : zsm ([11, 12] ++ [10, 13, 14, 15, 16, 17, 18, 19]) M2 M5 := ((hs3.up (by simp)).tr (hs4.up (by simp))).tr (hs5.up (by simp))
    exact h4 ((hF.run hrn2 hxi2).wat hs24 (by simp) ⟨S5, hwt5, hwf5⟩)
  · exact h.elim
