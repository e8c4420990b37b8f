/-! DeltaRuns size -/
theorem zd_X7_size_0 : decode cX7_size 0 = .ok (.iload_n 1, 1) := by decide +kernel
theorem zd_X7_size_1 : decode cX7_size 1 = .ok (.iconst 2, 1) := by decide +kernel
theorem zd_X7_size_2 : decode cX7_size 2 = .ok (.bipush 12, 2) := by decide +kernel
theorem zd_X7_size_4 : decode cX7_size 4 = .ok (.invokestatic 60, 3) := by decide +kernel
theorem zd_X7_size_7 : decode cX7_size 7 = .ok (.ifCond .eq 13, 3) := by decide +kernel
theorem zd_X7_size_10 : decode cX7_size 10 = .ok (.iload_n 2, 1) := by decide +kernel
theorem zd_X7_size_11 : decode cX7_size 11 = .ok (.iconst 2, 1) := by decide +kernel
theorem zd_X7_size_12 : decode cX7_size 12 = .ok (.bipush 10, 2) := by decide +kernel
theorem zd_X7_size_14 : decode cX7_size 14 = .ok (.invokestatic 60, 3) := by decide +kernel
theorem zd_X7_size_17 : decode cX7_size 17 = .ok (.ifCond .ne 9, 3) := by decide +kernel
theorem zd_X7_size_20 : decode cX7_size 20 = .ok (.aload_n 0, 1) := by decide +kernel
theorem zd_X7_size_21 : decode cX7_size 21 = .ok (.iconst (-1), 1) := by decide +kernel
theorem zd_X7_size_22 : decode cX7_size 22 = .ok (.invokevirtual 64, 3) := by decide +kernel
theorem zd_X7_size_25 : decode cX7_size 25 = .ok (.ireturn, 1) := by decide +kernel
theorem zd_X7_size_26 : decode cX7_size 26 = .ok (.aload_n 0, 1) := by decide +kernel
theorem zd_X7_size_27 : decode cX7_size 27 = .ok (.getfield 10, 3) := by decide +kernel
theorem zd_X7_size_30 : decode cX7_size 30 = .ok (.iload_n 1, 1) := by decide +kernel
theorem zd_X7_size_31 : decode cX7_size 31 = .ok (.iload_n 2, 1) := by decide +kernel
theorem zd_X7_size_32 : decode cX7_size 32 = .ok (.invokevirtual 68, 3) := by decide +kernel
theorem zd_X7_size_35 : decode cX7_size 35 = .ok (.aload_n 0, 1) := by decide +kernel
theorem zd_X7_size_36 : decode cX7_size 36 = .ok (.getfield 26, 3) := by decide +kernel
theorem zd_X7_size_39 : decode cX7_size 39 = .ok (.iconst 0, 1) := by decide +kernel
theorem zd_X7_size_40 : decode cX7_size 40 = .ok (.putfield 72, 3) := by decide +kernel
theorem zd_X7_size_43 : decode cX7_size 43 = .ok (.aload_n 0, 1) := by decide +kernel
theorem zd_X7_size_44 : decode cX7_size 44 = .ok (.invokevirtual 75, 3) := by decide +kernel
theorem zd_X7_size_47 : decode cX7_size 47 = .ok (.aload_n 0, 1) := by decide +kernel
theorem zd_X7_size_48 : decode cX7_size 48 = .ok (.iconst 0, 1) := by decide +kernel
theorem zd_X7_size_49 : decode cX7_size 49 = .ok (.invokevirtual 78, 3) := by decide +kernel
theorem zd_X7_size_52 : decode cX7_size 52 = .ok (.ireturn, 1) := by decide +kernel
def zb_X7_size_20 (K : zKt) (J : Nat → zPP) : zPP := zT_ald 0 (zT_push (.int (-1)) (zT_V1 zok 7 9 zc_X7_refuse (zT_iret K)))
theorem zbs_X7_size_20 {X : zCt} (hR : zRX X = { frames := 1, cells := 0, slots := 0, locals := 23 }) (J : Nat → zPP) (hJ : ∀ h ∈ ([] : List Nat), zSd X RX7 "size" cX7_size 3 (some .int) h (J h)) : zSd X RX7 "size" cX7_size 3 (some .int) 20 (zb_X7_size_20 (zKX X) J) := zs_aload_n zd_X7_size_20 rfl (zs_iconst zd_X7_size_21 (by decide) (zs_V (ci := 7) rfl rfl (zm_X7_refuse _ _ _) gw_1_223 gw_1_220 gw_1_222 gw_0_0 gw_1_1 zdn_X7_refuse (zrm hR (by decide) (by decide)) zd_X7_size_22 (zCl_V1 zok_l) (zs_iret rfl zd_X7_size_25)))
def zb_X7_size_0 (K : zKt) (J : Nat → zPP) : zPP := zT_ild 1 (zT_push (.int 2) (zT_push (.int 12) (zT_S3 zok zc_X7_within (zT_if1 (fun x => x = 0) (zb_X7_size_20 K J) (zT_ild 2 (zT_push (.int 2) (zT_push (.int 10) (zT_S3 zok zc_X7_within (zT_if1 (fun x => x = 0) (zb_X7_size_20 K J) (zT_ald 0 (zT_getR 7 0 9 (zT_ild 1 (zT_ild 2 (zT_V2 zok 1 6 zc_X1_layOut (zT_ald 0 (zT_getR 7 2 9 (zT_push (.int 0) (zT_putI 0 4 5 (zT_ald 0 (zT_V0 zok 7 9 zc_X7_forgetRuns (zT_ald 0 (zT_push (.int 0) (zT_V1 zok 7 9 zc_X7_accept (zT_iret K))))))))))))))))))))))))
theorem zbs_X7_size_0 {X : zCt} (hR : zRX X = { frames := 1, cells := 0, slots := 0, locals := 23 }) (J : Nat → zPP) (hJ : ∀ h ∈ ([] : List Nat), zSd X RX7 "size" cX7_size 3 (some .int) h (J h)) : zSd X RX7 "size" cX7_size 3 (some .int) 0 (zb_X7_size_0 (zKX X) J) := zs_iload_n zd_X7_size_0 rfl (zs_iconst zd_X7_size_1 (by decide) (zs_bipush zd_X7_size_2 (by decide) (zs_S (zm_X7_within _ _ _) gw_1_219 gw_1_217 gw_1_218 gw_1_1 zdn_X7_within (zrm hR (by decide) (by decide)) zd_X7_size_4 (zCl_S3 zok_l) (zs_if_eq (tgt := 20) zd_X7_size_7 (by decide) (zbs_X7_size_20 hR J hJ) (zs_iload_n zd_X7_size_10 rfl (zs_iconst zd_X7_size_11 (by decide) (zs_bipush zd_X7_size_12 (by decide) (zs_S (zm_X7_within _ _ _) gw_1_219 gw_1_217 gw_1_218 gw_1_1 zdn_X7_within (zrm hR (by decide) (by decide)) zd_X7_size_14 (zCl_S3 zok_l) (zs_if_ne (tgt := 26) zd_X7_size_17 (by decide) (zs_aload_n zd_X7_size_26 rfl (zs_getR (ci := 7) (j := 0) (T := TX7) rfl inX7 (by decide) gw_1_185 rfl zd_X7_size_27 (zs_iload_n zd_X7_size_30 rfl (zs_iload_n zd_X7_size_31 rfl (zs_V (ci := 1) rfl rfl (zm_X1_layOut _ _ _) gw_1_32 gw_1_224 gw_1_30 gw_1_31 gw_1_2 zdn_X1_layOut (zrm hR (by decide) (by decide)) zd_X7_size_32 (zCl_V2 zok_l) (zs_aload_n zd_X7_size_35 rfl (zs_getR (ci := 7) (j := 2) (T := TX7) rfl inX7 (by decide) gw_1_187 rfl zd_X7_size_36 (zs_iconst zd_X7_size_39 (by decide) (zs_putI (ci := 0) (j := 4) (T := TX0) rfl inX0 tyX0_ok nmX0 (by decide) gw_1_93 rfl rfl rfl zd_X7_size_40 (zs_aload_n zd_X7_size_43 rfl (zs_V (ci := 7) rfl rfl (zm_X7_forgetRuns _ _ _) gw_1_228 gw_1_225 gw_1_227 gw_0_1 gw_1_1 zdn_X7_forgetRuns (zrm hR (by decide) (by decide)) zd_X7_size_44 (zCl_V0 zok_l) (zs_aload_n zd_X7_size_47 rfl (zs_iconst zd_X7_size_48 (by decide) (zs_V (ci := 7) rfl rfl (zm_X7_accept _ _ _) gw_1_232 gw_1_229 gw_1_231 gw_0_2 gw_1_1 zdn_X7_accept (zrm hR (by decide) (by decide)) zd_X7_size_49 (zCl_V1 zok_l) (zs_iret rfl zd_X7_size_52))))))))))))))) (zbs_X7_size_20 hR J hJ))))))))))
theorem zdn_X7_size : yX7_size.cls ≠ "java/lang/invoke/MethodHandle" ∧ yX7_size.cls ≠ "java/lang/invoke/VarHandle" ∧ (parseMethodDescriptor yX7_size.desc).map (fun d => d.parameters.length) = some 2 := by decide +kernel
/-! DeltaRuns land -/
theorem zd_X7_land_0 : decode cX7_land 0 = .ok (.iload 5, 2) := by decide +kernel
theorem zd_X7_land_2 : decode cX7_land 2 = .ok (.iconst 0, 1) := by decide +kernel
theorem zd_X7_land_3 : decode cX7_land 3 = .ok (.sipush 200, 3) := by decide +kernel
theorem zd_X7_land_6 : decode cX7_land 6 = .ok (.invokestatic 60, 3) := by decide +kernel
theorem zd_X7_land_9 : decode cX7_land 9 = .ok (.ifCond .eq 14, 3) := by decide +kernel
theorem zd_X7_land_12 : decode cX7_land 12 = .ok (.iload_n 1, 1) := by decide +kernel
theorem zd_X7_land_13 : decode cX7_land 13 = .ok (.iload_n 3, 1) := by decide +kernel
theorem zd_X7_land_14 : decode cX7_land 14 = .ok (.if_icmp .gt 9, 3) := by decide +kernel
theorem zd_X7_land_17 : decode cX7_land 17 = .ok (.iload_n 2, 1) := by decide +kernel
theorem zd_X7_land_18 : decode cX7_land 18 = .ok (.iload 4, 2) := by decide +kernel
theorem zd_X7_land_20 : decode cX7_land 20 = .ok (.if_icmp .le 9, 3) := by decide +kernel
theorem zd_X7_land_23 : decode cX7_land 23 = .ok (.aload_n 0, 1) := by decide +kernel
theorem zd_X7_land_24 : decode cX7_land 24 = .ok (.iconst (-1), 1) := by decide +kernel
theorem zd_X7_land_25 : decode cX7_land 25 = .ok (.invokevirtual 64, 3) := by decide +kernel
theorem zd_X7_land_28 : decode cX7_land 28 = .ok (.ireturn, 1) := by decide +kernel
theorem zd_X7_land_29 : decode cX7_land 29 = .ok (.aload_n 0, 1) := by decide +kernel
theorem zd_X7_land_30 : decode cX7_land 30 = .ok (.getfield 10, 3) := by decide +kernel
theorem zd_X7_land_33 : decode cX7_land 33 = .ok (.iload_n 1, 1) := by decide +kernel
theorem zd_X7_land_34 : decode cX7_land 34 = .ok (.iload_n 2, 1) := by decide +kernel
theorem zd_X7_land_35 : decode cX7_land 35 = .ok (.invokevirtual 81, 3) := by decide +kernel
theorem zd_X7_land_38 : decode cX7_land 38 = .ok (.ifCond .eq 16, 3) := by decide +kernel
theorem zd_X7_land_41 : decode cX7_land 41 = .ok (.aload_n 0, 1) := by decide +kernel
theorem zd_X7_land_42 : decode cX7_land 42 = .ok (.getfield 10, 3) := by decide +kernel
theorem zd_X7_land_45 : decode cX7_land 45 = .ok (.iload_n 3, 1) := by decide +kernel
theorem zd_X7_land_46 : decode cX7_land 46 = .ok (.iload 4, 2) := by decide +kernel
theorem zd_X7_land_48 : decode cX7_land 48 = .ok (.invokevirtual 81, 3) := by decide +kernel
theorem zd_X7_land_51 : decode cX7_land 51 = .ok (.ifCond .ne 10, 3) := by decide +kernel
theorem zd_X7_land_54 : decode cX7_land 54 = .ok (.aload_n 0, 1) := by decide +kernel
theorem zd_X7_land_55 : decode cX7_land 55 = .ok (.bipush (-2), 2) := by decide +kernel
theorem zd_X7_land_57 : decode cX7_land 57 = .ok (.invokevirtual 64, 3) := by decide +kernel
theorem zd_X7_land_60 : decode cX7_land 60 = .ok (.ireturn, 1) := by decide +kernel
theorem zd_X7_land_61 : decode cX7_land 61 = .ok (.aload_n 0, 1) := by decide +kernel
theorem zd_X7_land_62 : decode cX7_land 62 = .ok (.getfield 10, 3) := by decide +kernel
theorem zd_X7_land_65 : decode cX7_land 65 = .ok (.iload_n 1, 1) := by decide +kernel
theorem zd_X7_land_66 : decode cX7_land 66 = .ok (.iload_n 2, 1) := by decide +kernel
theorem zd_X7_land_67 : decode cX7_land 67 = .ok (.iload_n 3, 1) := by decide +kernel
theorem zd_X7_land_68 : decode cX7_land 68 = .ok (.iload 4, 2) := by decide +kernel
theorem zd_X7_land_70 : decode cX7_land 70 = .ok (.iload 5, 2) := by decide +kernel
theorem zd_X7_land_72 : decode cX7_land 72 = .ok (.invokevirtual 85, 3) := by decide +kernel
theorem zd_X7_land_75 : decode cX7_land 75 = .ok (.istore 6, 2) := by decide +kernel
theorem zd_X7_land_77 : decode cX7_land 77 = .ok (.aload_n 0, 1) := by decide +kernel
theorem zd_X7_land_78 : decode cX7_land 78 = .ok (.invokevirtual 75, 3) := by decide +kernel
theorem zd_X7_land_81 : decode cX7_land 81 = .ok (.aload_n 0, 1) := by decide +kernel
theorem zd_X7_land_82 : decode cX7_land 82 = .ok (.iload 6, 2) := by decide +kernel
theorem zd_X7_land_84 : decode cX7_land 84 = .ok (.invokevirtual 78, 3) := by decide +kernel
theorem zd_X7_land_87 : decode cX7_land 87 = .ok (.ireturn, 1) := by decide +kernel
def zb_X7_land_23 (K : zKt) (J : Nat → zPP) : zPP := zT_ald 0 (zT_push (.int (-1)) (zT_V1 zok 7 9 zc_X7_refuse (zT_iret K)))
theorem zbs_X7_land_23 {X : zCt} (hR : zRX X = { frames := 2, cells := 0, slots := 0, locals := 49 }) (J : Nat → zPP) (hJ : ∀ h ∈ ([] : List Nat), zSd X RX7 "land" cX7_land 7 (some .int) h (J h)) : zSd X RX7 "land" cX7_land 7 (some .int) 23 (zb_X7_land_23 (zKX X) J) := zs_aload_n zd_X7_land_23 rfl (zs_iconst zd_X7_land_24 (by decide) (zs_V (ci := 7) rfl rfl (zm_X7_refuse _ _ _) gw_1_223 gw_1_220 gw_1_222 gw_0_0 gw_1_1 zdn_X7_refuse (zrm hR (by decide) (by decide)) zd_X7_land_25 (zCl_V1 zok_l) (zs_iret rfl zd_X7_land_28)))
def zb_X7_land_54 (K : zKt) (J : Nat → zPP) : zPP := zT_ald 0 (zT_push (.int (-2)) (zT_V1 zok 7 9 zc_X7_refuse (zT_iret K)))
theorem zbs_X7_land_54 {X : zCt} (hR : zRX X = { frames := 2, cells := 0, slots := 0, locals := 49 }) (J : Nat → zPP) (hJ : ∀ h ∈ ([] : List Nat), zSd X RX7 "land" cX7_land 7 (some .int) h (J h)) : zSd X RX7 "land" cX7_land 7 (some .int) 54 (zb_X7_land_54 (zKX X) J) := zs_aload_n zd_X7_land_54 rfl (zs_bipush zd_X7_land_55 (by decide) (zs_V (ci := 7) rfl rfl (zm_X7_refuse _ _ _) gw_1_223 gw_1_220 gw_1_222 gw_0_0 gw_1_1 zdn_X7_refuse (zrm hR (by decide) (by decide)) zd_X7_land_57 (zCl_V1 zok_l) (zs_iret rfl zd_X7_land_60)))
def zb_X7_land_0 (K : zKt) (J : Nat → zPP) : zPP := zT_ild 5 (zT_push (.int 0) (zT_push (.int 200) (zT_S3 zok zc_X7_within (zT_if1 (fun x => x = 0) (zb_X7_land_23 K J) (zT_ild 1 (zT_ild 3 (zT_if2 (fun x y => y < x) (zb_X7_land_23 K J) (zT_ild 2 (zT_ild 4 (zT_if2 (fun x y => x ≤ y) (zT_ald 0 (zT_getR 7 0 9 (zT_ild 1 (zT_ild 2 (zT_V2 zok 1 6 zc_X1_has (zT_if1 (fun x => x = 0) (zb_X7_land_54 K J) (zT_ald 0 (zT_getR 7 0 9 (zT_ild 3 (zT_ild 4 (zT_V2 zok 1 6 zc_X1_has (zT_if1 (fun x => x = 0) (zb_X7_land_54 K J) (zT_ald 0 (zT_getR 7 0 9 (zT_ild 1 (zT_ild 2 (zT_ild 3 (zT_ild 4 (zT_ild 5 (zT_V5 zok 1 6 zc_X1_raise (zT_ist 6 (zT_ald 0 (zT_V0 zok 7 9 zc_X7_forgetRuns (zT_ald 0 (zT_ild 6 (zT_V1 zok 7 9 zc_X7_accept (zT_iret K))))))))))))))))))))))))))) (zb_X7_land_23 K J)))))))))))
theorem zbs_X7_land_0 {X : zCt} (hR : zRX X = { frames := 2, cells := 0, slots := 0, locals := 49 }) (J : Nat → zPP) (hJ : ∀ h ∈ ([] : List Nat), zSd X RX7 "land" cX7_land 7 (some .int) h (J h)) : zSd X RX7 "land" cX7_land 7 (some .int) 0 (zb_X7_land_0 (zKX X) J) := zs_iload zd_X7_land_0 (zs_iconst zd_X7_land_2 (by decide) (zs_sipush zd_X7_land_3 (by decide) (zs_S (zm_X7_within _ _ _) gw_1_219 gw_1_217 gw_1_218 gw_1_1 zdn_X7_within (zrm hR (by decide) (by decide)) zd_X7_land_6 (zCl_S3 zok_l) (zs_if_eq (tgt := 23) zd_X7_land_9 (by decide) (zbs_X7_land_23 hR J hJ) (zs_iload_n zd_X7_land_12 rfl (zs_iload_n zd_X7_land_13 rfl (zs_icmp_gt (tgt := 23) zd_X7_land_14 (by decide) (zbs_X7_land_23 hR J hJ) (zs_iload_n zd_X7_land_17 rfl (zs_iload zd_X7_land_18 (zs_icmp_le (tgt := 29) zd_X7_land_20 (by decide) (zs_aload_n zd_X7_land_29 rfl (zs_getR (ci := 7) (j := 0) (T := TX7) rfl inX7 (by decide) gw_1_185 rfl zd_X7_land_30 (zs_iload_n zd_X7_land_33 rfl (zs_iload_n zd_X7_land_34 rfl (zs_V (ci := 1) rfl rfl (zm_X1_has _ _ _) gw_2_0 gw_1_237 gw_1_238 gw_1_239 gw_1_2 zdn_X1_has (zrm hR (by decide) (by decide)) zd_X7_land_35 (zCl_V2 zok_l) (zs_if_eq (tgt := 54) zd_X7_land_38 (by decide) (zbs_X7_land_54 hR J hJ) (zs_aload_n zd_X7_land_41 rfl (zs_getR (ci := 7) (j := 0) (T := TX7) rfl inX7 (by decide) gw_1_185 rfl zd_X7_land_42 (zs_iload_n zd_X7_land_45 rfl (zs_iload zd_X7_land_46 (zs_V (ci := 1) rfl rfl (zm_X1_has _ _ _) gw_2_0 gw_1_237 gw_1_238 gw_1_239 gw_1_2 zdn_X1_has (zrm hR (by decide) (by decide)) zd_X7_land_48 (zCl_V2 zok_l) (zs_if_ne (tgt := 61) zd_X7_land_51 (by decide) (zs_aload_n zd_X7_land_61 rfl (zs_getR (ci := 7) (j := 0) (T := TX7) rfl inX7 (by decide) gw_1_185 rfl zd_X7_land_62 (zs_iload_n zd_X7_land_65 rfl (zs_iload_n zd_X7_land_66 rfl (zs_iload_n zd_X7_land_67 rfl (zs_iload zd_X7_land_68 (zs_iload zd_X7_land_70 (zs_V (ci := 1) rfl rfl (zm_X1_raise _ _ _) gw_2_4 gw_2_1 gw_2_2 gw_2_3 gw_1_2 zdn_X1_raise (zrm hR (by decide) (by decide)) zd_X7_land_72 (zCl_V5 zok_l) (zs_istore zd_X7_land_75 (by decide) (zs_aload_n zd_X7_land_77 rfl (zs_V (ci := 7) rfl rfl (zm_X7_forgetRuns _ _ _) gw_1_228 gw_1_225 gw_1_227 gw_0_1 gw_1_1 zdn_X7_forgetRuns (zrm hR (by decide) (by decide)) zd_X7_land_78 (zCl_V0 zok_l) (zs_aload_n zd_X7_land_81 rfl (zs_iload zd_X7_land_82 (zs_V (ci := 7) rfl rfl (zm_X7_accept _ _ _) gw_1_232 gw_1_229 gw_1_231 gw_0_2 gw_1_1 zdn_X7_accept (zrm hR (by decide) (by decide)) zd_X7_land_84 (zCl_V1 zok_l) (zs_iret rfl zd_X7_land_87))))))))))))))) (zbs_X7_land_54 hR J hJ))))))))))))) (zbs_X7_land_23 hR J hJ)))))))))))
theorem zdn_X7_land : yX7_land.cls ≠ "java/lang/invoke/MethodHandle" ∧ yX7_land.cls ≠ "java/lang/invoke/VarHandle" ∧ (parseMethodDescriptor yX7_land.desc).map (fun d => d.parameters.length) = some 5 := by decide +kernel
/-! DeltaRuns level -/
theorem zd_X7_level_0 : decode cX7_level 0 = .ok (.iload_n 1, 1) := by decide +kernel
theorem zd_X7_level_1 : decode cX7_level 1 = .ok (.iconst 0, 1) := by decide +kernel
theorem zd_X7_level_2 : decode cX7_level 2 = .ok (.sipush 200, 3) := by decide +kernel
theorem zd_X7_level_5 : decode cX7_level 5 = .ok (.invokestatic 60, 3) := by decide +kernel
theorem zd_X7_level_8 : decode cX7_level 8 = .ok (.ifCond .ne 9, 3) := by decide +kernel
theorem zd_X7_level_11 : decode cX7_level 11 = .ok (.aload_n 0, 1) := by decide +kernel
theorem zd_X7_level_12 : decode cX7_level 12 = .ok (.iconst (-1), 1) := by decide +kernel
theorem zd_X7_level_13 : decode cX7_level 13 = .ok (.invokevirtual 64, 3) := by decide +kernel
theorem zd_X7_level_16 : decode cX7_level 16 = .ok (.ireturn, 1) := by decide +kernel
theorem zd_X7_level_17 : decode cX7_level 17 = .ok (.aload_n 0, 1) := by decide +kernel
theorem zd_X7_level_18 : decode cX7_level 18 = .ok (.getfield 10, 3) := by decide +kernel
theorem zd_X7_level_21 : decode cX7_level 21 = .ok (.iload_n 1, 1) := by decide +kernel
theorem zd_X7_level_22 : decode cX7_level 22 = .ok (.putfield 89, 3) := by decide +kernel
theorem zd_X7_level_25 : decode cX7_level 25 = .ok (.aload_n 0, 1) := by decide +kernel
theorem zd_X7_level_26 : decode cX7_level 26 = .ok (.invokevirtual 75, 3) := by decide +kernel
theorem zd_X7_level_29 : decode cX7_level 29 = .ok (.aload_n 0, 1) := by decide +kernel
theorem zd_X7_level_30 : decode cX7_level 30 = .ok (.iconst 0, 1) := by decide +kernel
theorem zd_X7_level_31 : decode cX7_level 31 = .ok (.invokevirtual 78, 3) := by decide +kernel
theorem zd_X7_level_34 : decode cX7_level 34 = .ok (.ireturn, 1) := by decide +kernel
def zb_X7_level_0 (K : zKt) (J : Nat → zPP) : zPP := zT_ild 1 (zT_push (.int 0) (zT_push (.int 200) (zT_S3 zok zc_X7_within (zT_if1 (fun x => x = 0) (zT_ald 0 (zT_push (.int (-1)) (zT_V1 zok 7 9 zc_X7_refuse (zT_iret K)))) (zT_ald 0 (zT_getR 7 0 9 (zT_ild 1 (zT_putI 1 5 6 (zT_ald 0 (zT_V0 zok 7 9 zc_X7_forgetRuns (zT_ald 0 (zT_push (.int 0) (zT_V1 zok 7 9 zc_X7_accept (zT_iret K))))))))))))))
theorem zbs_X7_level_0 {X : zCt} (hR : zRX X = { frames := 1, cells := 0, slots := 0, locals := 22 }) (J : Nat → zPP) (hJ : ∀ h ∈ ([] : List Nat), zSd X RX7 "level" cX7_level 2 (some .int) h (J h)) : zSd X RX7 "level" cX7_level 2 (some .int) 0 (zb_X7_level_0 (zKX X) J) := zs_iload_n zd_X7_level_0 rfl (zs_iconst zd_X7_level_1 (by decide) (zs_sipush zd_X7_level_2 (by decide) (zs_S (zm_X7_within _ _ _) gw_1_219 gw_1_217 gw_1_218 gw_1_1 zdn_X7_within (zrm hR (by decide) (by decide)) zd_X7_level_5 (zCl_S3 zok_l) (zs_if_ne (tgt := 17) zd_X7_level_8 (by decide) (zs_aload_n zd_X7_level_17 rfl (zs_getR (ci := 7) (j := 0) (T := TX7) rfl inX7 (by decide) gw_1_185 rfl zd_X7_level_18 (zs_iload_n zd_X7_level_21 rfl (zs_putI (ci := 1) (j := 5) (T := TX1) rfl inX1 tyX1_ok nmX1 (by decide) gw_1_46 rfl rfl rfl zd_X7_level_22 (zs_aload_n zd_X7_level_25 rfl (zs_V (ci := 7) rfl rfl (zm_X7_forgetRuns _ _ _) gw_1_228 gw_1_225 gw_1_227 gw_0_1 gw_1_1 zdn_X7_forgetRuns (zrm hR (by decide) (by decide)) zd_X7_level_26 (zCl_V0 zok_l) (zs_aload_n zd_X7_level_29 rfl (zs_iconst zd_X7_level_30 (by decide) (zs_V (ci := 7) rfl rfl (zm_X7_accept _ _ _) gw_1_232 gw_1_229 gw_1_231 gw_0_2 gw_1_1 zdn_X7_accept (zrm hR (by decide) (by decide)) zd_X7_level_31 (zCl_V1 zok_l) (zs_iret rfl zd_X7_level_34)))))))))) (zs_aload_n zd_X7_level_11 rfl (zs_iconst zd_X7_level_12 (by decide) (zs_V (ci := 7) rfl rfl (zm_X7_refuse _ _ _) gw_1_223 gw_1_220 gw_1_222 gw_0_0 gw_1_1 zdn_X7_refuse (zrm hR (by decide) (by decide)) zd_X7_level_13 (zCl_V1 zok_l) (zs_iret rfl zd_X7_level_16))))))))
theorem zdn_X7_level : yX7_level.cls ≠ "java/lang/invoke/MethodHandle" ∧ yX7_level.cls ≠ "java/lang/invoke/VarHandle" ∧ (parseMethodDescriptor yX7_level.desc).map (fun d => d.parameters.length) = some 1 := by decide +kernel
/-! DeltaRuns spring -/
theorem zd_X7_spring_0 : decode cX7_spring 0 = .ok (.iload_n 3, 1) := by decide +kernel
theorem zd_X7_spring_1 : decode cX7_spring 1 = .ok (.iconst 0, 1) := by decide +kernel
theorem zd_X7_spring_2 : decode cX7_spring 2 = .ok (.sipush 1000, 3) := by decide +kernel
theorem zd_X7_spring_5 : decode cX7_spring 5 = .ok (.invokestatic 60, 3) := by decide +kernel
theorem zd_X7_spring_8 : decode cX7_spring 8 = .ok (.ifCond .ne 9, 3) := by decide +kernel
theorem zd_X7_spring_11 : decode cX7_spring 11 = .ok (.aload_n 0, 1) := by decide +kernel
theorem zd_X7_spring_12 : decode cX7_spring 12 = .ok (.iconst (-1), 1) := by decide +kernel
theorem zd_X7_spring_13 : decode cX7_spring 13 = .ok (.invokevirtual 64, 3) := by decide +kernel
theorem zd_X7_spring_16 : decode cX7_spring 16 = .ok (.ireturn, 1) := by decide +kernel
theorem zd_X7_spring_17 : decode cX7_spring 17 = .ok (.aload_n 0, 1) := by decide +kernel
theorem zd_X7_spring_18 : decode cX7_spring 18 = .ok (.getfield 10, 3) := by decide +kernel
theorem zd_X7_spring_21 : decode cX7_spring 21 = .ok (.iload_n 1, 1) := by decide +kernel
theorem zd_X7_spring_22 : decode cX7_spring 22 = .ok (.iload_n 2, 1) := by decide +kernel
theorem zd_X7_spring_23 : decode cX7_spring 23 = .ok (.invokevirtual 81, 3) := by decide +kernel
theorem zd_X7_spring_26 : decode cX7_spring 26 = .ok (.ifCond .ne 10, 3) := by decide +kernel
theorem zd_X7_spring_29 : decode cX7_spring 29 = .ok (.aload_n 0, 1) := by decide +kernel
theorem zd_X7_spring_30 : decode cX7_spring 30 = .ok (.bipush (-2), 2) := by decide +kernel
theorem zd_X7_spring_32 : decode cX7_spring 32 = .ok (.invokevirtual 64, 3) := by decide +kernel
theorem zd_X7_spring_35 : decode cX7_spring 35 = .ok (.ireturn, 1) := by decide +kernel
theorem zd_X7_spring_36 : decode cX7_spring 36 = .ok (.aload_n 0, 1) := by decide +kernel
theorem zd_X7_spring_37 : decode cX7_spring 37 = .ok (.getfield 10, 3) := by decide +kernel
theorem zd_X7_spring_40 : decode cX7_spring 40 = .ok (.iload_n 1, 1) := by decide +kernel
theorem zd_X7_spring_41 : decode cX7_spring 41 = .ok (.iload_n 2, 1) := by decide +kernel
theorem zd_X7_spring_42 : decode cX7_spring 42 = .ok (.invokestatic 92, 3) := by decide +kernel
theorem zd_X7_spring_45 : decode cX7_spring 45 = .ok (.putfield 96, 3) := by decide +kernel
theorem zd_X7_spring_48 : decode cX7_spring 48 = .ok (.aload_n 0, 1) := by decide +kernel
theorem zd_X7_spring_49 : decode cX7_spring 49 = .ok (.getfield 10, 3) := by decide +kernel
theorem zd_X7_spring_52 : decode cX7_spring 52 = .ok (.iload_n 3, 1) := by decide +kernel
theorem zd_X7_spring_53 : decode cX7_spring 53 = .ok (.putfield 99, 3) := by decide +kernel
theorem zd_X7_spring_56 : decode cX7_spring 56 = .ok (.aload_n 0, 1) := by decide +kernel
theorem zd_X7_spring_57 : decode cX7_spring 57 = .ok (.invokevirtual 75, 3) := by decide +kernel
theorem zd_X7_spring_60 : decode cX7_spring 60 = .ok (.aload_n 0, 1) := by decide +kernel
theorem zd_X7_spring_61 : decode cX7_spring 61 = .ok (.iconst 0, 1) := by decide +kernel
theorem zd_X7_spring_62 : decode cX7_spring 62 = .ok (.invokevirtual 78, 3) := by decide +kernel
theorem zd_X7_spring_65 : decode cX7_spring 65 = .ok (.ireturn, 1) := by decide +kernel
def zb_X7_spring_0 (K : zKt) (J : Nat → zPP) : zPP := zT_ild 3 (zT_push (.int 0) (zT_push (.int 1000) (zT_S3 zok zc_X7_within (zT_if1 (fun x => x = 0) (zT_ald 0 (zT_push (.int (-1)) (zT_V1 zok 7 9 zc_X7_refuse (zT_iret K)))) (zT_ald 0 (zT_getR 7 0 9 (zT_ild 1 (zT_ild 2 (zT_V2 zok 1 6 zc_X1_has (zT_if1 (fun x => x = 0) (zT_ald 0 (zT_push (.int (-2)) (zT_V1 zok 7 9 zc_X7_refuse (zT_iret K)))) (zT_ald 0 (zT_getR 7 0 9 (zT_ild 1 (zT_ild 2 (zT_S2 zok zc_X7_cellAt (zT_putI 1 3 6 (zT_ald 0 (zT_getR 7 0 9 (zT_ild 3 (zT_putI 1 4 6 (zT_ald 0 (zT_V0 zok 7 9 zc_X7_forgetRuns (zT_ald 0 (zT_push (.int 0) (zT_V1 zok 7 9 zc_X7_accept (zT_iret K))))))))))))))))))))))))))
theorem zbs_X7_spring_0 {X : zCt} (hR : zRX X = { frames := 1, cells := 0, slots := 0, locals := 22 }) (J : Nat → zPP) (hJ : ∀ h ∈ ([] : List Nat), zSd X RX7 "spring" cX7_spring 4 (some .int) h (J h)) : zSd X RX7 "spring" cX7_spring 4 (some .int) 0 (zb_X7_spring_0 (zKX X) J) := zs_iload_n zd_X7_spring_0 rfl (zs_iconst zd_X7_spring_1 (by decide) (zs_sipush zd_X7_spring_2 (by decide) (zs_S (zm_X7_within _ _ _) gw_1_219 gw_1_217 gw_1_218 gw_1_1 zdn_X7_within (zrm hR (by decide) (by decide)) zd_X7_spring_5 (zCl_S3 zok_l) (zs_if_ne (tgt := 17) zd_X7_spring_8 (by decide) (zs_aload_n zd_X7_spring_17 rfl (zs_getR (ci := 7) (j := 0) (T := TX7) rfl inX7 (by decide) gw_1_185 rfl zd_X7_spring_18 (zs_iload_n zd_X7_spring_21 rfl (zs_iload_n zd_X7_spring_22 rfl (zs_V (ci := 1) rfl rfl (zm_X1_has _ _ _) gw_2_0 gw_1_237 gw_1_238 gw_1_239 gw_1_2 zdn_X1_has (zrm hR (by decide) (by decide)) zd_X7_spring_23 (zCl_V2 zok_l) (zs_if_ne (tgt := 36) zd_X7_spring_26 (by decide) (zs_aload_n zd_X7_spring_36 rfl (zs_getR (ci := 7) (j := 0) (T := TX7) rfl inX7 (by decide) gw_1_185 rfl zd_X7_spring_37 (zs_iload_n zd_X7_spring_40 rfl (zs_iload_n zd_X7_spring_41 rfl (zs_S (zm_X7_cellAt _ _ _) gw_2_7 gw_2_16 gw_2_6 gw_1_1 zdn_X7_cellAt (zrm hR (by decide) (by decide)) zd_X7_spring_42 (zCl_S2 zok_l) (zs_putI (ci := 1) (j := 3) (T := TX1) rfl inX1 tyX1_ok nmX1 (by decide) gw_1_41 rfl rfl rfl zd_X7_spring_45 (zs_aload_n zd_X7_spring_48 rfl (zs_getR (ci := 7) (j := 0) (T := TX7) rfl inX7 (by decide) gw_1_185 rfl zd_X7_spring_49 (zs_iload_n zd_X7_spring_52 rfl (zs_putI (ci := 1) (j := 4) (T := TX1) rfl inX1 tyX1_ok nmX1 (by decide) gw_1_44 rfl rfl rfl zd_X7_spring_53 (zs_aload_n zd_X7_spring_56 rfl (zs_V (ci := 7) rfl rfl (zm_X7_forgetRuns _ _ _) gw_1_228 gw_1_225 gw_1_227 gw_0_1 gw_1_1 zdn_X7_forgetRuns (zrm hR (by decide) (by decide)) zd_X7_spring_57 (zCl_V0 zok_l) (zs_aload_n zd_X7_spring_60 rfl (zs_iconst zd_X7_spring_61 (by decide) (zs_V (ci := 7) rfl rfl (zm_X7_accept _ _ _) gw_1_232 gw_1_229 gw_1_231 gw_0_2 gw_1_1 zdn_X7_accept (zrm hR (by decide) (by decide)) zd_X7_spring_62 (zCl_V1 zok_l) (zs_iret rfl zd_X7_spring_65)))))))))))))))) (zs_aload_n zd_X7_spring_29 rfl (zs_bipush zd_X7_spring_30 (by decide) (zs_V (ci := 7) rfl rfl (zm_X7_refuse _ _ _) gw_1_223 gw_1_220 gw_1_222 gw_0_0 gw_1_1 zdn_X7_refuse (zrm hR (by decide) (by decide)) zd_X7_spring_32 (zCl_V1 zok_l) (zs_iret rfl zd_X7_spring_35)))))))))) (zs_aload_n zd_X7_spring_11 rfl (zs_iconst zd_X7_spring_12 (by decide) (zs_V (ci := 7) rfl rfl (zm_X7_refuse _ _ _) gw_1_223 gw_1_220 gw_1_222 gw_0_0 gw_1_1 zdn_X7_refuse (zrm hR (by decide) (by decide)) zd_X7_spring_13 (zCl_V1 zok_l) (zs_iret rfl zd_X7_spring_16))))))))
theorem zdn_X7_spring : yX7_spring.cls ≠ "java/lang/invoke/MethodHandle" ∧ yX7_spring.cls ≠ "java/lang/invoke/VarHandle" ∧ (parseMethodDescriptor yX7_spring.desc).map (fun d => d.parameters.length) = some 3 := by decide +kernel
/-! THE CALLS, as pure functions of the full state -/
def tn (x : Int32) : Nat := x.toNatClampNeg
theorem tn_nI {x : Int32} {b : Nat} (h0 : 0 ≤ x) (h1 : x ≤ nI b) (hb : b < 2 ^ 31) : x = nI (tn x) ∧ tn x ≤ b := by
  obtain ⟨j, h2, rfl⟩ := nI_of (x := x) (Int32.not_lt.mpr h0)
  unfold tn
  rw [nI_clamp h2]
  exact ⟨rfl, (nI_leI h2 hb).mp h1⟩
theorem tn_lt {x : Int32} {b : Nat} (h0 : 0 ≤ x) (h1 : x < nI b) (hb : b < 2 ^ 31) : x = nI (tn x) ∧ tn x < b := by
  obtain ⟨j, h2, rfl⟩ := nI_of (x := x) (Int32.not_lt.mpr h0)
  unfold tn
  rw [nI_clamp h2]
  exact ⟨rfl, (nI_ltI h2 hb).mp h1⟩
def pcl (σ : wSP) (x y : Int32) : Prop := 0 ≤ x ∧ x < nI (sW σ) ∧ 0 ≤ y ∧ y < nI (sH σ)
def pclD (σ : wSP) (x y : Int32) : Bool := decide (0 ≤ x ∧ x < nI (sW σ) ∧ 0 ≤ y ∧ y < nI (sH σ))
theorem pclD_t {σ : wSP} {x y : Int32} : pclD σ x y = true ↔ pcl σ x y := by simp [pclD, pcl]
def fRef (F : wFS) (st : Int32) : Int32 × wFS := (st, (F.1, F.2.1, F.2.2.1, F.2.2.2.1, st))
def fAcc (F : wFS) (a : Int32) (σ : wSP) : Int32 × wFS := (a, (σ, F.2.1, F.2.2.1, F.2.2.2.1, 0))
def pSize (w h : Int32) (F : wFS) : Int32 × wFS :=
  if (2 ≤ w ∧ w ≤ 12) ∧ 2 ≤ h ∧ h ≤ 10 then (0, ((tn w, tn h, sL F.1, 0, sF F.1, fun _ => 50, sA F.1), [], F.2.2.1, F.2.2.2.1, 0)) else fRef F (-1)
def pLand (x y u v g : Int32) (F : wFS) : Int32 × wFS :=
  if ¬ (0 ≤ g ∧ g ≤ 200) ∨ u < x ∨ v < y then fRef F (-1)
  else if pclD F.1 x y = true ∧ pclD F.1 u v = true then fAcc F (nI ((tn u + 1 - tn x) * (tn v + 1 - tn y))) (sW F.1, sH F.1, sL F.1, sS F.1, sF F.1, fun e => if tn x ≤ e % 12 ∧ e % 12 ≤ tn u ∧ tn y ≤ e / 12 ∧ e / 12 ≤ tn v then tn g else sG F.1 e, sA F.1)
  else fRef F (-2)
def pLevel (n : Int32) (F : wFS) : Int32 × wFS := if 0 ≤ n ∧ n ≤ 200 then fAcc F 0 (sW F.1, sH F.1, tn n, sS F.1, sF F.1, sG F.1, sA F.1) else fRef F (-1)
def pSpring (x y f : Int32) (F : wFS) : Int32 × wFS :=
  if 0 ≤ f ∧ f ≤ 1000 then (if pclD F.1 x y = true then fAcc F 0 (sW F.1, sH F.1, sL F.1, tn y * 12 + tn x, tn f, sG F.1, sA F.1) else fRef F (-2)) else fRef F (-1)
/-! moving the state -/
theorem zXI.mv {M M' : zMm} {σ : wSP} {pk dk p : Nat} {ks : List Nat} (h : zXI M σ pk dk p) (hs : zsm ks M M') (hk : ∀ k ∈ ks, k = 0 ∨ (3 ≤ k ∧ k < 10)) : zXI M' σ pk dk p := by
  obtain ⟨h1, h2, h3, h4, h5, h6, h7, h8, h9, ⟨S, hS1, hS2⟩, h11, h12⟩ := h
  have e : ∀ {k : Nat}, (k = 1 ∨ k = 2 ∨ 10 ≤ k) → M'.2.1 k = M.2.1 k := fun hk' => hs.2.2 _ (fun z => by have := hk _ z; omega)
  refine ⟨h1.to hs.R, h2, by rw [e (by omega)]; exact h3, by rw [e (by omega)]; exact h4, by rw [e (by omega)]; exact h5, by rw [e (by omega)]; exact h6, by rw [e (by omega)]; exact h7, by rw [e (by omega)]; exact h8, h9.to hs (fun k hk' => by have := hk k hk'; omega), ⟨S, ?_, hS2⟩, fun r hr => ?_, ?_⟩
  · unfold zwt
    rw [e (k := 13) (by omega), e (k := 15) (by omega), e (k := 10) (by omega)]
    exact hS1
  · unfold zys
    rw [hs.R, hs.1, hs.J, e (k := zyi r) (by unfold zyi; omega)]
    exact h11 r hr
  · unfold zLL zlv
    rw [hs.R, hs.1]
    exact h12
theorem zX2.mv {M M' : zMm} {σ σ' : wSP} {pk dk p : Nat} {ks : List Nat} (h : zX2 M σ pk dk p) (hs : zsm ks M M') (hk : ∀ k ∈ ks, k < 10) (hok : wsok σ') (hA : sA σ' = sA σ) (g1 : M'.2.1 1 1 = nI (sW σ')) (g2 : M'.2.1 1 2 = nI (sH σ')) (g3 : M'.2.1 1 3 = nI (sS σ')) (g4 : M'.2.1 1 4 = nI (sF σ')) (g5 : M'.2.1 1 5 = nI (sL σ')) (g6 : ∀ e, e < 120 → M'.2.1 2 e = nI (sG σ' e)) : zX2 M' σ' pk dk p := by
  obtain ⟨h1, h2, h3, h4, h5, h6, h7, h8, h9, ⟨S, hS1, hS2⟩, h11, h12⟩ := h
  have e : ∀ {k : Nat}, 10 ≤ k → M'.2.1 k = M.2.1 k := fun hk' => hs.2.2 _ (fun z => by have := hk _ z; omega)
  refine ⟨h1.to hs.R, hok, g1, g2, g3, g4, g5, g6, by rw [hA]; exact h9.to hs (fun k hk' => by have := hk k hk'; omega), ⟨S, ?_, hS2⟩, ?_, ?_⟩
  · unfold zwt
    rw [e (k := 13) (by omega), e (k := 15) (by omega), e (k := 10) (by omega)]
    exact hS1
  · unfold zYT
    rw [hs.R, hs.1]
    exact h11
  · unfold zLL zlv
    rw [hs.R, hs.1]
    exact h12
theorem zsm.at {M M' : zMm} {ks : List Nat} (hs : zsm ks M M') {k : Nat} (hk : k ∉ ks) : M'.2.1 k = M.2.1 k := hs.2.2 k hk
theorem zEn.to {M M' : zMm} {es : List wEn} (h : zEn M es) (e : ∀ k, 5 ≤ k → k < 10 → M'.2.1 k = M.2.1 k) : zEn M' es := by
  unfold zEn
  rw [e 5 (by decide) (by decide), e 6 (by decide) (by decide), e 7 (by decide) (by decide), e 8 (by decide) (by decide), e 9 (by decide) (by decide)]
  exact h
theorem zTp.to {M M' : zMm} {tp : List Nat} (h : zTp M tp) (e : ∀ k, 3 ≤ k → k < 5 → M'.2.1 k = M.2.1 k) : zTp M' tp := by
  unfold zTp
  rw [e 3 (by decide) (by decide), e 4 (by decide) (by decide)]
  exact h
/-- refuse -/
theorem zXF.refuse {M : zMm} {F : wFS} {pk dk p : Nat} (h : zXF M F pk dk p) (v : Int32) : zXF (zwI M 0 8 v) (fRef F v).2 pk dk p := by
  obtain ⟨h1, h2, h3, h4, h5, h6⟩ := h
  have hs : zsm [0] M (zwI M 0 8 v) := zsm.rf.w (by simp)
  refine ⟨h1.mv hs (by simp), h2.to (fun k a b => hs.at (by simp; omega)), h3, h4.to (fun k a b => hs.at (by simp; omega)), ?_, ?_⟩
  · simp only [zwI_L, zwI_I, zwI_J, zwI_R, zwJ_L, zwJ_I, zwJ_J, zwJ_R, zwR_L, zwR_I, zwR_J, zwR_R, zw2_s, zw2_n, ne_eq, not_false_eq_true, reduceCtorEq, not_true_eq_false, Nat.reduceEqDiff]; rw [zup_n (by decide)]; exact h5
  · simp only [zwI_L, zwI_I, zwI_J, zwI_R, zwJ_L, zwJ_I, zwJ_J, zwJ_R, zwR_L, zwR_I, zwR_J, zwR_R, zw2_s, zw2_n, ne_eq, not_false_eq_true, reduceCtorEq, not_true_eq_false, Nat.reduceEqDiff]; rw [zup_s]; rfl
/-- forget and accept -/
theorem zXF.accept {M1 M2 : zMm} {F : wFS} {σ : wSP} {es : List wEn} {pk dk p : Nat} (h1 : zX2 M1 σ pk dk p) (h2 : zEn M1 es) (h3 : ∀ e ∈ es, wil (sW σ) (sH σ) (wec e)) (h4 : zTp M1 F.2.2.1) (h5 : M1.2.1 0 7 = F.2.2.2.1) (hf : zfg0 M1 M2) (hl : ∀ r, r < 36 → M1.2.2.2 20 r = some (zyi r) → M2.2.1 (zyi r) 1 = -1) : zXF (zwI M2 0 8 0) (σ, es, F.2.2.1, F.2.2.2.1, 0) pk dk p := by
  have hx := h1.forget hf hl
  have hs : zsm [0] M2 (zwI M2 0 8 0) := zsm.rf.w (by simp)
  have e : ∀ k, k < 100 → M2.2.1 k = M1.2.1 k := fun k hk => hf.2.2 k (Or.inl hk)
  refine ⟨hx.mv hs (by simp), (h2.to (fun k a b => e k (by omega))).to (fun k a b => hs.at (by simp; omega)), h3, (h4.to (fun k a b => e k (by omega))).to (fun k a b => hs.at (by simp; omega)), ?_, ?_⟩
  · simp only [zwI_L, zwI_I, zwI_J, zwI_R, zwJ_L, zwJ_I, zwJ_J, zwJ_R, zwR_L, zwR_I, zwR_J, zwR_R, zw2_s, zw2_n, ne_eq, not_false_eq_true, reduceCtorEq, not_true_eq_false, Nat.reduceEqDiff]; rw [zup_n (by decide), e 0 (by decide)]; exact h5
  · simp only [zwI_L, zwI_I, zwI_J, zwI_R, zwJ_L, zwJ_I, zwJ_J, zwJ_R, zwR_L, zwR_I, zwR_J, zwR_R, zw2_s, zw2_n, ne_eq, not_false_eq_true, reduceCtorEq, not_true_eq_false, Nat.reduceEqDiff]; rw [zup_s]
def zc_X7_size (a : List Value) (M : zMm) (K : zKt) : Prop := match a with
  | [.ref k, .int w, .int h] => k = 0 ∧ ∃ F pk dk p, zXF M F pk dk p ∧ ∀ M', zXF M' (pSize w h F).2 pk dk p → K (some (.int (pSize w h F).1)) M'
  | _ => False
set_option maxHeartbeats 1000000 in
theorem zm_X7_size (l : Launch) (D : va_G) (Y : Nat → ClassId) : zMt l D Y yX7_size cX7_size 3 (some .int) 1 23 0 0 zc_X7_size := by
  refine zflat (by decide) (fun K J lc lz => zb_X7_size_0 K J) (fun X hR => zbs_X7_size_0 hR zJ0 zJ0_ok) (fun avs M K h => ?_)
  unfold zc_X7_size at h
  split at h
  · next k w h' =>
    obtain ⟨rfl, F, pk, dk, p, hF, h⟩ := h
    have hF' := hF
    obtain ⟨hxi, hEn, hel, hTp, hft, hst⟩ := hF
    have hx2 := hxi.x2
    obtain ⟨a0, a1, a2, a3, a4, a5, a6, a7, -⟩ := id hxi.1
    have bad : ¬ ((2 ≤ w ∧ w ≤ 12) ∧ 2 ≤ h' ∧ h' ≤ 10) → zb_X7_size_20 K zJ0 M [some (.ref 0), some (.int w), some (.int h')] [] := by
      intro hb
      simp only [zb_X7_size_20, zsh_0, zT_push, zT_bin, zT_div, zT_bil, zT_shl, zT_un, zT_i2l, zT_l2i, zT_lcmp, zT_ild, zT_lld, zT_ald, zT_ist, zT_lst, zT_ast, zT_iinc, zT_dup, zT_dup2, zT_pop, zT_if1, zT_if2, zT_ifn, zT_getI, zT_getJ, zT_getR, zT_putI, zT_putZ, zT_putJ, zT_putR, zT_ald0, zT_lald, zT_aald, zT_iast, zT_zast, zT_bast, zT_last, zT_aast, zT_iret, zT_nret, zT_aret, zT_vret, zT_oi, zT_mm, zT_ialX, zT_S1, zT_S2, zT_S3, zT_V0, zT_V1, zT_V2, zT_V3, zT_V4, zT_V5, zT_V6, zT_I0, zT_I1, zT_I2, zlg, zlset, zlpr, zent, zok, va_rf, List.length_cons, List.length_nil, List.replicate, List.cons_append, List.nil_append, List.append_nil, Option.toList_some, Option.toList_none, Option.toList, Nat.reduceAdd, Nat.reduceSub, Nat.reduceLeDiff, Nat.zero_add, Nat.zero_le, true_and, and_true, Nat.le_refl, ge_iff_le, Nat.reduceEqDiff]
      unfold zc_X7_refuse
      dsimp only
      refine ⟨rfl, ?_⟩
      have h2 := h (zwI M 0 8 (-1))
      unfold pSize at h2
      rw [if_neg hb] at h2
      exact h2 (hF'.refuse _)
    refine ⟨by simp [zent], ?_⟩
    simp only [zb_X7_size_0, zT_push, zT_bin, zT_div, zT_bil, zT_shl, zT_un, zT_i2l, zT_l2i, zT_lcmp, zT_ild, zT_lld, zT_ald, zT_ist, zT_lst, zT_ast, zT_iinc, zT_dup, zT_dup2, zT_pop, zT_if1, zT_if2, zT_ifn, zT_getI, zT_getJ, zT_getR, zT_putI, zT_putZ, zT_putJ, zT_putR, zT_ald0, zT_lald, zT_aald, zT_iast, zT_zast, zT_bast, zT_last, zT_aast, zT_iret, zT_nret, zT_aret, zT_vret, zT_oi, zT_mm, zT_ialX, zT_S1, zT_S2, zT_S3, zT_V0, zT_V1, zT_V2, zT_V3, zT_V4, zT_V5, zT_V6, zT_I0, zT_I1, zT_I2, zlg, zlset, zlpr, zent, zok, va_rf, List.length_cons, List.length_nil, List.replicate, List.cons_append, List.nil_append, List.append_nil, Option.toList_some, Option.toList_none, Option.toList, Nat.reduceAdd, Nat.reduceSub, Nat.reduceLeDiff, Nat.zero_add, Nat.zero_le, true_and, and_true, Nat.le_refl, ge_iff_le, Nat.reduceEqDiff]
    unfold zc_X7_within
    dsimp only
    simp only [zbI_0, zT_push, zT_bin, zT_div, zT_bil, zT_shl, zT_un, zT_i2l, zT_l2i, zT_lcmp, zT_ild, zT_lld, zT_ald, zT_ist, zT_lst, zT_ast, zT_iinc, zT_dup, zT_dup2, zT_pop, zT_if1, zT_if2, zT_ifn, zT_getI, zT_getJ, zT_getR, zT_putI, zT_putZ, zT_putJ, zT_putR, zT_ald0, zT_lald, zT_aald, zT_iast, zT_zast, zT_bast, zT_last, zT_aast, zT_iret, zT_nret, zT_aret, zT_vret, zT_oi, zT_mm, zT_ialX, zT_S1, zT_S2, zT_S3, zT_V0, zT_V1, zT_V2, zT_V3, zT_V4, zT_V5, zT_V6, zT_I0, zT_I1, zT_I2, zlg, zlset, zlpr, zent, zok, va_rf, List.length_cons, List.length_nil, List.replicate, List.cons_append, List.nil_append, List.append_nil, Option.toList_some, Option.toList_none, Option.toList, Nat.reduceAdd, Nat.reduceSub, Nat.reduceLeDiff, Nat.zero_add, Nat.zero_le, true_and, and_true, Nat.le_refl, ge_iff_le, Nat.reduceEqDiff]
    refine ⟨fun h1 => bad (fun z => h1 z.1), fun h1 => ⟨fun h2 => bad (fun z => h2 z.2), fun h2 => ?_⟩⟩
    have c1 := Classical.not_not.mp h1
    have c2 := Classical.not_not.mp h2
    obtain ⟨e1, e2⟩ := tn_nI (x := w) (b := 12) (Int32.le_trans (by decide) c1.1) c1.2 (by decide)
    obtain ⟨e3, e4⟩ := tn_nI (x := h') (b := 10) (Int32.le_trans (by decide) c2.1) c2.2 (by decide)
    have c1' : 2 ≤ tn w := by have := c1.1; rw [e1] at this; exact (nI_leI (a := 2) (by decide) (by omega)).mp this
    have c2' : 2 ≤ tn h' := by have := c2.1; rw [e3] at this; exact (nI_leI (a := 2) (by decide) (by omega)).mp this
    simp only [zsh_0, zsh_1, a0, zT_push, zT_bin, zT_div, zT_bil, zT_shl, zT_un, zT_i2l, zT_l2i, zT_lcmp, zT_ild, zT_lld, zT_ald, zT_ist, zT_lst, zT_ast, zT_iinc, zT_dup, zT_dup2, zT_pop, zT_if1, zT_if2, zT_ifn, zT_getI, zT_getJ, zT_getR, zT_putI, zT_putZ, zT_putJ, zT_putR, zT_ald0, zT_lald, zT_aald, zT_iast, zT_zast, zT_bast, zT_last, zT_aast, zT_iret, zT_nret, zT_aret, zT_vret, zT_oi, zT_mm, zT_ialX, zT_S1, zT_S2, zT_S3, zT_V0, zT_V1, zT_V2, zT_V3, zT_V4, zT_V5, zT_V6, zT_I0, zT_I1, zT_I2, zlg, zlset, zlpr, zent, zok, va_rf, List.length_cons, List.length_nil, List.replicate, List.cons_append, List.nil_append, List.append_nil, Option.toList_some, Option.toList_none, Option.toList, Nat.reduceAdd, Nat.reduceSub, Nat.reduceLeDiff, Nat.zero_add, Nat.zero_le, true_and, and_true, Nat.le_refl, ge_iff_le, Nat.reduceEqDiff]
    unfold zc_X1_layOut
    dsimp only
    refine ⟨rfl, a7, fun M1 hs1 g1 g2 g3 g4 g5 g6 => ?_⟩
    have a2' : M1.2.2.2 0 2 = some 5 := by rw [hs1.R]; exact a2
    simp only [zsh_0, zsh_5, a2', zT_push, zT_bin, zT_div, zT_bil, zT_shl, zT_un, zT_i2l, zT_l2i, zT_lcmp, zT_ild, zT_lld, zT_ald, zT_ist, zT_lst, zT_ast, zT_iinc, zT_dup, zT_dup2, zT_pop, zT_if1, zT_if2, zT_ifn, zT_getI, zT_getJ, zT_getR, zT_putI, zT_putZ, zT_putJ, zT_putR, zT_ald0, zT_lald, zT_aald, zT_iast, zT_zast, zT_bast, zT_last, zT_aast, zT_iret, zT_nret, zT_aret, zT_vret, zT_oi, zT_mm, zT_ialX, zT_S1, zT_S2, zT_S3, zT_V0, zT_V1, zT_V2, zT_V3, zT_V4, zT_V5, zT_V6, zT_I0, zT_I1, zT_I2, zlg, zlset, zlpr, zent, zok, va_rf, List.length_cons, List.length_nil, List.replicate, List.cons_append, List.nil_append, List.append_nil, Option.toList_some, Option.toList_none, Option.toList, Nat.reduceAdd, Nat.reduceSub, Nat.reduceLeDiff, Nat.zero_add, Nat.zero_le, true_and, and_true, Nat.le_refl, ge_iff_le, Nat.reduceEqDiff]
    unfold zc_X7_forgetRuns
    dsimp only
    have hs2 : zsm [1, 2, 5] M (zwI M1 5 4 0) := (hs1.up (by simp)).w (by simp)
    have q := hx2
    obtain ⟨-, ok, w1, w2, w3, w4, w5, -⟩ := q
    obtain ⟨k1, k2, k3, k4, k5, k6, k7, k8, k9⟩ := ok
    have hx3 : zX2 (zwI M1 5 4 0) (tn w, tn h', sL F.1, 0, sF F.1, fun _ => 50, sA F.1) pk dk p := by
      refine hx2.mv hs2 (by simp) ⟨c1', e2, c2', e4, k5, by show 0 < 120; decide, ⟨by show 0 % 12 < tn w; omega, by show 0 / 12 < tn h'; omega⟩, k8, fun e => by show 50 ≤ 200; decide⟩ rfl ?_ ?_ ?_ ?_ ?_ (fun e he => ?_)
      · simp only [zwI_L, zwI_I, zwI_J, zwI_R, zwJ_L, zwJ_I, zwJ_J, zwJ_R, zwR_L, zwR_I, zwR_J, zwR_R, zw2_s, zw2_n, ne_eq, not_false_eq_true, reduceCtorEq, not_true_eq_false, Nat.reduceEqDiff]; rw [g1]; exact e1
      · simp only [zwI_L, zwI_I, zwI_J, zwI_R, zwJ_L, zwJ_I, zwJ_J, zwJ_R, zwR_L, zwR_I, zwR_J, zwR_R, zw2_s, zw2_n, ne_eq, not_false_eq_true, reduceCtorEq, not_true_eq_false, Nat.reduceEqDiff]; rw [g2]; exact e3
      · simp only [zwI_L, zwI_I, zwI_J, zwI_R, zwJ_L, zwJ_I, zwJ_J, zwJ_R, zwR_L, zwR_I, zwR_J, zwR_R, zw2_s, zw2_n, ne_eq, not_false_eq_true, reduceCtorEq, not_true_eq_false, Nat.reduceEqDiff]; rw [g3]; rfl
      · simp only [zwI_L, zwI_I, zwI_J, zwI_R, zwJ_L, zwJ_I, zwJ_J, zwJ_R, zwR_L, zwR_I, zwR_J, zwR_R, zw2_s, zw2_n, ne_eq, not_false_eq_true, reduceCtorEq, not_true_eq_false, Nat.reduceEqDiff]; rw [g4]; exact w4
      · simp only [zwI_L, zwI_I, zwI_J, zwI_R, zwJ_L, zwJ_I, zwJ_J, zwJ_R, zwR_L, zwR_I, zwR_J, zwR_R, zw2_s, zw2_n, ne_eq, not_false_eq_true, reduceCtorEq, not_true_eq_false, Nat.reduceEqDiff]; rw [g5]; exact w5
      · simp only [zwI_L, zwI_I, zwI_J, zwI_R, zwJ_L, zwJ_I, zwJ_J, zwJ_R, zwR_L, zwR_I, zwR_J, zwR_R, zw2_s, zw2_n, ne_eq, not_false_eq_true, reduceCtorEq, not_true_eq_false, Nat.reduceEqDiff]; rw [g6 e he]; rfl
    refine ⟨rfl, by show M1.2.2.2 0 4 = some 20; rw [hs1.R]; exact a4, hx3.2.2.2.2.2.2.2.2.2.2.1, fun M3 hf hl => ?_⟩
    simp only [zsh_0, zT_push, zT_bin, zT_div, zT_bil, zT_shl, zT_un, zT_i2l, zT_l2i, zT_lcmp, zT_ild, zT_lld, zT_ald, zT_ist, zT_lst, zT_ast, zT_iinc, zT_dup, zT_dup2, zT_pop, zT_if1, zT_if2, zT_ifn, zT_getI, zT_getJ, zT_getR, zT_putI, zT_putZ, zT_putJ, zT_putR, zT_ald0, zT_lald, zT_aald, zT_iast, zT_zast, zT_bast, zT_last, zT_aast, zT_iret, zT_nret, zT_aret, zT_vret, zT_oi, zT_mm, zT_ialX, zT_S1, zT_S2, zT_S3, zT_V0, zT_V1, zT_V2, zT_V3, zT_V4, zT_V5, zT_V6, zT_I0, zT_I1, zT_I2, zlg, zlset, zlpr, zent, zok, va_rf, List.length_cons, List.length_nil, List.replicate, List.cons_append, List.nil_append, List.append_nil, Option.toList_some, Option.toList_none, Option.toList, Nat.reduceAdd, Nat.reduceSub, Nat.reduceLeDiff, Nat.zero_add, Nat.zero_le, true_and, and_true, Nat.le_refl, ge_iff_le, Nat.reduceEqDiff]
    unfold zc_X7_accept
    dsimp only
    refine ⟨rfl, ?_⟩
    have h2 := h (zwI M3 0 8 0)
    unfold pSize at h2
    rw [if_pos ⟨c1, c2⟩] at h2
    refine h2 (zXF.accept (F := F) hx3 ⟨?_, by decide, fun i e hi => by simp at hi⟩ (fun e he => absurd he List.not_mem_nil) (hTp.to (fun k a b => hs2.at (by simp; omega))) (by rw [hs2.at (by simp)]; exact hft) hf hl)
    simp only [zwI_L, zwI_I, zwI_J, zwI_R, zwJ_L, zwJ_I, zwJ_J, zwJ_R, zwR_L, zwR_I, zwR_J, zwR_R, zw2_s, zw2_n, ne_eq, not_false_eq_true, reduceCtorEq, not_true_eq_false, Nat.reduceEqDiff]
    rw [zup_s]
    rfl
  · exact h.elim
def zc_X7_level (a : List Value) (M : zMm) (K : zKt) : Prop := match a with
  | [.ref k, .int n] => k = 0 ∧ ∃ F pk dk p, zXF M F pk dk p ∧ ∀ M', zXF M' (pLevel n F).2 pk dk p → K (some (.int (pLevel n F).1)) M'
  | _ => False
theorem zm_X7_level (l : Launch) (D : va_G) (Y : Nat → ClassId) : zMt l D Y yX7_level cX7_level 2 (some .int) 1 22 0 0 zc_X7_level := by
  refine zflat (by decide) (fun K J lc lz => zb_X7_level_0 K J) (fun X hR => zbs_X7_level_0 hR zJ0 zJ0_ok) (fun avs M K h => ?_)
  unfold zc_X7_level at h
  split at h
  · next k n =>
    obtain ⟨rfl, F, pk, dk, p, hF, h⟩ := h
    have hF' := hF
    obtain ⟨hxi, hEn, hel, hTp, hft, hst⟩ := hF
    have hx2 := hxi.x2
    obtain ⟨a0, a1, a2, a3, a4, a5, a6, a7, -⟩ := id hxi.1
    refine ⟨by simp [zent], ?_⟩
    simp only [zb_X7_level_0, zT_push, zT_bin, zT_div, zT_bil, zT_shl, zT_un, zT_i2l, zT_l2i, zT_lcmp, zT_ild, zT_lld, zT_ald, zT_ist, zT_lst, zT_ast, zT_iinc, zT_dup, zT_dup2, zT_pop, zT_if1, zT_if2, zT_ifn, zT_getI, zT_getJ, zT_getR, zT_putI, zT_putZ, zT_putJ, zT_putR, zT_ald0, zT_lald, zT_aald, zT_iast, zT_zast, zT_bast, zT_last, zT_aast, zT_iret, zT_nret, zT_aret, zT_vret, zT_oi, zT_mm, zT_ialX, zT_S1, zT_S2, zT_S3, zT_V0, zT_V1, zT_V2, zT_V3, zT_V4, zT_V5, zT_V6, zT_I0, zT_I1, zT_I2, zlg, zlset, zlpr, zent, zok, va_rf, List.length_cons, List.length_nil, List.replicate, List.cons_append, List.nil_append, List.append_nil, Option.toList_some, Option.toList_none, Option.toList, Nat.reduceAdd, Nat.reduceSub, Nat.reduceLeDiff, Nat.zero_add, Nat.zero_le, true_and, and_true, Nat.le_refl, ge_iff_le, Nat.reduceEqDiff]
    unfold zc_X7_within
    dsimp only
    simp only [zbI_0, zsh_0, zsh_1, a0, zT_push, zT_bin, zT_div, zT_bil, zT_shl, zT_un, zT_i2l, zT_l2i, zT_lcmp, zT_ild, zT_lld, zT_ald, zT_ist, zT_lst, zT_ast, zT_iinc, zT_dup, zT_dup2, zT_pop, zT_if1, zT_if2, zT_ifn, zT_getI, zT_getJ, zT_getR, zT_putI, zT_putZ, zT_putJ, zT_putR, zT_ald0, zT_lald, zT_aald, zT_iast, zT_zast, zT_bast, zT_last, zT_aast, zT_iret, zT_nret, zT_aret, zT_vret, zT_oi, zT_mm, zT_ialX, zT_S1, zT_S2, zT_S3, zT_V0, zT_V1, zT_V2, zT_V3, zT_V4, zT_V5, zT_V6, zT_I0, zT_I1, zT_I2, zlg, zlset, zlpr, zent, zok, va_rf, List.length_cons, List.length_nil, List.replicate, List.cons_append, List.nil_append, List.append_nil, Option.toList_some, Option.toList_none, Option.toList, Nat.reduceAdd, Nat.reduceSub, Nat.reduceLeDiff, Nat.zero_add, Nat.zero_le, true_and, and_true, Nat.le_refl, ge_iff_le, Nat.reduceEqDiff]
    refine ⟨fun h1 => ?_, fun h1 => ?_⟩
    · unfold zc_X7_refuse
      dsimp only
      refine ⟨rfl, ?_⟩
      have h2 := h (zwI M 0 8 (-1))
      unfold pLevel at h2
      rw [if_neg h1] at h2
      exact h2 (hF'.refuse _)
    · have c1 := Classical.not_not.mp h1
      obtain ⟨e1, e2⟩ := tn_nI (x := n) (b := 200) c1.1 c1.2 (by decide)
      have q := hx2
      obtain ⟨-, ok, w1, w2, w3, w4, w5, w6, -⟩ := q
      obtain ⟨k1, k2, k3, k4, k5, k6, k7, k8, k9⟩ := ok
      have hs2 : zsm [1] M (zwI M 1 5 n) := zsm.rf.w (by simp)
      have hx3 : zX2 (zwI M 1 5 n) (sW F.1, sH F.1, tn n, sS F.1, sF F.1, sG F.1, sA F.1) pk dk p := by
        refine hx2.mv hs2 (by simp) ⟨k1, k2, k3, k4, e2, k6, k7, k8, k9⟩ rfl ?_ ?_ ?_ ?_ ?_ (fun e he => ?_)
        · simp only [zwI_L, zwI_I, zwI_J, zwI_R, zwJ_L, zwJ_I, zwJ_J, zwJ_R, zwR_L, zwR_I, zwR_J, zwR_R, zw2_s, zw2_n, ne_eq, not_false_eq_true, reduceCtorEq, not_true_eq_false, Nat.reduceEqDiff]; rw [zup_n (by decide)]; exact w1
        · simp only [zwI_L, zwI_I, zwI_J, zwI_R, zwJ_L, zwJ_I, zwJ_J, zwJ_R, zwR_L, zwR_I, zwR_J, zwR_R, zw2_s, zw2_n, ne_eq, not_false_eq_true, reduceCtorEq, not_true_eq_false, Nat.reduceEqDiff]; rw [zup_n (by decide)]; exact w2
        · simp only [zwI_L, zwI_I, zwI_J, zwI_R, zwJ_L, zwJ_I, zwJ_J, zwJ_R, zwR_L, zwR_I, zwR_J, zwR_R, zw2_s, zw2_n, ne_eq, not_false_eq_true, reduceCtorEq, not_true_eq_false, Nat.reduceEqDiff]; rw [zup_n (by decide)]; exact w3
        · simp only [zwI_L, zwI_I, zwI_J, zwI_R, zwJ_L, zwJ_I, zwJ_J, zwJ_R, zwR_L, zwR_I, zwR_J, zwR_R, zw2_s, zw2_n, ne_eq, not_false_eq_true, reduceCtorEq, not_true_eq_false, Nat.reduceEqDiff]; rw [zup_n (by decide)]; exact w4
        · simp only [zwI_L, zwI_I, zwI_J, zwI_R, zwJ_L, zwJ_I, zwJ_J, zwJ_R, zwR_L, zwR_I, zwR_J, zwR_R, zw2_s, zw2_n, ne_eq, not_false_eq_true, reduceCtorEq, not_true_eq_false, Nat.reduceEqDiff]; rw [zup_s]; exact e1
        · simp only [zwI_L, zwI_I, zwI_J, zwI_R, zwJ_L, zwJ_I, zwJ_J, zwJ_R, zwR_L, zwR_I, zwR_J, zwR_R, zw2_s, zw2_n, ne_eq, not_false_eq_true, reduceCtorEq, not_true_eq_false, Nat.reduceEqDiff]; exact w6 e he
      unfold zc_X7_forgetRuns
      dsimp only
      refine ⟨rfl, a4, hx3.2.2.2.2.2.2.2.2.2.2.1, fun M3 hf hl => ?_⟩
      simp only [zsh_0, zT_push, zT_bin, zT_div, zT_bil, zT_shl, zT_un, zT_i2l, zT_l2i, zT_lcmp, zT_ild, zT_lld, zT_ald, zT_ist, zT_lst, zT_ast, zT_iinc, zT_dup, zT_dup2, zT_pop, zT_if1, zT_if2, zT_ifn, zT_getI, zT_getJ, zT_getR, zT_putI, zT_putZ, zT_putJ, zT_putR, zT_ald0, zT_lald, zT_aald, zT_iast, zT_zast, zT_bast, zT_last, zT_aast, zT_iret, zT_nret, zT_aret, zT_vret, zT_oi, zT_mm, zT_ialX, zT_S1, zT_S2, zT_S3, zT_V0, zT_V1, zT_V2, zT_V3, zT_V4, zT_V5, zT_V6, zT_I0, zT_I1, zT_I2, zlg, zlset, zlpr, zent, zok, va_rf, List.length_cons, List.length_nil, List.replicate, List.cons_append, List.nil_append, List.append_nil, Option.toList_some, Option.toList_none, Option.toList, Nat.reduceAdd, Nat.reduceSub, Nat.reduceLeDiff, Nat.zero_add, Nat.zero_le, true_and, and_true, Nat.le_refl, ge_iff_le, Nat.reduceEqDiff]
      unfold zc_X7_accept
      dsimp only
      refine ⟨rfl, ?_⟩
      have h2 := h (zwI M3 0 8 0)
      unfold pLevel at h2
      rw [if_pos c1] at h2
      exact h2 (zXF.accept (F := F) hx3 (hEn.to (fun k a b => hs2.at (by simp; omega))) hel (hTp.to (fun k a b => hs2.at (by simp; omega))) (by rw [hs2.at (by simp)]; exact hft) hf hl)
  · exact h.elim
