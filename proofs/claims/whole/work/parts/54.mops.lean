/-! DeltaRunsModel level -/
theorem zd_X8_level_0 : decode cX8_level 0 = .ok (.aload_n 0, 1) := by decide +kernel
theorem zd_X8_level_1 : decode cX8_level 1 = .ok (.iconst 0, 1) := by decide +kernel
theorem zd_X8_level_2 : decode cX8_level 2 = .ok (.putfield 93, 3) := by decide +kernel
theorem zd_X8_level_5 : decode cX8_level 5 = .ok (.iload_n 1, 1) := by decide +kernel
theorem zd_X8_level_6 : decode cX8_level 6 = .ok (.i2l, 1) := by decide +kernel
theorem zd_X8_level_7 : decode cX8_level 7 = .ok (.lconst 0, 1) := by decide +kernel
theorem zd_X8_level_8 : decode cX8_level 8 = .ok (.ldc2_w 119, 3) := by decide +kernel
theorem zd_X8_level_11 : decode cX8_level 11 = .ok (.invokestatic 105, 3) := by decide +kernel
theorem zd_X8_level_14 : decode cX8_level 14 = .ok (.ifCond .ne 9, 3) := by decide +kernel
theorem zd_X8_level_17 : decode cX8_level 17 = .ok (.aload_n 0, 1) := by decide +kernel
theorem zd_X8_level_18 : decode cX8_level 18 = .ok (.iconst (-1), 1) := by decide +kernel
theorem zd_X8_level_19 : decode cX8_level 19 = .ok (.invokevirtual 115, 3) := by decide +kernel
theorem zd_X8_level_22 : decode cX8_level 22 = .ok (.ireturn, 1) := by decide +kernel
theorem zd_X8_level_23 : decode cX8_level 23 = .ok (.aload_n 0, 1) := by decide +kernel
theorem zd_X8_level_24 : decode cX8_level 24 = .ok (.iload_n 1, 1) := by decide +kernel
theorem zd_X8_level_25 : decode cX8_level 25 = .ok (.putfield 16, 3) := by decide +kernel
theorem zd_X8_level_28 : decode cX8_level 28 = .ok (.aload_n 0, 1) := by decide +kernel
theorem zd_X8_level_29 : decode cX8_level 29 = .ok (.iconst 0, 1) := by decide +kernel
theorem zd_X8_level_30 : decode cX8_level 30 = .ok (.invokevirtual 115, 3) := by decide +kernel
theorem zd_X8_level_33 : decode cX8_level 33 = .ok (.ireturn, 1) := by decide +kernel
def zb_X8_level_0 (K : zKt) (J : Nat → zPP) : zPP := zT_ald 0 (zT_push (.int 0) (zT_putI 8 0 38 (zT_ild 1 (zT_i2l (zT_push (.long 0) (zT_push (.long 200) (zT_S3 zok zc_X8_in (zT_if1 (fun x => x = 0) (zT_ald 0 (zT_push (.int (-1)) (zT_V1 zok 8 38 zc_X8_told (zT_iret K)))) (zT_ald 0 (zT_ild 1 (zT_putI 8 4 38 (zT_ald 0 (zT_push (.int 0) (zT_V1 zok 8 38 zc_X8_told (zT_iret K)))))))))))))))
theorem zbs_X8_level_0 {X : zCt} (hR : zRX X = { frames := 1, cells := 0, slots := 0, locals := 25 }) (J : Nat → zPP) (hJ : ∀ h ∈ ([] : List Nat), zSd X RX8 "level" cX8_level 2 (some .int) h (J h)) : zSd X RX8 "level" cX8_level 2 (some .int) 0 (zb_X8_level_0 (zKX X) J) := zs_aload_n zd_X8_level_0 rfl (zs_iconst zd_X8_level_1 (by decide) (zs_putI (ci := 8) (j := 0) (T := TX8) rfl inX8 tyX8_ok nmX8 (by decide) gw_3_89 rfl rfl rfl zd_X8_level_2 (zs_iload_n zd_X8_level_5 rfl (zs_i2l zd_X8_level_6 (zs_lconst zd_X8_level_7 (by decide) (zs_ldc2 zd_X8_level_8 gw_3_222 (zs_S (zm_X8_in _ _ _) gw_3_212 gw_3_210 gw_3_211 gw_1_7 zdn_X8_in (zrm hR (by decide) (by decide)) zd_X8_level_11 (zCl_S3 zok_l) (zs_if_ne (tgt := 23) zd_X8_level_14 (by decide) (zs_aload_n zd_X8_level_23 rfl (zs_iload_n zd_X8_level_24 rfl (zs_putI (ci := 8) (j := 4) (T := TX8) rfl inX8 tyX8_ok nmX8 (by decide) gw_3_93 rfl rfl rfl zd_X8_level_25 (zs_aload_n zd_X8_level_28 rfl (zs_iconst zd_X8_level_29 (by decide) (zs_V (ci := 8) rfl rfl (zm_X8_told _ _ _) gw_3_217 gw_3_214 gw_3_216 gw_0_23 gw_1_7 zdn_X8_told (zrm hR (by decide) (by decide)) zd_X8_level_30 (zCl_V1 zok_l) (zs_iret rfl zd_X8_level_33))))))) (zs_aload_n zd_X8_level_17 rfl (zs_iconst zd_X8_level_18 (by decide) (zs_V (ci := 8) rfl rfl (zm_X8_told _ _ _) gw_3_217 gw_3_214 gw_3_216 gw_0_23 gw_1_7 zdn_X8_told (zrm hR (by decide) (by decide)) zd_X8_level_19 (zCl_V1 zok_l) (zs_iret rfl zd_X8_level_22))))))))))))
theorem zdn_X8_level : yX8_level.cls ≠ "java/lang/invoke/MethodHandle" ∧ yX8_level.cls ≠ "java/lang/invoke/VarHandle" ∧ (parseMethodDescriptor yX8_level.desc).map (fun d => d.parameters.length) = some 1 := by decide +kernel
/-! DeltaRunsModel status -/
theorem zd_X8_status_0 : decode cX8_status 0 = .ok (.aload_n 0, 1) := by decide +kernel
theorem zd_X8_status_1 : decode cX8_status 1 = .ok (.iconst 0, 1) := by decide +kernel
theorem zd_X8_status_2 : decode cX8_status 2 = .ok (.putfield 93, 3) := by decide +kernel
theorem zd_X8_status_5 : decode cX8_status 5 = .ok (.aload_n 0, 1) := by decide +kernel
theorem zd_X8_status_6 : decode cX8_status 6 = .ok (.getfield 96, 3) := by decide +kernel
theorem zd_X8_status_9 : decode cX8_status 9 = .ok (.ireturn, 1) := by decide +kernel
def zb_X8_status_0 (K : zKt) (J : Nat → zPP) : zPP := zT_ald 0 (zT_push (.int 0) (zT_putI 8 0 38 (zT_ald 0 (zT_getI 8 1 38 (zT_iret K)))))
theorem zbs_X8_status_0 {X : zCt} (hR : zRX X = { frames := 0, cells := 0, slots := 0, locals := 0 }) (J : Nat → zPP) (hJ : ∀ h ∈ ([] : List Nat), zSd X RX8 "status" cX8_status 1 (some .int) h (J h)) : zSd X RX8 "status" cX8_status 1 (some .int) 0 (zb_X8_status_0 (zKX X) J) := zs_aload_n zd_X8_status_0 rfl (zs_iconst zd_X8_status_1 (by decide) (zs_putI (ci := 8) (j := 0) (T := TX8) rfl inX8 tyX8_ok nmX8 (by decide) gw_3_89 rfl rfl rfl zd_X8_status_2 (zs_aload_n zd_X8_status_5 rfl (zs_getI (ci := 8) (j := 1) (T := TX8) rfl inX8 (by decide) gw_3_90 rfl zd_X8_status_6 (zs_iret rfl zd_X8_status_9)))))
theorem zdn_X8_status : yX8_status.cls ≠ "java/lang/invoke/MethodHandle" ∧ yX8_status.cls ≠ "java/lang/invoke/VarHandle" ∧ (parseMethodDescriptor yX8_status.desc).map (fun d => d.parameters.length) = some 0 := by decide +kernel
/-! DeltaRunsModel fault -/
theorem zd_X8_fault_0 : decode cX8_fault 0 = .ok (.aload_n 0, 1) := by decide +kernel
theorem zd_X8_fault_1 : decode cX8_fault 1 = .ok (.iconst 0, 1) := by decide +kernel
theorem zd_X8_fault_2 : decode cX8_fault 2 = .ok (.putfield 93, 3) := by decide +kernel
theorem zd_X8_fault_5 : decode cX8_fault 5 = .ok (.aload_n 0, 1) := by decide +kernel
theorem zd_X8_fault_6 : decode cX8_fault 6 = .ok (.getfield 47, 3) := by decide +kernel
theorem zd_X8_fault_9 : decode cX8_fault 9 = .ok (.ireturn, 1) := by decide +kernel
def zb_X8_fault_0 (K : zKt) (J : Nat → zPP) : zPP := zT_ald 0 (zT_push (.int 0) (zT_putI 8 0 38 (zT_ald 0 (zT_getI 8 22 38 (zT_iret K)))))
theorem zbs_X8_fault_0 {X : zCt} (hR : zRX X = { frames := 0, cells := 0, slots := 0, locals := 0 }) (J : Nat → zPP) (hJ : ∀ h ∈ ([] : List Nat), zSd X RX8 "fault" cX8_fault 1 (some .int) h (J h)) : zSd X RX8 "fault" cX8_fault 1 (some .int) 0 (zb_X8_fault_0 (zKX X) J) := zs_aload_n zd_X8_fault_0 rfl (zs_iconst zd_X8_fault_1 (by decide) (zs_putI (ci := 8) (j := 0) (T := TX8) rfl inX8 tyX8_ok nmX8 (by decide) gw_3_89 rfl rfl rfl zd_X8_fault_2 (zs_aload_n zd_X8_fault_5 rfl (zs_getI (ci := 8) (j := 22) (T := TX8) rfl inX8 (by decide) gw_3_111 rfl zd_X8_fault_6 (zs_iret rfl zd_X8_fault_9)))))
theorem zdn_X8_fault : yX8_fault.cls ≠ "java/lang/invoke/MethodHandle" ∧ yX8_fault.cls ≠ "java/lang/invoke/VarHandle" ∧ (parseMethodDescriptor yX8_fault.desc).map (fun d => d.parameters.length) = some 0 := by decide +kernel
/-! DeltaRunsModel end -/
theorem zd_X8_end_0 : decode cX8_end 0 = .ok (.aload_n 0, 1) := by decide +kernel
theorem zd_X8_end_1 : decode cX8_end 1 = .ok (.iconst 0, 1) := by decide +kernel
theorem zd_X8_end_2 : decode cX8_end 2 = .ok (.putfield 93, 3) := by decide +kernel
theorem zd_X8_end_5 : decode cX8_end 5 = .ok (.iload_n 1, 1) := by decide +kernel
theorem zd_X8_end_6 : decode cX8_end 6 = .ok (.ifCond .lt 11, 3) := by decide +kernel
theorem zd_X8_end_9 : decode cX8_end 9 = .ok (.iload_n 1, 1) := by decide +kernel
theorem zd_X8_end_10 : decode cX8_end 10 = .ok (.aload_n 0, 1) := by decide +kernel
theorem zd_X8_end_11 : decode cX8_end 11 = .ok (.getfield 127, 3) := by decide +kernel
theorem zd_X8_end_14 : decode cX8_end 14 = .ok (.if_icmp .le 5, 3) := by decide +kernel
theorem zd_X8_end_17 : decode cX8_end 17 = .ok (.iconst (-1), 1) := by decide +kernel
theorem zd_X8_end_18 : decode cX8_end 18 = .ok (.ireturn, 1) := by decide +kernel
theorem zd_X8_end_19 : decode cX8_end 19 = .ok (.aload_n 0, 1) := by decide +kernel
theorem zd_X8_end_20 : decode cX8_end 20 = .ok (.iload_n 1, 1) := by decide +kernel
theorem zd_X8_end_21 : decode cX8_end 21 = .ok (.putfield 127, 3) := by decide +kernel
theorem zd_X8_end_24 : decode cX8_end 24 = .ok (.iload_n 1, 1) := by decide +kernel
theorem zd_X8_end_25 : decode cX8_end 25 = .ok (.ireturn, 1) := by decide +kernel
def zb_X8_end_17 (K : zKt) (J : Nat → zPP) : zPP := zT_push (.int (-1)) (zT_iret K)
theorem zbs_X8_end_17 {X : zCt} (hR : zRX X = { frames := 0, cells := 0, slots := 0, locals := 0 }) (J : Nat → zPP) (hJ : ∀ h ∈ ([] : List Nat), zSd X RX8 "end" cX8_end 2 (some .int) h (J h)) : zSd X RX8 "end" cX8_end 2 (some .int) 17 (zb_X8_end_17 (zKX X) J) := zs_iconst zd_X8_end_17 (by decide) (zs_iret rfl zd_X8_end_18)
def zb_X8_end_0 (K : zKt) (J : Nat → zPP) : zPP := zT_ald 0 (zT_push (.int 0) (zT_putI 8 0 38 (zT_ild 1 (zT_if1 (fun x => x < 0) (zb_X8_end_17 K J) (zT_ild 1 (zT_ald 0 (zT_getI 8 17 38 (zT_if2 (fun x y => x ≤ y) (zT_ald 0 (zT_ild 1 (zT_putI 8 17 38 (zT_ild 1 (zT_iret K))))) (zb_X8_end_17 K J)))))))))
theorem zbs_X8_end_0 {X : zCt} (hR : zRX X = { frames := 0, cells := 0, slots := 0, locals := 0 }) (J : Nat → zPP) (hJ : ∀ h ∈ ([] : List Nat), zSd X RX8 "end" cX8_end 2 (some .int) h (J h)) : zSd X RX8 "end" cX8_end 2 (some .int) 0 (zb_X8_end_0 (zKX X) J) := zs_aload_n zd_X8_end_0 rfl (zs_iconst zd_X8_end_1 (by decide) (zs_putI (ci := 8) (j := 0) (T := TX8) rfl inX8 tyX8_ok nmX8 (by decide) gw_3_89 rfl rfl rfl zd_X8_end_2 (zs_iload_n zd_X8_end_5 rfl (zs_if_lt (tgt := 17) zd_X8_end_6 (by decide) (zbs_X8_end_17 hR J hJ) (zs_iload_n zd_X8_end_9 rfl (zs_aload_n zd_X8_end_10 rfl (zs_getI (ci := 8) (j := 17) (T := TX8) rfl inX8 (by decide) gw_3_106 rfl zd_X8_end_11 (zs_icmp_le (tgt := 19) zd_X8_end_14 (by decide) (zs_aload_n zd_X8_end_19 rfl (zs_iload_n zd_X8_end_20 rfl (zs_putI (ci := 8) (j := 17) (T := TX8) rfl inX8 tyX8_ok nmX8 (by decide) gw_3_106 rfl rfl rfl zd_X8_end_21 (zs_iload_n zd_X8_end_24 rfl (zs_iret rfl zd_X8_end_25))))) (zbs_X8_end_17 hR J hJ)))))))))
theorem zdn_X8_end : yX8_end.cls ≠ "java/lang/invoke/MethodHandle" ∧ yX8_end.cls ≠ "java/lang/invoke/VarHandle" ∧ (parseMethodDescriptor yX8_end.desc).map (fun d => d.parameters.length) = some 1 := by decide +kernel
/-! DeltaRunsModel size -/
theorem zd_X8_size_0 : decode cX8_size 0 = .ok (.aload_n 0, 1) := by decide +kernel
theorem zd_X8_size_1 : decode cX8_size 1 = .ok (.iconst 0, 1) := by decide +kernel
theorem zd_X8_size_2 : decode cX8_size 2 = .ok (.putfield 93, 3) := by decide +kernel
theorem zd_X8_size_5 : decode cX8_size 5 = .ok (.iload_n 1, 1) := by decide +kernel
theorem zd_X8_size_6 : decode cX8_size 6 = .ok (.i2l, 1) := by decide +kernel
theorem zd_X8_size_7 : decode cX8_size 7 = .ok (.ldc2_w 109, 3) := by decide +kernel
theorem zd_X8_size_10 : decode cX8_size 10 = .ok (.ldc2_w 111, 3) := by decide +kernel
theorem zd_X8_size_13 : decode cX8_size 13 = .ok (.invokestatic 105, 3) := by decide +kernel
theorem zd_X8_size_16 : decode cX8_size 16 = .ok (.ifCond .eq 17, 3) := by decide +kernel
theorem zd_X8_size_19 : decode cX8_size 19 = .ok (.iload_n 2, 1) := by decide +kernel
theorem zd_X8_size_20 : decode cX8_size 20 = .ok (.i2l, 1) := by decide +kernel
theorem zd_X8_size_21 : decode cX8_size 21 = .ok (.ldc2_w 109, 3) := by decide +kernel
theorem zd_X8_size_24 : decode cX8_size 24 = .ok (.ldc2_w 113, 3) := by decide +kernel
theorem zd_X8_size_27 : decode cX8_size 27 = .ok (.invokestatic 105, 3) := by decide +kernel
theorem zd_X8_size_30 : decode cX8_size 30 = .ok (.ifCond .ne 9, 3) := by decide +kernel
theorem zd_X8_size_33 : decode cX8_size 33 = .ok (.aload_n 0, 1) := by decide +kernel
theorem zd_X8_size_34 : decode cX8_size 34 = .ok (.iconst (-1), 1) := by decide +kernel
theorem zd_X8_size_35 : decode cX8_size 35 = .ok (.invokevirtual 115, 3) := by decide +kernel
theorem zd_X8_size_38 : decode cX8_size 38 = .ok (.ireturn, 1) := by decide +kernel
theorem zd_X8_size_39 : decode cX8_size 39 = .ok (.aload_n 0, 1) := by decide +kernel
theorem zd_X8_size_40 : decode cX8_size 40 = .ok (.iload_n 1, 1) := by decide +kernel
theorem zd_X8_size_41 : decode cX8_size 41 = .ok (.putfield 7, 3) := by decide +kernel
theorem zd_X8_size_44 : decode cX8_size 44 = .ok (.aload_n 0, 1) := by decide +kernel
theorem zd_X8_size_45 : decode cX8_size 45 = .ok (.iload_n 2, 1) := by decide +kernel
theorem zd_X8_size_46 : decode cX8_size 46 = .ok (.putfield 13, 3) := by decide +kernel
theorem zd_X8_size_49 : decode cX8_size 49 = .ok (.aload_n 0, 1) := by decide +kernel
theorem zd_X8_size_50 : decode cX8_size 50 = .ok (.invokevirtual 90, 3) := by decide +kernel
theorem zd_X8_size_53 : decode cX8_size 53 = .ok (.aload_n 0, 1) := by decide +kernel
theorem zd_X8_size_54 : decode cX8_size 54 = .ok (.iconst 0, 1) := by decide +kernel
theorem zd_X8_size_55 : decode cX8_size 55 = .ok (.invokevirtual 115, 3) := by decide +kernel
theorem zd_X8_size_58 : decode cX8_size 58 = .ok (.ireturn, 1) := by decide +kernel
def zb_X8_size_33 (K : zKt) (J : Nat → zPP) : zPP := zT_ald 0 (zT_push (.int (-1)) (zT_V1 zok 8 38 zc_X8_told (zT_iret K)))
theorem zbs_X8_size_33 {X : zCt} (hR : zRX X = { frames := 1, cells := 0, slots := 0, locals := 25 }) (J : Nat → zPP) (hJ : ∀ h ∈ ([] : List Nat), zSd X RX8 "size" cX8_size 3 (some .int) h (J h)) : zSd X RX8 "size" cX8_size 3 (some .int) 33 (zb_X8_size_33 (zKX X) J) := zs_aload_n zd_X8_size_33 rfl (zs_iconst zd_X8_size_34 (by decide) (zs_V (ci := 8) rfl rfl (zm_X8_told _ _ _) gw_3_217 gw_3_214 gw_3_216 gw_0_23 gw_1_7 zdn_X8_told (zrm hR (by decide) (by decide)) zd_X8_size_35 (zCl_V1 zok_l) (zs_iret rfl zd_X8_size_38)))
def zb_X8_size_0 (K : zKt) (J : Nat → zPP) : zPP := zT_ald 0 (zT_push (.int 0) (zT_putI 8 0 38 (zT_ild 1 (zT_i2l (zT_push (.long 2) (zT_push (.long 12) (zT_S3 zok zc_X8_in (zT_if1 (fun x => x = 0) (zb_X8_size_33 K J) (zT_ild 2 (zT_i2l (zT_push (.long 2) (zT_push (.long 10) (zT_S3 zok zc_X8_in (zT_if1 (fun x => x = 0) (zb_X8_size_33 K J) (zT_ald 0 (zT_ild 1 (zT_putI 8 2 38 (zT_ald 0 (zT_ild 2 (zT_putI 8 3 38 (zT_ald 0 (zT_V0 zok 8 38 zc_X8_flat (zT_ald 0 (zT_push (.int 0) (zT_V1 zok 8 38 zc_X8_told (zT_iret K))))))))))))))))))))))))))
theorem zbs_X8_size_0 {X : zCt} (hR : zRX X = { frames := 1, cells := 0, slots := 0, locals := 25 }) (J : Nat → zPP) (hJ : ∀ h ∈ ([] : List Nat), zSd X RX8 "size" cX8_size 3 (some .int) h (J h)) : zSd X RX8 "size" cX8_size 3 (some .int) 0 (zb_X8_size_0 (zKX X) J) := zs_aload_n zd_X8_size_0 rfl (zs_iconst zd_X8_size_1 (by decide) (zs_putI (ci := 8) (j := 0) (T := TX8) rfl inX8 tyX8_ok nmX8 (by decide) gw_3_89 rfl rfl rfl zd_X8_size_2 (zs_iload_n zd_X8_size_5 rfl (zs_i2l zd_X8_size_6 (zs_ldc2 zd_X8_size_7 gw_3_208 (zs_ldc2 zd_X8_size_10 gw_3_209 (zs_S (zm_X8_in _ _ _) gw_3_212 gw_3_210 gw_3_211 gw_1_7 zdn_X8_in (zrm hR (by decide) (by decide)) zd_X8_size_13 (zCl_S3 zok_l) (zs_if_eq (tgt := 33) zd_X8_size_16 (by decide) (zbs_X8_size_33 hR J hJ) (zs_iload_n zd_X8_size_19 rfl (zs_i2l zd_X8_size_20 (zs_ldc2 zd_X8_size_21 gw_3_208 (zs_ldc2 zd_X8_size_24 gw_3_213 (zs_S (zm_X8_in _ _ _) gw_3_212 gw_3_210 gw_3_211 gw_1_7 zdn_X8_in (zrm hR (by decide) (by decide)) zd_X8_size_27 (zCl_S3 zok_l) (zs_if_ne (tgt := 39) zd_X8_size_30 (by decide) (zs_aload_n zd_X8_size_39 rfl (zs_iload_n zd_X8_size_40 rfl (zs_putI (ci := 8) (j := 2) (T := TX8) rfl inX8 tyX8_ok nmX8 (by decide) gw_3_91 rfl rfl rfl zd_X8_size_41 (zs_aload_n zd_X8_size_44 rfl (zs_iload_n zd_X8_size_45 rfl (zs_putI (ci := 8) (j := 3) (T := TX8) rfl inX8 tyX8_ok nmX8 (by decide) gw_3_92 rfl rfl rfl zd_X8_size_46 (zs_aload_n zd_X8_size_49 rfl (zs_V (ci := 8) rfl rfl (zm_X8_flat _ _ _) gw_3_88 gw_3_85 gw_3_87 gw_0_22 gw_1_7 zdn_X8_flat (zrm hR (by decide) (by decide)) zd_X8_size_50 (zCl_V0 zok_l) (zs_aload_n zd_X8_size_53 rfl (zs_iconst zd_X8_size_54 (by decide) (zs_V (ci := 8) rfl rfl (zm_X8_told _ _ _) gw_3_217 gw_3_214 gw_3_216 gw_0_23 gw_1_7 zdn_X8_told (zrm hR (by decide) (by decide)) zd_X8_size_55 (zCl_V1 zok_l) (zs_iret rfl zd_X8_size_58)))))))))))) (zbs_X8_size_33 hR J hJ)))))))))))))))
theorem zdn_X8_size : yX8_size.cls ≠ "java/lang/invoke/MethodHandle" ∧ yX8_size.cls ≠ "java/lang/invoke/VarHandle" ∧ (parseMethodDescriptor yX8_size.desc).map (fun d => d.parameters.length) = some 2 := by decide +kernel
theorem zMF.to {M M' : zMm} {F : wFS} (h : zMF M F) (hR : M'.2.2.2 = M.2.2.2) (h0 : ∀ j, (1 ≤ j ∧ j ≤ 6) ∨ j = 8 ∨ j = 17 ∨ j = 22 ∨ j = 31 → M'.2.1 200 j = M.2.1 200 j) (hI : ∀ k, (201 ≤ k ∧ k ≤ 206) ∨ k = 208 ∨ (216 ≤ k ∧ k ≤ 219) → M'.2.1 k = M.2.1 k) : zMF M' F := by
  obtain ⟨h1, h2, h3, h4, h5, h6⟩ := h
  refine ⟨?_, ?_, ?_, ?_, ?_, ?_⟩
  · unfold zMr; rw [hR]; exact h1
  · unfold zMS
    rw [h0 2 (by omega), h0 3 (by omega), h0 4 (by omega), h0 5 (by omega), h0 6 (by omega), h0 8 (by omega), hI 201 (by omega), hI 202 (by omega), hI 203 (by omega), hI 204 (by omega), hI 205 (by omega), hI 206 (by omega)]
    exact h2
  · unfold zME
    rw [h0 31 (by omega), hI 216 (by omega), hI 217 (by omega), hI 218 (by omega), hI 219 (by omega)]
    exact h3
  · unfold zMT
    rw [h0 17 (by omega), hI 208 (by omega)]
    exact h4
  · rw [h0 22 (by omega)]; exact h5
  · rw [h0 1 (by omega)]; exact h6
/-- thrown -/
theorem zMF.th {M : zMm} {F : wFS} (h : zMF M F) : zMF (zwI M 200 0 0) F := h.to rfl (fun j hj => by simp only [zwI_L, zwI_I, zwI_J, zwI_R, zwJ_L, zwJ_I, zwJ_J, zwJ_R, zwR_L, zwR_I, zwR_J, zwR_R, zw2_s, zw2_n, ne_eq, not_false_eq_true, reduceCtorEq, not_true_eq_false, Nat.reduceEqDiff]; rw [zup_n (by omega)]) (fun k hk => zw2_n (by omega))
/-- told -/
theorem zMF.told {M : zMm} {F : wFS} (h : zMF M F) (v : Int32) : zMF (zwI M 200 1 v) (F.1, F.2.1, F.2.2.1, F.2.2.2.1, v) := by
  have e : ∀ j, j ≠ 1 → (zwI M 200 1 v).2.1 200 j = M.2.1 200 j := fun j hj => by simp only [zwI_L, zwI_I, zwI_J, zwI_R, zwJ_L, zwJ_I, zwJ_J, zwJ_R, zwR_L, zwR_I, zwR_J, zwR_R, zw2_s, zw2_n, ne_eq, not_false_eq_true, reduceCtorEq, not_true_eq_false, Nat.reduceEqDiff]; rw [zup_n hj]
  have eI : ∀ k, k ≠ 200 → (zwI M 200 1 v).2.1 k = M.2.1 k := fun k hk => zw2_n hk
  obtain ⟨h1, h2, h3, h4, h5, h6⟩ := h
  refine ⟨h1, ?_, ?_, ?_, ?_, ?_⟩
  · unfold zMS
    rw [e 2 (by omega), e 3 (by omega), e 4 (by omega), e 5 (by omega), e 6 (by omega), e 8 (by omega), eI 201 (by omega), eI 202 (by omega), eI 203 (by omega), eI 204 (by omega), eI 205 (by omega), eI 206 (by omega)]
    exact h2
  · unfold zME
    rw [e 31 (by omega), eI 216 (by omega), eI 217 (by omega), eI 218 (by omega), eI 219 (by omega)]
    exact h3
  · unfold zMT
    rw [e 17 (by omega), eI 208 (by omega)]
    exact h4
  · rw [e 22 (by omega)]; exact h5
  · simp only [zwI_L, zwI_I, zwI_J, zwI_R, zwJ_L, zwJ_I, zwJ_J, zwJ_R, zwR_L, zwR_I, zwR_J, zwR_R, zw2_s, zw2_n, ne_eq, not_false_eq_true, reduceCtorEq, not_true_eq_false, Nat.reduceEqDiff]; rw [zup_s]
def zc_X8_status (a : List Value) (M : zMm) (K : zKt) : Prop := match a with
  | [.ref k] => k = 200 ∧ ∃ F, zMF M F ∧ ∀ M', zMF M' (pStatus F).2 → K (some (.int (pStatus F).1)) M'
  | _ => False
theorem zm_X8_status (l : Launch) (D : va_G) (Y : Nat → ClassId) : zMt l D Y yX8_status cX8_status 1 (some .int) 0 0 0 0 zc_X8_status := by
  refine zflat (by decide) (fun K J lc lz => zb_X8_status_0 K J) (fun X hR => zbs_X8_status_0 hR zJ0 zJ0_ok) (fun avs M K h => ?_)
  unfold zc_X8_status at h
  split at h
  · obtain ⟨rfl, F, hF, h⟩ := h
    have hF1 := hF.th
    refine ⟨by simp [zent], ?_⟩
    simp only [zb_X8_status_0, zsh_200, zT_push, zT_bin, zT_div, zT_bil, zT_shl, zT_un, zT_i2l, zT_l2i, zT_lcmp, zT_ild, zT_lld, zT_ald, zT_ist, zT_lst, zT_ast, zT_iinc, zT_dup, zT_dup2, zT_pop, zT_if1, zT_if2, zT_ifn, zT_getI, zT_getJ, zT_getR, zT_putI, zT_putZ, zT_putJ, zT_putR, zT_ald0, zT_lald, zT_aald, zT_iast, zT_zast, zT_bast, zT_last, zT_aast, zT_iret, zT_nret, zT_aret, zT_vret, zT_oi, zT_mm, zT_ialX, zT_S1, zT_S2, zT_S3, zT_V0, zT_V1, zT_V2, zT_V3, zT_V4, zT_V5, zT_V6, zT_I0, zT_I1, zT_I2, zlg, zlset, zlpr, zent, zok, va_rf, List.length_cons, List.length_nil, List.replicate, List.cons_append, List.nil_append, List.append_nil, Option.toList_some, Option.toList_none, Option.toList, Nat.reduceAdd, Nat.reduceSub, Nat.reduceLeDiff, Nat.zero_add, Nat.zero_le, true_and, and_true, Nat.le_refl, ge_iff_le, Nat.reduceEqDiff]
    rw [hF1.2.2.2.2.2]
    exact h _ hF1
  · exact h.elim
def zc_X8_fault (a : List Value) (M : zMm) (K : zKt) : Prop := match a with
  | [.ref k] => k = 200 ∧ ∃ F, zMF M F ∧ ∀ M', zMF M' (pFault F).2 → K (some (.int (pFault F).1)) M'
  | _ => False
theorem zm_X8_fault (l : Launch) (D : va_G) (Y : Nat → ClassId) : zMt l D Y yX8_fault cX8_fault 1 (some .int) 0 0 0 0 zc_X8_fault := by
  refine zflat (by decide) (fun K J lc lz => zb_X8_fault_0 K J) (fun X hR => zbs_X8_fault_0 hR zJ0 zJ0_ok) (fun avs M K h => ?_)
  unfold zc_X8_fault at h
  split at h
  · obtain ⟨rfl, F, hF, h⟩ := h
    have hF1 := hF.th
    refine ⟨by simp [zent], ?_⟩
    simp only [zb_X8_fault_0, zsh_200, zT_push, zT_bin, zT_div, zT_bil, zT_shl, zT_un, zT_i2l, zT_l2i, zT_lcmp, zT_ild, zT_lld, zT_ald, zT_ist, zT_lst, zT_ast, zT_iinc, zT_dup, zT_dup2, zT_pop, zT_if1, zT_if2, zT_ifn, zT_getI, zT_getJ, zT_getR, zT_putI, zT_putZ, zT_putJ, zT_putR, zT_ald0, zT_lald, zT_aald, zT_iast, zT_zast, zT_bast, zT_last, zT_aast, zT_iret, zT_nret, zT_aret, zT_vret, zT_oi, zT_mm, zT_ialX, zT_S1, zT_S2, zT_S3, zT_V0, zT_V1, zT_V2, zT_V3, zT_V4, zT_V5, zT_V6, zT_I0, zT_I1, zT_I2, zlg, zlset, zlpr, zent, zok, va_rf, List.length_cons, List.length_nil, List.replicate, List.cons_append, List.nil_append, List.append_nil, Option.toList_some, Option.toList_none, Option.toList, Nat.reduceAdd, Nat.reduceSub, Nat.reduceLeDiff, Nat.zero_add, Nat.zero_le, true_and, and_true, Nat.le_refl, ge_iff_le, Nat.reduceEqDiff]
    rw [hF1.2.2.2.2.1]
    exact h _ hF1
  · exact h.elim
def zc_X8_level (a : List Value) (M : zMm) (K : zKt) : Prop := match a with
  | [.ref k, .int n] => k = 200 ∧ ∃ F, zMF M F ∧ ∀ M', zMF M' (pLevel n F).2 → K (some (.int (pLevel n F).1)) M'
  | _ => False
theorem zm_X8_level (l : Launch) (D : va_G) (Y : Nat → ClassId) : zMt l D Y yX8_level cX8_level 2 (some .int) 1 25 0 0 zc_X8_level := by
  refine zflat (by decide) (fun K J lc lz => zb_X8_level_0 K J) (fun X hR => zbs_X8_level_0 hR zJ0 zJ0_ok) (fun avs M K h => ?_)
  unfold zc_X8_level at h
  split at h
  · next k n =>
    obtain ⟨rfl, F, hF, h⟩ := h
    have hF1 := hF.th
    refine ⟨by simp [zent], ?_⟩
    simp only [zb_X8_level_0, zsh_200, zT_push, zT_bin, zT_div, zT_bil, zT_shl, zT_un, zT_i2l, zT_l2i, zT_lcmp, zT_ild, zT_lld, zT_ald, zT_ist, zT_lst, zT_ast, zT_iinc, zT_dup, zT_dup2, zT_pop, zT_if1, zT_if2, zT_ifn, zT_getI, zT_getJ, zT_getR, zT_putI, zT_putZ, zT_putJ, zT_putR, zT_ald0, zT_lald, zT_aald, zT_iast, zT_zast, zT_bast, zT_last, zT_aast, zT_iret, zT_nret, zT_aret, zT_vret, zT_oi, zT_mm, zT_ialX, zT_S1, zT_S2, zT_S3, zT_V0, zT_V1, zT_V2, zT_V3, zT_V4, zT_V5, zT_V6, zT_I0, zT_I1, zT_I2, zlg, zlset, zlpr, zent, zok, va_rf, List.length_cons, List.length_nil, List.replicate, List.cons_append, List.nil_append, List.append_nil, Option.toList_some, Option.toList_none, Option.toList, Nat.reduceAdd, Nat.reduceSub, Nat.reduceLeDiff, Nat.zero_add, Nat.zero_le, true_and, and_true, Nat.le_refl, ge_iff_le, Nat.reduceEqDiff]
    generalize zwI M 200 0 0 = M1 at hF1 ⊢
    unfold zc_X8_in
    dsimp only
    have e : zbI (0 ≤ n.toInt64 ∧ n.toInt64 ≤ 200) = zbI (0 ≤ n ∧ n ≤ 200) := zin_c (a := 0) (b := 200) (by decide) (by decide)
    rw [e]
    simp only [zbI_0, zsh_200, zT_push, zT_bin, zT_div, zT_bil, zT_shl, zT_un, zT_i2l, zT_l2i, zT_lcmp, zT_ild, zT_lld, zT_ald, zT_ist, zT_lst, zT_ast, zT_iinc, zT_dup, zT_dup2, zT_pop, zT_if1, zT_if2, zT_ifn, zT_getI, zT_getJ, zT_getR, zT_putI, zT_putZ, zT_putJ, zT_putR, zT_ald0, zT_lald, zT_aald, zT_iast, zT_zast, zT_bast, zT_last, zT_aast, zT_iret, zT_nret, zT_aret, zT_vret, zT_oi, zT_mm, zT_ialX, zT_S1, zT_S2, zT_S3, zT_V0, zT_V1, zT_V2, zT_V3, zT_V4, zT_V5, zT_V6, zT_I0, zT_I1, zT_I2, zlg, zlset, zlpr, zent, zok, va_rf, List.length_cons, List.length_nil, List.replicate, List.cons_append, List.nil_append, List.append_nil, Option.toList_some, Option.toList_none, Option.toList, Nat.reduceAdd, Nat.reduceSub, Nat.reduceLeDiff, Nat.zero_add, Nat.zero_le, true_and, and_true, Nat.le_refl, ge_iff_le, Nat.reduceEqDiff]
    refine ⟨fun h1 => ?_, fun h1 => ?_⟩
    · unfold zc_X8_told
      dsimp only
      refine ⟨rfl, ?_⟩
      have h2 := h (zwI M1 200 1 (-1))
      unfold pLevel at h2
      rw [if_neg h1] at h2
      exact h2 (hF1.told (-1))
    · have c1 := Classical.not_not.mp h1
      obtain ⟨e1, e2⟩ := tn_nI (x := n) (b := 200) c1.1 c1.2 (by decide)
      unfold zc_X8_told
      dsimp only
      refine ⟨rfl, ?_⟩
      have h2 := h (zwI (zwI M1 200 4 n) 200 1 0)
      unfold pLevel at h2
      rw [if_pos c1] at h2
      refine h2 (zMF.told (F := ((sW F.1, sH F.1, tn n, sS F.1, sF F.1, sG F.1, sA F.1), F.2.1, F.2.2.1, F.2.2.2.1, F.2.2.2.2)) ?_ 0)
      obtain ⟨g1, ⟨ok, w1, w2, w3, w4, w5, w6, w7⟩, g3, g4, g5, g6⟩ := hF1
      have q : ∀ j, j ≠ 4 → (zwI M1 200 4 n).2.1 200 j = M1.2.1 200 j := fun j hj => by simp only [zwI_L, zwI_I, zwI_J, zwI_R, zwJ_L, zwJ_I, zwJ_J, zwJ_R, zwR_L, zwR_I, zwR_J, zwR_R, zw2_s, zw2_n, ne_eq, not_false_eq_true, reduceCtorEq, not_true_eq_false, Nat.reduceEqDiff]; rw [zup_n hj]
      have qI : ∀ k, k ≠ 200 → (zwI M1 200 4 n).2.1 k = M1.2.1 k := fun k hk => zw2_n hk
      obtain ⟨k1, k2, k3, k4, k5, k6, k7, k8, k9⟩ := ok
      refine ⟨g1, ⟨⟨k1, k2, k3, k4, e2, k6, k7, k8, k9⟩, (q 2 (by decide)).trans w1, (q 3 (by decide)).trans w2, ?_, (q 5 (by decide)).trans w4, (q 6 (by decide)).trans w5, fun e he => by rw [qI 201 (by decide)]; exact w6 e he, ?_⟩, ?_, ?_, (q 22 (by decide)).trans g5, (q 1 (by decide)).trans g6⟩
      · simp only [zwI_L, zwI_I, zwI_J, zwI_R, zwJ_L, zwJ_I, zwJ_J, zwJ_R, zwR_L, zwR_I, zwR_J, zwR_R, zw2_s, zw2_n, ne_eq, not_false_eq_true, reduceCtorEq, not_true_eq_false, Nat.reduceEqDiff]; rw [zup_s]; exact e1
      · rw [q 8 (by decide), qI 202 (by omega), qI 203 (by omega), qI 204 (by omega), qI 205 (by omega), qI 206 (by omega)]
        exact w7
      · unfold zME
        rw [q 31 (by omega), qI 216 (by omega), qI 217 (by omega), qI 218 (by omega), qI 219 (by omega)]
        exact g3
      · unfold zMT
        rw [q 17 (by omega), qI 208 (by omega)]
        exact g4
  · exact h.elim
