/-! DeltaRuns$Land <init> -/
theorem zd_X1_init_0 : decode cX1_init 0 = .ok (.aload_n 0, 1) := by decide +kernel
theorem zd_X1_init_1 : decode cX1_init 1 = .ok (.invokespecial 3, 3) := by decide +kernel
theorem zd_X1_init_4 : decode cX1_init 4 = .ok (.aload_n 0, 1) := by decide +kernel
theorem zd_X1_init_5 : decode cX1_init 5 = .ok (.bipush 120, 2) := by decide +kernel
theorem zd_X1_init_7 : decode cX1_init 7 = .ok (.newarray .int, 2) := by decide +kernel
theorem zd_X1_init_9 : decode cX1_init 9 = .ok (.putfield 9, 3) := by decide +kernel
theorem zd_X1_init_12 : decode cX1_init 12 = .ok (.aload_n 0, 1) := by decide +kernel
theorem zd_X1_init_13 : decode cX1_init 13 = .ok (.bipush 64, 2) := by decide +kernel
theorem zd_X1_init_15 : decode cX1_init 15 = .ok (.putfield 15, 3) := by decide +kernel
theorem zd_X1_init_18 : decode cX1_init 18 = .ok (.aload_n 0, 1) := by decide +kernel
theorem zd_X1_init_19 : decode cX1_init 19 = .ok (.bipush 40, 2) := by decide +kernel
theorem zd_X1_init_21 : decode cX1_init 21 = .ok (.putfield 19, 3) := by decide +kernel
theorem zd_X1_init_24 : decode cX1_init 24 = .ok (.aload_n 0, 1) := by decide +kernel
theorem zd_X1_init_25 : decode cX1_init 25 = .ok (.bipush 6, 2) := by decide +kernel
theorem zd_X1_init_27 : decode cX1_init 27 = .ok (.bipush 6, 2) := by decide +kernel
theorem zd_X1_init_29 : decode cX1_init 29 = .ok (.invokevirtual 22, 3) := by decide +kernel
theorem zd_X1_init_32 : decode cX1_init 32 = .ok (.return_, 1) := by decide +kernel
def zb_X1_init_0 (K : zKt) (J : Nat → zPP) (lc lz : Nat) : zPP := zT_ald 0 (zT_oi (zT_ald 0 (zT_push (.int 120) (zT_newa 0 lc lz (zT_putR 1 0 6 (zT_ald 0 (zT_push (.int 64) (zT_putI 1 4 6 (zT_ald 0 (zT_push (.int 40) (zT_putI 1 5 6 (zT_ald 0 (zT_push (.int 6) (zT_push (.int 6) (zT_V2 zok 1 6 zc_X1_layOut (zT_vret K))))))))))))))))
theorem zbs_X1_init_0 {X : zCt} (hR : zRX X = { frames := 1, cells := 1, slots := 120, locals := 23 }) (J : Nat → zPP) (hJ : ∀ h ∈ ([] : List Nat), zSd X RX1 "<init>" cX1_init 1 none h (J h)) : zSd X RX1 "<init>" cX1_init 1 none 0 (zb_X1_init_0 (zKX X) J (zlc X) (zls X)) := zs_aload_n zd_X1_init_0 rfl (zs_oi gw_1_28 gw_1_21 gw_1_22 (zrm1 hR (by decide) (by decide)) zd_X1_init_1 (zs_aload_n zd_X1_init_4 rfl (zs_bipush zd_X1_init_5 (by decide) (zs_newI gw_1_60 rfl rfl zd_X1_init_7 (zs_putR (ci := 1) (j := 0) (T := TX1) rfl inX1 tyX1_ok nmX1 (by decide) gw_1_33 (Or.inr ⟨rfl, rfl, rfl⟩) (fun _ => ⟨rfl, rfl⟩) rfl zd_X1_init_9 (zs_aload_n zd_X1_init_12 rfl (zs_bipush zd_X1_init_13 (by decide) (zs_putI (ci := 1) (j := 4) (T := TX1) rfl inX1 tyX1_ok nmX1 (by decide) gw_1_42 rfl rfl rfl zd_X1_init_15 (zs_aload_n zd_X1_init_18 rfl (zs_bipush zd_X1_init_19 (by decide) (zs_putI (ci := 1) (j := 5) (T := TX1) rfl inX1 tyX1_ok nmX1 (by decide) gw_1_45 rfl rfl rfl zd_X1_init_21 (zs_aload_n zd_X1_init_24 rfl (zs_bipush zd_X1_init_25 (by decide) (zs_bipush zd_X1_init_27 (by decide) (zs_V (ci := 1) rfl rfl (zm_X1_layOut _ _ _) gw_1_32 gw_1_29 gw_1_30 gw_1_31 gw_1_2 zdn_X1_layOut (zrm hR (by decide) (by decide)) zd_X1_init_29 (zCl_V2 zok_l) (zs_vret rfl zd_X1_init_32))))))))))))))))
theorem zdn_X1_init : yX1_init.cls ≠ "java/lang/invoke/MethodHandle" ∧ yX1_init.cls ≠ "java/lang/invoke/VarHandle" ∧ (parseMethodDescriptor yX1_init.desc).map (fun d => d.parameters.length) = some 0 := by decide +kernel
/-! DeltaRuns$Tape <init> -/
theorem zd_X4_init_0 : decode cX4_init 0 = .ok (.aload_n 0, 1) := by decide +kernel
theorem zd_X4_init_1 : decode cX4_init 1 = .ok (.invokespecial 3, 3) := by decide +kernel
theorem zd_X4_init_4 : decode cX4_init 4 = .ok (.aload_n 0, 1) := by decide +kernel
theorem zd_X4_init_5 : decode cX4_init 5 = .ok (.sipush 300, 3) := by decide +kernel
theorem zd_X4_init_8 : decode cX4_init 8 = .ok (.newarray .byte, 2) := by decide +kernel
theorem zd_X4_init_10 : decode cX4_init 10 = .ok (.putfield 9, 3) := by decide +kernel
theorem zd_X4_init_13 : decode cX4_init 13 = .ok (.return_, 1) := by decide +kernel
def zb_X4_init_0 (K : zKt) (J : Nat → zPP) (lc lz : Nat) : zPP := zT_ald 0 (zT_oi (zT_ald 0 (zT_push (.int 300) (zT_newa 2 lc lz (zT_putR 4 0 2 (zT_vret K))))))
theorem zbs_X4_init_0 {X : zCt} (hR : zRX X = { frames := 1, cells := 1, slots := 300, locals := 20 }) (J : Nat → zPP) (hJ : ∀ h ∈ ([] : List Nat), zSd X RX4 "<init>" cX4_init 1 none h (J h)) : zSd X RX4 "<init>" cX4_init 1 none 0 (zb_X4_init_0 (zKX X) J (zlc X) (zls X)) := zs_aload_n zd_X4_init_0 rfl (zs_oi gw_1_66 gw_1_21 gw_1_22 (zrm1 hR (by decide) (by decide)) zd_X4_init_1 (zs_aload_n zd_X4_init_4 rfl (zs_sipush zd_X4_init_5 (by decide) (zs_newB gw_1_77 rfl rfl zd_X4_init_8 (zs_putR (ci := 4) (j := 0) (T := TX4) rfl inX4 tyX4_ok nmX4 (by decide) gw_1_67 (Or.inr ⟨rfl, rfl, rfl⟩) (fun _ => ⟨rfl, rfl⟩) rfl zd_X4_init_10 (zs_vret rfl zd_X4_init_13))))))
theorem zdn_X4_init : yX4_init.cls ≠ "java/lang/invoke/MethodHandle" ∧ yX4_init.cls ≠ "java/lang/invoke/VarHandle" ∧ (parseMethodDescriptor yX4_init.desc).map (fun d => d.parameters.length) = some 0 := by decide +kernel
/-! DeltaRuns$Entries <init> -/
theorem zd_X0_init_0 : decode cX0_init 0 = .ok (.aload_n 0, 1) := by decide +kernel
theorem zd_X0_init_1 : decode cX0_init 1 = .ok (.invokespecial 3, 3) := by decide +kernel
theorem zd_X0_init_4 : decode cX0_init 4 = .ok (.aload_n 0, 1) := by decide +kernel
theorem zd_X0_init_5 : decode cX0_init 5 = .ok (.sipush 200, 3) := by decide +kernel
theorem zd_X0_init_8 : decode cX0_init 8 = .ok (.newarray .int, 2) := by decide +kernel
theorem zd_X0_init_10 : decode cX0_init 10 = .ok (.putfield 9, 3) := by decide +kernel
theorem zd_X0_init_13 : decode cX0_init 13 = .ok (.aload_n 0, 1) := by decide +kernel
theorem zd_X0_init_14 : decode cX0_init 14 = .ok (.sipush 200, 3) := by decide +kernel
theorem zd_X0_init_17 : decode cX0_init 17 = .ok (.newarray .int, 2) := by decide +kernel
theorem zd_X0_init_19 : decode cX0_init 19 = .ok (.putfield 15, 3) := by decide +kernel
theorem zd_X0_init_22 : decode cX0_init 22 = .ok (.aload_n 0, 1) := by decide +kernel
theorem zd_X0_init_23 : decode cX0_init 23 = .ok (.sipush 200, 3) := by decide +kernel
theorem zd_X0_init_26 : decode cX0_init 26 = .ok (.newarray .int, 2) := by decide +kernel
theorem zd_X0_init_28 : decode cX0_init 28 = .ok (.putfield 18, 3) := by decide +kernel
theorem zd_X0_init_31 : decode cX0_init 31 = .ok (.aload_n 0, 1) := by decide +kernel
theorem zd_X0_init_32 : decode cX0_init 32 = .ok (.sipush 200, 3) := by decide +kernel
theorem zd_X0_init_35 : decode cX0_init 35 = .ok (.newarray .int, 2) := by decide +kernel
theorem zd_X0_init_37 : decode cX0_init 37 = .ok (.putfield 21, 3) := by decide +kernel
theorem zd_X0_init_40 : decode cX0_init 40 = .ok (.return_, 1) := by decide +kernel
def zb_X0_init_0 (K : zKt) (J : Nat → zPP) (lc lz : Nat) : zPP := zT_ald 0 (zT_oi (zT_ald 0 (zT_push (.int 200) (zT_newa 0 lc lz (zT_putR 0 0 5 (zT_ald 0 (zT_push (.int 200) (zT_newa 0 lc lz (zT_putR 0 1 5 (zT_ald 0 (zT_push (.int 200) (zT_newa 0 lc lz (zT_putR 0 2 5 (zT_ald 0 (zT_push (.int 200) (zT_newa 0 lc lz (zT_putR 0 3 5 (zT_vret K))))))))))))))))))
theorem zbs_X0_init_0 {X : zCt} (hR : zRX X = { frames := 1, cells := 4, slots := 800, locals := 20 }) (J : Nat → zPP) (hJ : ∀ h ∈ ([] : List Nat), zSd X RX0 "<init>" cX0_init 1 none h (J h)) : zSd X RX0 "<init>" cX0_init 1 none 0 (zb_X0_init_0 (zKX X) J (zlc X) (zls X)) := zs_aload_n zd_X0_init_0 rfl (zs_oi gw_1_83 gw_1_21 gw_1_22 (zrm1 hR (by decide) (by decide)) zd_X0_init_1 (zs_aload_n zd_X0_init_4 rfl (zs_sipush zd_X0_init_5 (by decide) (zs_newI gw_1_60 rfl rfl zd_X0_init_8 (zs_putR (ci := 0) (j := 0) (T := TX0) rfl inX0 tyX0_ok nmX0 (by decide) gw_1_84 (Or.inr ⟨rfl, rfl, rfl⟩) (fun _ => ⟨rfl, rfl⟩) rfl zd_X0_init_10 (zs_aload_n zd_X0_init_13 rfl (zs_sipush zd_X0_init_14 (by decide) (zs_newI gw_1_60 rfl rfl zd_X0_init_17 (zs_putR (ci := 0) (j := 1) (T := TX0) rfl inX0 tyX0_ok nmX0 (by decide) gw_1_86 (Or.inr ⟨rfl, rfl, rfl⟩) (fun _ => ⟨rfl, rfl⟩) rfl zd_X0_init_19 (zs_aload_n zd_X0_init_22 rfl (zs_sipush zd_X0_init_23 (by decide) (zs_newI gw_1_60 rfl rfl zd_X0_init_26 (zs_putR (ci := 0) (j := 2) (T := TX0) rfl inX0 tyX0_ok nmX0 (by decide) gw_1_88 (Or.inr ⟨rfl, rfl, rfl⟩) (fun _ => ⟨rfl, rfl⟩) rfl zd_X0_init_28 (zs_aload_n zd_X0_init_31 rfl (zs_sipush zd_X0_init_32 (by decide) (zs_newI gw_1_60 rfl rfl zd_X0_init_35 (zs_putR (ci := 0) (j := 3) (T := TX0) rfl inX0 tyX0_ok nmX0 (by decide) gw_1_90 (Or.inr ⟨rfl, rfl, rfl⟩) (fun _ => ⟨rfl, rfl⟩) rfl zd_X0_init_37 (zs_vret rfl zd_X0_init_40))))))))))))))))))
theorem zdn_X0_init : yX0_init.cls ≠ "java/lang/invoke/MethodHandle" ∧ yX0_init.cls ≠ "java/lang/invoke/VarHandle" ∧ (parseMethodDescriptor yX0_init.desc).map (fun d => d.parameters.length) = some 0 := by decide +kernel
/-! DeltaRuns$Plan <init> -/
theorem zd_X2_init_0 : decode cX2_init 0 = .ok (.aload_n 0, 1) := by decide +kernel
theorem zd_X2_init_1 : decode cX2_init 1 = .ok (.invokespecial 3, 3) := by decide +kernel
theorem zd_X2_init_4 : decode cX2_init 4 = .ok (.aload_n 0, 1) := by decide +kernel
theorem zd_X2_init_5 : decode cX2_init 5 = .ok (.bipush 20, 2) := by decide +kernel
theorem zd_X2_init_7 : decode cX2_init 7 = .ok (.newarray .int, 2) := by decide +kernel
theorem zd_X2_init_9 : decode cX2_init 9 = .ok (.putfield 9, 3) := by decide +kernel
theorem zd_X2_init_12 : decode cX2_init 12 = .ok (.aload_n 0, 1) := by decide +kernel
theorem zd_X2_init_13 : decode cX2_init 13 = .ok (.bipush 20, 2) := by decide +kernel
theorem zd_X2_init_15 : decode cX2_init 15 = .ok (.newarray .int, 2) := by decide +kernel
theorem zd_X2_init_17 : decode cX2_init 17 = .ok (.putfield 15, 3) := by decide +kernel
theorem zd_X2_init_20 : decode cX2_init 20 = .ok (.aload_n 0, 1) := by decide +kernel
theorem zd_X2_init_21 : decode cX2_init 21 = .ok (.bipush 20, 2) := by decide +kernel
theorem zd_X2_init_23 : decode cX2_init 23 = .ok (.newarray .int, 2) := by decide +kernel
theorem zd_X2_init_25 : decode cX2_init 25 = .ok (.putfield 18, 3) := by decide +kernel
theorem zd_X2_init_28 : decode cX2_init 28 = .ok (.aload_n 0, 1) := by decide +kernel
theorem zd_X2_init_29 : decode cX2_init 29 = .ok (.bipush 20, 2) := by decide +kernel
theorem zd_X2_init_31 : decode cX2_init 31 = .ok (.newarray .int, 2) := by decide +kernel
theorem zd_X2_init_33 : decode cX2_init 33 = .ok (.putfield 21, 3) := by decide +kernel
theorem zd_X2_init_36 : decode cX2_init 36 = .ok (.aload_n 0, 1) := by decide +kernel
theorem zd_X2_init_37 : decode cX2_init 37 = .ok (.bipush 20, 2) := by decide +kernel
theorem zd_X2_init_39 : decode cX2_init 39 = .ok (.newarray .int, 2) := by decide +kernel
theorem zd_X2_init_41 : decode cX2_init 41 = .ok (.putfield 24, 3) := by decide +kernel
theorem zd_X2_init_44 : decode cX2_init 44 = .ok (.return_, 1) := by decide +kernel
def zb_X2_init_0 (K : zKt) (J : Nat → zPP) (lc lz : Nat) : zPP := zT_ald 0 (zT_oi (zT_ald 0 (zT_push (.int 20) (zT_newa 0 lc lz (zT_putR 2 0 6 (zT_ald 0 (zT_push (.int 20) (zT_newa 0 lc lz (zT_putR 2 1 6 (zT_ald 0 (zT_push (.int 20) (zT_newa 0 lc lz (zT_putR 2 2 6 (zT_ald 0 (zT_push (.int 20) (zT_newa 0 lc lz (zT_putR 2 3 6 (zT_ald 0 (zT_push (.int 20) (zT_newa 0 lc lz (zT_putR 2 4 6 (zT_vret K))))))))))))))))))))))
theorem zbs_X2_init_0 {X : zCt} (hR : zRX X = { frames := 1, cells := 5, slots := 100, locals := 20 }) (J : Nat → zPP) (hJ : ∀ h ∈ ([] : List Nat), zSd X RX2 "<init>" cX2_init 1 none h (J h)) : zSd X RX2 "<init>" cX2_init 1 none 0 (zb_X2_init_0 (zKX X) J (zlc X) (zls X)) := zs_aload_n zd_X2_init_0 rfl (zs_oi gw_1_158 gw_1_21 gw_1_22 (zrm1 hR (by decide) (by decide)) zd_X2_init_1 (zs_aload_n zd_X2_init_4 rfl (zs_bipush zd_X2_init_5 (by decide) (zs_newI gw_1_60 rfl rfl zd_X2_init_7 (zs_putR (ci := 2) (j := 0) (T := TX2) rfl inX2 tyX2_ok nmX2 (by decide) gw_1_159 (Or.inr ⟨rfl, rfl, rfl⟩) (fun _ => ⟨rfl, rfl⟩) rfl zd_X2_init_9 (zs_aload_n zd_X2_init_12 rfl (zs_bipush zd_X2_init_13 (by decide) (zs_newI gw_1_60 rfl rfl zd_X2_init_15 (zs_putR (ci := 2) (j := 1) (T := TX2) rfl inX2 tyX2_ok nmX2 (by decide) gw_1_161 (Or.inr ⟨rfl, rfl, rfl⟩) (fun _ => ⟨rfl, rfl⟩) rfl zd_X2_init_17 (zs_aload_n zd_X2_init_20 rfl (zs_bipush zd_X2_init_21 (by decide) (zs_newI gw_1_60 rfl rfl zd_X2_init_23 (zs_putR (ci := 2) (j := 2) (T := TX2) rfl inX2 tyX2_ok nmX2 (by decide) gw_1_163 (Or.inr ⟨rfl, rfl, rfl⟩) (fun _ => ⟨rfl, rfl⟩) rfl zd_X2_init_25 (zs_aload_n zd_X2_init_28 rfl (zs_bipush zd_X2_init_29 (by decide) (zs_newI gw_1_60 rfl rfl zd_X2_init_31 (zs_putR (ci := 2) (j := 3) (T := TX2) rfl inX2 tyX2_ok nmX2 (by decide) gw_1_165 (Or.inr ⟨rfl, rfl, rfl⟩) (fun _ => ⟨rfl, rfl⟩) rfl zd_X2_init_33 (zs_aload_n zd_X2_init_36 rfl (zs_bipush zd_X2_init_37 (by decide) (zs_newI gw_1_60 rfl rfl zd_X2_init_39 (zs_putR (ci := 2) (j := 4) (T := TX2) rfl inX2 tyX2_ok nmX2 (by decide) gw_1_167 (Or.inr ⟨rfl, rfl, rfl⟩) (fun _ => ⟨rfl, rfl⟩) rfl zd_X2_init_41 (zs_vret rfl zd_X2_init_44))))))))))))))))))))))
theorem zdn_X2_init : yX2_init.cls ≠ "java/lang/invoke/MethodHandle" ∧ yX2_init.cls ≠ "java/lang/invoke/VarHandle" ∧ (parseMethodDescriptor yX2_init.desc).map (fun d => d.parameters.length) = some 0 := by decide +kernel
/-! DeltaRuns$Water <init> -/
theorem zd_X5_init_0 : decode cX5_init 0 = .ok (.aload_n 0, 1) := by decide +kernel
theorem zd_X5_init_1 : decode cX5_init 1 = .ok (.invokespecial 3, 3) := by decide +kernel
theorem zd_X5_init_4 : decode cX5_init 4 = .ok (.aload_n 0, 1) := by decide +kernel
theorem zd_X5_init_5 : decode cX5_init 5 = .ok (.bipush 120, 2) := by decide +kernel
theorem zd_X5_init_7 : decode cX5_init 7 = .ok (.newarray .int, 2) := by decide +kernel
theorem zd_X5_init_9 : decode cX5_init 9 = .ok (.putfield 9, 3) := by decide +kernel
theorem zd_X5_init_12 : decode cX5_init 12 = .ok (.aload_n 0, 1) := by decide +kernel
theorem zd_X5_init_13 : decode cX5_init 13 = .ok (.bipush 120, 2) := by decide +kernel
theorem zd_X5_init_15 : decode cX5_init 15 = .ok (.newarray .boolean, 2) := by decide +kernel
theorem zd_X5_init_17 : decode cX5_init 17 = .ok (.putfield 15, 3) := by decide +kernel
theorem zd_X5_init_20 : decode cX5_init 20 = .ok (.aload_n 0, 1) := by decide +kernel
theorem zd_X5_init_21 : decode cX5_init 21 = .ok (.bipush 120, 2) := by decide +kernel
theorem zd_X5_init_23 : decode cX5_init 23 = .ok (.newarray .int, 2) := by decide +kernel
theorem zd_X5_init_25 : decode cX5_init 25 = .ok (.putfield 19, 3) := by decide +kernel
theorem zd_X5_init_28 : decode cX5_init 28 = .ok (.aload_n 0, 1) := by decide +kernel
theorem zd_X5_init_29 : decode cX5_init 29 = .ok (.bipush 120, 2) := by decide +kernel
theorem zd_X5_init_31 : decode cX5_init 31 = .ok (.newarray .boolean, 2) := by decide +kernel
theorem zd_X5_init_33 : decode cX5_init 33 = .ok (.putfield 22, 3) := by decide +kernel
theorem zd_X5_init_36 : decode cX5_init 36 = .ok (.aload_n 0, 1) := by decide +kernel
theorem zd_X5_init_37 : decode cX5_init 37 = .ok (.bipush 120, 2) := by decide +kernel
theorem zd_X5_init_39 : decode cX5_init 39 = .ok (.newarray .int, 2) := by decide +kernel
theorem zd_X5_init_41 : decode cX5_init 41 = .ok (.putfield 25, 3) := by decide +kernel
theorem zd_X5_init_44 : decode cX5_init 44 = .ok (.aload_n 0, 1) := by decide +kernel
theorem zd_X5_init_45 : decode cX5_init 45 = .ok (.iconst 4, 1) := by decide +kernel
theorem zd_X5_init_46 : decode cX5_init 46 = .ok (.newarray .int, 2) := by decide +kernel
theorem zd_X5_init_48 : decode cX5_init 48 = .ok (.putfield 28, 3) := by decide +kernel
theorem zd_X5_init_51 : decode cX5_init 51 = .ok (.aload_n 0, 1) := by decide +kernel
theorem zd_X5_init_52 : decode cX5_init 52 = .ok (.iconst 4, 1) := by decide +kernel
theorem zd_X5_init_53 : decode cX5_init 53 = .ok (.newarray .int, 2) := by decide +kernel
theorem zd_X5_init_55 : decode cX5_init 55 = .ok (.putfield 31, 3) := by decide +kernel
theorem zd_X5_init_58 : decode cX5_init 58 = .ok (.aload_n 0, 1) := by decide +kernel
theorem zd_X5_init_59 : decode cX5_init 59 = .ok (.iconst 4, 1) := by decide +kernel
theorem zd_X5_init_60 : decode cX5_init 60 = .ok (.newarray .int, 2) := by decide +kernel
theorem zd_X5_init_62 : decode cX5_init 62 = .ok (.putfield 34, 3) := by decide +kernel
theorem zd_X5_init_65 : decode cX5_init 65 = .ok (.aload_n 0, 1) := by decide +kernel
theorem zd_X5_init_66 : decode cX5_init 66 = .ok (.iconst 4, 1) := by decide +kernel
theorem zd_X5_init_67 : decode cX5_init 67 = .ok (.newarray .int, 2) := by decide +kernel
theorem zd_X5_init_69 : decode cX5_init 69 = .ok (.putfield 37, 3) := by decide +kernel
theorem zd_X5_init_72 : decode cX5_init 72 = .ok (.return_, 1) := by decide +kernel
def zb_X5_init_0 (K : zKt) (J : Nat → zPP) (lc lz : Nat) : zPP := zT_ald 0 (zT_oi (zT_ald 0 (zT_push (.int 120) (zT_newa 0 lc lz (zT_putR 5 0 11 (zT_ald 0 (zT_push (.int 120) (zT_newa 1 lc lz (zT_putR 5 1 11 (zT_ald 0 (zT_push (.int 120) (zT_newa 0 lc lz (zT_putR 5 2 11 (zT_ald 0 (zT_push (.int 120) (zT_newa 1 lc lz (zT_putR 5 3 11 (zT_ald 0 (zT_push (.int 120) (zT_newa 0 lc lz (zT_putR 5 4 11 (zT_ald 0 (zT_push (.int 4) (zT_newa 0 lc lz (zT_putR 5 6 11 (zT_ald 0 (zT_push (.int 4) (zT_newa 0 lc lz (zT_putR 5 7 11 (zT_ald 0 (zT_push (.int 4) (zT_newa 0 lc lz (zT_putR 5 8 11 (zT_ald 0 (zT_push (.int 4) (zT_newa 0 lc lz (zT_putR 5 9 11 (zT_vret K))))))))))))))))))))))))))))))))))))))
theorem zbs_X5_init_0 {X : zCt} (hR : zRX X = { frames := 1, cells := 9, slots := 736, locals := 20 }) (J : Nat → zPP) (hJ : ∀ h ∈ ([] : List Nat), zSd X RX5 "<init>" cX5_init 1 none h (J h)) : zSd X RX5 "<init>" cX5_init 1 none 0 (zb_X5_init_0 (zKX X) J (zlc X) (zls X)) := zs_aload_n zd_X5_init_0 rfl (zs_oi gw_1_110 gw_1_21 gw_1_22 (zrm1 hR (by decide) (by decide)) zd_X5_init_1 (zs_aload_n zd_X5_init_4 rfl (zs_bipush zd_X5_init_5 (by decide) (zs_newI gw_1_60 rfl rfl zd_X5_init_7 (zs_putR (ci := 5) (j := 0) (T := TX5) rfl inX5 tyX5_ok nmX5 (by decide) gw_1_111 (Or.inr ⟨rfl, rfl, rfl⟩) (fun _ => ⟨rfl, rfl⟩) rfl zd_X5_init_9 (zs_aload_n zd_X5_init_12 rfl (zs_bipush zd_X5_init_13 (by decide) (zs_newZ gw_1_150 rfl rfl zd_X5_init_15 (zs_putR (ci := 5) (j := 1) (T := TX5) rfl inX5 tyX5_ok nmX5 (by decide) gw_1_114 (Or.inr ⟨rfl, rfl, rfl⟩) (fun _ => ⟨rfl, rfl⟩) rfl zd_X5_init_17 (zs_aload_n zd_X5_init_20 rfl (zs_bipush zd_X5_init_21 (by decide) (zs_newI gw_1_60 rfl rfl zd_X5_init_23 (zs_putR (ci := 5) (j := 2) (T := TX5) rfl inX5 tyX5_ok nmX5 (by decide) gw_1_117 (Or.inr ⟨rfl, rfl, rfl⟩) (fun _ => ⟨rfl, rfl⟩) rfl zd_X5_init_25 (zs_aload_n zd_X5_init_28 rfl (zs_bipush zd_X5_init_29 (by decide) (zs_newZ gw_1_150 rfl rfl zd_X5_init_31 (zs_putR (ci := 5) (j := 3) (T := TX5) rfl inX5 tyX5_ok nmX5 (by decide) gw_1_119 (Or.inr ⟨rfl, rfl, rfl⟩) (fun _ => ⟨rfl, rfl⟩) rfl zd_X5_init_33 (zs_aload_n zd_X5_init_36 rfl (zs_bipush zd_X5_init_37 (by decide) (zs_newI gw_1_60 rfl rfl zd_X5_init_39 (zs_putR (ci := 5) (j := 4) (T := TX5) rfl inX5 tyX5_ok nmX5 (by decide) gw_1_120 (Or.inr ⟨rfl, rfl, rfl⟩) (fun _ => ⟨rfl, rfl⟩) rfl zd_X5_init_41 (zs_aload_n zd_X5_init_44 rfl (zs_iconst zd_X5_init_45 (by decide) (zs_newI gw_1_60 rfl rfl zd_X5_init_46 (zs_putR (ci := 5) (j := 6) (T := TX5) rfl inX5 tyX5_ok nmX5 (by decide) gw_1_122 (Or.inr ⟨rfl, rfl, rfl⟩) (fun _ => ⟨rfl, rfl⟩) rfl zd_X5_init_48 (zs_aload_n zd_X5_init_51 rfl (zs_iconst zd_X5_init_52 (by decide) (zs_newI gw_1_60 rfl rfl zd_X5_init_53 (zs_putR (ci := 5) (j := 7) (T := TX5) rfl inX5 tyX5_ok nmX5 (by decide) gw_1_123 (Or.inr ⟨rfl, rfl, rfl⟩) (fun _ => ⟨rfl, rfl⟩) rfl zd_X5_init_55 (zs_aload_n zd_X5_init_58 rfl (zs_iconst zd_X5_init_59 (by decide) (zs_newI gw_1_60 rfl rfl zd_X5_init_60 (zs_putR (ci := 5) (j := 8) (T := TX5) rfl inX5 tyX5_ok nmX5 (by decide) gw_1_124 (Or.inr ⟨rfl, rfl, rfl⟩) (fun _ => ⟨rfl, rfl⟩) rfl zd_X5_init_62 (zs_aload_n zd_X5_init_65 rfl (zs_iconst zd_X5_init_66 (by decide) (zs_newI gw_1_60 rfl rfl zd_X5_init_67 (zs_putR (ci := 5) (j := 9) (T := TX5) rfl inX5 tyX5_ok nmX5 (by decide) gw_1_125 (Or.inr ⟨rfl, rfl, rfl⟩) (fun _ => ⟨rfl, rfl⟩) rfl zd_X5_init_69 (zs_vret rfl zd_X5_init_72))))))))))))))))))))))))))))))))))))))
theorem zdn_X5_init : yX5_init.cls ≠ "java/lang/invoke/MethodHandle" ∧ yX5_init.cls ≠ "java/lang/invoke/VarHandle" ∧ (parseMethodDescriptor yX5_init.desc).map (fun d => d.parameters.length) = some 0 := by decide +kernel
/-! CONSTRUCTORS -/
def nA (M : zMm) (o j k : Nat) : zMm := zwR (znw M k) o j (some k)
theorem nA_L {M : zMm} {o j k : Nat} : (nA M o j k).1 = M.1 ++ [k] := rfl
theorem nA_I {M : zMm} {o j k : Nat} : (nA M o j k).2.1 = zrw M.2.1 k 0 := rfl
theorem nA_J {M : zMm} {o j k : Nat} : (nA M o j k).2.2.1 = zrw M.2.2.1 k 0 := rfl
theorem nA_R {M : zMm} {o j k : Nat} : (nA M o j k).2.2.2 = zw2 (zrw M.2.2.2 k none) o j (some k) := rfl
def zc_X4_init (a : List Value) (M : zMm) (K : zKt) : Prop := match a with
  | [.ref k] => k = 3 ∧ (4 ∉ M.1) ∧ K none (nA M 3 0 4)
  | _ => False
set_option maxHeartbeats 4000000 in
theorem zm_X4_init (l : Launch) (D : va_G) (Y : Nat → ClassId) : zMt l D Y yX4_init cX4_init 1 none 1 20 1 300 zc_X4_init := by
  refine zflat (by decide) (fun K J lc lz => zb_X4_init_0 K J lc lz) (fun X hR => zbs_X4_init_0 hR zJ0 zJ0_ok) (fun avs M K h => ?_)
  unfold zc_X4_init at h
  split at h
  · obtain ⟨rfl, q4, h⟩ := h
    refine ⟨by simp [zent], ?_⟩
    simp only [zb_X4_init_0, zT_newa, zsh_3, zT_push, zT_bin, zT_div, zT_bil, zT_shl, zT_un, zT_i2l, zT_l2i, zT_lcmp, zT_ild, zT_lld, zT_ald, zT_ist, zT_lst, zT_ast, zT_iinc, zT_dup, zT_dup2, zT_pop, zT_if1, zT_if2, zT_ifn, zT_getI, zT_getJ, zT_getR, zT_putI, zT_putZ, zT_putJ, zT_putR, zT_ald0, zT_lald, zT_aald, zT_iast, zT_zast, zT_bast, zT_last, zT_aast, zT_iret, zT_nret, zT_aret, zT_vret, zT_oi, zT_mm, zT_ialX, zT_S1, zT_S2, zT_S3, zT_V0, zT_V1, zT_V2, zT_V3, zT_V4, zT_V5, zT_V6, zT_I0, zT_I1, zT_I2, zlg, zlset, zlpr, zent, zok, va_rf, List.length_cons, List.length_nil, List.replicate, List.cons_append, List.nil_append, List.append_nil, Option.toList_some, Option.toList_none, Option.toList, Nat.reduceAdd, Nat.reduceSub, Nat.reduceLeDiff, Nat.zero_add, Nat.zero_le, true_and, and_true, Nat.le_refl, ge_iff_le, Nat.reduceEqDiff]
    refine ⟨4, q4, rfl, by decide, by decide, (by show zss M.1 + 300 ≤ zss M.1 + 300; omega), (by decide : (4 : Nat) < 2000), ?_⟩
    exact h
  · exact h.elim
def zc_X0_init (a : List Value) (M : zMm) (K : zKt) : Prop := match a with
  | [.ref k] => k = 5 ∧ (6 ∉ M.1 ∧ 7 ∉ M.1 ∧ 8 ∉ M.1 ∧ 9 ∉ M.1) ∧ K none (nA (nA (nA (nA M 5 0 6) 5 1 7) 5 2 8) 5 3 9)
  | _ => False
set_option maxHeartbeats 4000000 in
theorem zm_X0_init (l : Launch) (D : va_G) (Y : Nat → ClassId) : zMt l D Y yX0_init cX0_init 1 none 1 20 4 800 zc_X0_init := by
  refine zflat (by decide) (fun K J lc lz => zb_X0_init_0 K J lc lz) (fun X hR => zbs_X0_init_0 hR zJ0 zJ0_ok) (fun avs M K h => ?_)
  unfold zc_X0_init at h
  split at h
  · obtain ⟨rfl, ⟨q6, q7, q8, q9⟩, h⟩ := h
    refine ⟨by simp [zent], ?_⟩
    simp only [zb_X0_init_0, zT_newa, zsh_5, zT_push, zT_bin, zT_div, zT_bil, zT_shl, zT_un, zT_i2l, zT_l2i, zT_lcmp, zT_ild, zT_lld, zT_ald, zT_ist, zT_lst, zT_ast, zT_iinc, zT_dup, zT_dup2, zT_pop, zT_if1, zT_if2, zT_ifn, zT_getI, zT_getJ, zT_getR, zT_putI, zT_putZ, zT_putJ, zT_putR, zT_ald0, zT_lald, zT_aald, zT_iast, zT_zast, zT_bast, zT_last, zT_aast, zT_iret, zT_nret, zT_aret, zT_vret, zT_oi, zT_mm, zT_ialX, zT_S1, zT_S2, zT_S3, zT_V0, zT_V1, zT_V2, zT_V3, zT_V4, zT_V5, zT_V6, zT_I0, zT_I1, zT_I2, zlg, zlset, zlpr, zent, zok, va_rf, List.length_cons, List.length_nil, List.replicate, List.cons_append, List.nil_append, List.append_nil, Option.toList_some, Option.toList_none, Option.toList, Nat.reduceAdd, Nat.reduceSub, Nat.reduceLeDiff, Nat.zero_add, Nat.zero_le, true_and, and_true, Nat.le_refl, ge_iff_le, Nat.reduceEqDiff]
    refine ⟨6, q6, rfl, by decide, by decide, (by show M.1.length ≤ M.1.length + 3; omega), (by show zss M.1 + 200 ≤ zss M.1 + 800; omega), (by decide : (6 : Nat) < 2000), ?_⟩
    refine ⟨7, (by show 7 ∉ M.1 ++ [6]; simp [q7]), rfl, by decide, by decide, (by show (M.1 ++ [6]).length ≤ M.1.length + 3; simp only [List.length_append, List.length_singleton]; omega), (by show zss (M.1 ++ [6]) + 200 ≤ zss M.1 + 800; simp only [zss_app, show zsz 6 = 200 from rfl]; omega), (by decide : (7 : Nat) < 2000), ?_⟩
    refine ⟨8, (by show 8 ∉ M.1 ++ [6] ++ [7]; simp [q8]), rfl, by decide, by decide, (by show (M.1 ++ [6] ++ [7]).length ≤ M.1.length + 3; simp only [List.length_append, List.length_singleton]; omega), (by show zss (M.1 ++ [6] ++ [7]) + 200 ≤ zss M.1 + 800; simp only [zss_app, show zsz 6 = 200 from rfl, show zsz 7 = 200 from rfl]; omega), (by decide : (8 : Nat) < 2000), ?_⟩
    refine ⟨9, (by show 9 ∉ M.1 ++ [6] ++ [7] ++ [8]; simp [q9]), rfl, by decide, by decide, (by show (M.1 ++ [6] ++ [7] ++ [8]).length ≤ M.1.length + 3; simp only [List.length_append, List.length_singleton]; omega), (by show zss (M.1 ++ [6] ++ [7] ++ [8]) + 200 ≤ zss M.1 + 800; simp only [zss_app, show zsz 6 = 200 from rfl, show zsz 7 = 200 from rfl, show zsz 8 = 200 from rfl]; omega), (by decide : (9 : Nat) < 2000), ?_⟩
    exact h
  · exact h.elim
def zc_X5_init (a : List Value) (M : zMm) (K : zKt) : Prop := match a with
  | [.ref k] => k = 10 ∧ (11 ∉ M.1 ∧ 12 ∉ M.1 ∧ 13 ∉ M.1 ∧ 14 ∉ M.1 ∧ 15 ∉ M.1 ∧ 16 ∉ M.1 ∧ 17 ∉ M.1 ∧ 18 ∉ M.1 ∧ 19 ∉ M.1) ∧ K none (nA (nA (nA (nA (nA (nA (nA (nA (nA M 10 0 11) 10 1 12) 10 2 13) 10 3 14) 10 4 15) 10 6 16) 10 7 17) 10 8 18) 10 9 19)
  | _ => False
set_option maxHeartbeats 4000000 in
theorem zm_X5_init (l : Launch) (D : va_G) (Y : Nat → ClassId) : zMt l D Y yX5_init cX5_init 1 none 1 20 9 736 zc_X5_init := by
  refine zflat (by decide) (fun K J lc lz => zb_X5_init_0 K J lc lz) (fun X hR => zbs_X5_init_0 hR zJ0 zJ0_ok) (fun avs M K h => ?_)
  unfold zc_X5_init at h
  split at h
  · obtain ⟨rfl, ⟨q11, q12, q13, q14, q15, q16, q17, q18, q19⟩, h⟩ := h
    refine ⟨by simp [zent], ?_⟩
    simp only [zb_X5_init_0, zT_newa, zsh_10, zT_push, zT_bin, zT_div, zT_bil, zT_shl, zT_un, zT_i2l, zT_l2i, zT_lcmp, zT_ild, zT_lld, zT_ald, zT_ist, zT_lst, zT_ast, zT_iinc, zT_dup, zT_dup2, zT_pop, zT_if1, zT_if2, zT_ifn, zT_getI, zT_getJ, zT_getR, zT_putI, zT_putZ, zT_putJ, zT_putR, zT_ald0, zT_lald, zT_aald, zT_iast, zT_zast, zT_bast, zT_last, zT_aast, zT_iret, zT_nret, zT_aret, zT_vret, zT_oi, zT_mm, zT_ialX, zT_S1, zT_S2, zT_S3, zT_V0, zT_V1, zT_V2, zT_V3, zT_V4, zT_V5, zT_V6, zT_I0, zT_I1, zT_I2, zlg, zlset, zlpr, zent, zok, va_rf, List.length_cons, List.length_nil, List.replicate, List.cons_append, List.nil_append, List.append_nil, Option.toList_some, Option.toList_none, Option.toList, Nat.reduceAdd, Nat.reduceSub, Nat.reduceLeDiff, Nat.zero_add, Nat.zero_le, true_and, and_true, Nat.le_refl, ge_iff_le, Nat.reduceEqDiff]
    refine ⟨11, q11, rfl, by decide, by decide, (by show M.1.length ≤ M.1.length + 8; omega), (by show zss M.1 + 120 ≤ zss M.1 + 736; omega), (by decide : (11 : Nat) < 2000), ?_⟩
    refine ⟨12, (by show 12 ∉ M.1 ++ [11]; simp [q12]), rfl, by decide, by decide, (by show (M.1 ++ [11]).length ≤ M.1.length + 8; simp only [List.length_append, List.length_singleton]; omega), (by show zss (M.1 ++ [11]) + 120 ≤ zss M.1 + 736; simp only [zss_app, show zsz 11 = 120 from rfl]; omega), (by decide : (12 : Nat) < 2000), ?_⟩
    refine ⟨13, (by show 13 ∉ M.1 ++ [11] ++ [12]; simp [q13]), rfl, by decide, by decide, (by show (M.1 ++ [11] ++ [12]).length ≤ M.1.length + 8; simp only [List.length_append, List.length_singleton]; omega), (by show zss (M.1 ++ [11] ++ [12]) + 120 ≤ zss M.1 + 736; simp only [zss_app, show zsz 11 = 120 from rfl, show zsz 12 = 120 from rfl]; omega), (by decide : (13 : Nat) < 2000), ?_⟩
    refine ⟨14, (by show 14 ∉ M.1 ++ [11] ++ [12] ++ [13]; simp [q14]), rfl, by decide, by decide, (by show (M.1 ++ [11] ++ [12] ++ [13]).length ≤ M.1.length + 8; simp only [List.length_append, List.length_singleton]; omega), (by show zss (M.1 ++ [11] ++ [12] ++ [13]) + 120 ≤ zss M.1 + 736; simp only [zss_app, show zsz 11 = 120 from rfl, show zsz 12 = 120 from rfl, show zsz 13 = 120 from rfl]; omega), (by decide : (14 : Nat) < 2000), ?_⟩
    refine ⟨15, (by show 15 ∉ M.1 ++ [11] ++ [12] ++ [13] ++ [14]; simp [q15]), rfl, by decide, by decide, (by show (M.1 ++ [11] ++ [12] ++ [13] ++ [14]).length ≤ M.1.length + 8; simp only [List.length_append, List.length_singleton]; omega), (by show zss (M.1 ++ [11] ++ [12] ++ [13] ++ [14]) + 120 ≤ zss M.1 + 736; simp only [zss_app, show zsz 11 = 120 from rfl, show zsz 12 = 120 from rfl, show zsz 13 = 120 from rfl, show zsz 14 = 120 from rfl]; omega), (by decide : (15 : Nat) < 2000), ?_⟩
    refine ⟨16, (by show 16 ∉ M.1 ++ [11] ++ [12] ++ [13] ++ [14] ++ [15]; simp [q16]), rfl, by decide, by decide, (by show (M.1 ++ [11] ++ [12] ++ [13] ++ [14] ++ [15]).length ≤ M.1.length + 8; simp only [List.length_append, List.length_singleton]; omega), (by show zss (M.1 ++ [11] ++ [12] ++ [13] ++ [14] ++ [15]) + 4 ≤ zss M.1 + 736; simp only [zss_app, show zsz 11 = 120 from rfl, show zsz 12 = 120 from rfl, show zsz 13 = 120 from rfl, show zsz 14 = 120 from rfl, show zsz 15 = 120 from rfl]; omega), (by decide : (16 : Nat) < 2000), ?_⟩
    refine ⟨17, (by show 17 ∉ M.1 ++ [11] ++ [12] ++ [13] ++ [14] ++ [15] ++ [16]; simp [q17]), rfl, by decide, by decide, (by show (M.1 ++ [11] ++ [12] ++ [13] ++ [14] ++ [15] ++ [16]).length ≤ M.1.length + 8; simp only [List.length_append, List.length_singleton]; omega), (by show zss (M.1 ++ [11] ++ [12] ++ [13] ++ [14] ++ [15] ++ [16]) + 4 ≤ zss M.1 + 736; simp only [zss_app, show zsz 11 = 120 from rfl, show zsz 12 = 120 from rfl, show zsz 13 = 120 from rfl, show zsz 14 = 120 from rfl, show zsz 15 = 120 from rfl, show zsz 16 = 4 from rfl]; omega), (by decide : (17 : Nat) < 2000), ?_⟩
    refine ⟨18, (by show 18 ∉ M.1 ++ [11] ++ [12] ++ [13] ++ [14] ++ [15] ++ [16] ++ [17]; simp [q18]), rfl, by decide, by decide, (by show (M.1 ++ [11] ++ [12] ++ [13] ++ [14] ++ [15] ++ [16] ++ [17]).length ≤ M.1.length + 8; simp only [List.length_append, List.length_singleton]; omega), (by show zss (M.1 ++ [11] ++ [12] ++ [13] ++ [14] ++ [15] ++ [16] ++ [17]) + 4 ≤ zss M.1 + 736; simp only [zss_app, show zsz 11 = 120 from rfl, show zsz 12 = 120 from rfl, show zsz 13 = 120 from rfl, show zsz 14 = 120 from rfl, show zsz 15 = 120 from rfl, show zsz 16 = 4 from rfl, show zsz 17 = 4 from rfl]; omega), (by decide : (18 : Nat) < 2000), ?_⟩
    refine ⟨19, (by show 19 ∉ M.1 ++ [11] ++ [12] ++ [13] ++ [14] ++ [15] ++ [16] ++ [17] ++ [18]; simp [q19]), rfl, by decide, by decide, (by show (M.1 ++ [11] ++ [12] ++ [13] ++ [14] ++ [15] ++ [16] ++ [17] ++ [18]).length ≤ M.1.length + 8; simp only [List.length_append, List.length_singleton]; omega), (by show zss (M.1 ++ [11] ++ [12] ++ [13] ++ [14] ++ [15] ++ [16] ++ [17] ++ [18]) + 4 ≤ zss M.1 + 736; simp only [zss_app, show zsz 11 = 120 from rfl, show zsz 12 = 120 from rfl, show zsz 13 = 120 from rfl, show zsz 14 = 120 from rfl, show zsz 15 = 120 from rfl, show zsz 16 = 4 from rfl, show zsz 17 = 4 from rfl, show zsz 18 = 4 from rfl]; omega), (by decide : (19 : Nat) < 2000), ?_⟩
    exact h
  · exact h.elim
def zc_X2_init (a : List Value) (M : zMm) (K : zKt) : Prop := match a with
  | [.ref k] => (k = 21 ∨ k = 27) ∧ (∀ j, j < 5 → k + 1 + j ∉ M.1) ∧ K none (nA (nA (nA (nA (nA M k 0 (k + 1)) k 1 (k + 2)) k 2 (k + 3)) k 3 (k + 4)) k 4 (k + 5))
  | _ => False
set_option maxHeartbeats 4000000 in
theorem zm_X2_init (l : Launch) (D : va_G) (Y : Nat → ClassId) : zMt l D Y yX2_init cX2_init 1 none 1 20 5 100 zc_X2_init := by
  refine zflat (by decide) (fun K J lc lz => zb_X2_init_0 K J lc lz) (fun X hR => zbs_X2_init_0 hR zJ0 zJ0_ok) (fun avs M K h => ?_)
  unfold zc_X2_init at h
  split at h
  · obtain ⟨hk, hq, h⟩ := h
    rcases hk with rfl | rfl
    · have q22 : 22 ∉ M.1 := hq 0 (by decide)
      have q23 : 23 ∉ M.1 := hq 1 (by decide)
      have q24 : 24 ∉ M.1 := hq 2 (by decide)
      have q25 : 25 ∉ M.1 := hq 3 (by decide)
      have q26 : 26 ∉ M.1 := hq 4 (by decide)
      refine ⟨by simp [zent], ?_⟩
      simp only [zb_X2_init_0, zT_newa, zsh_21, zT_push, zT_bin, zT_div, zT_bil, zT_shl, zT_un, zT_i2l, zT_l2i, zT_lcmp, zT_ild, zT_lld, zT_ald, zT_ist, zT_lst, zT_ast, zT_iinc, zT_dup, zT_dup2, zT_pop, zT_if1, zT_if2, zT_ifn, zT_getI, zT_getJ, zT_getR, zT_putI, zT_putZ, zT_putJ, zT_putR, zT_ald0, zT_lald, zT_aald, zT_iast, zT_zast, zT_bast, zT_last, zT_aast, zT_iret, zT_nret, zT_aret, zT_vret, zT_oi, zT_mm, zT_ialX, zT_S1, zT_S2, zT_S3, zT_V0, zT_V1, zT_V2, zT_V3, zT_V4, zT_V5, zT_V6, zT_I0, zT_I1, zT_I2, zlg, zlset, zlpr, zent, zok, va_rf, List.length_cons, List.length_nil, List.replicate, List.cons_append, List.nil_append, List.append_nil, Option.toList_some, Option.toList_none, Option.toList, Nat.reduceAdd, Nat.reduceSub, Nat.reduceLeDiff, Nat.zero_add, Nat.zero_le, true_and, and_true, Nat.le_refl, ge_iff_le, Nat.reduceEqDiff]
      refine ⟨22, q22, rfl, by decide, by decide, (by show M.1.length ≤ M.1.length + 4; omega), (by show zss M.1 + 20 ≤ zss M.1 + 100; omega), (by decide : (22 : Nat) < 2000), ?_⟩
      refine ⟨23, (by show 23 ∉ M.1 ++ [22]; simp [q23]), rfl, by decide, by decide, (by show (M.1 ++ [22]).length ≤ M.1.length + 4; simp only [List.length_append, List.length_singleton]; omega), (by show zss (M.1 ++ [22]) + 20 ≤ zss M.1 + 100; simp only [zss_app, show zsz 22 = 20 from rfl]; omega), (by decide : (23 : Nat) < 2000), ?_⟩
      refine ⟨24, (by show 24 ∉ M.1 ++ [22] ++ [23]; simp [q24]), rfl, by decide, by decide, (by show (M.1 ++ [22] ++ [23]).length ≤ M.1.length + 4; simp only [List.length_append, List.length_singleton]; omega), (by show zss (M.1 ++ [22] ++ [23]) + 20 ≤ zss M.1 + 100; simp only [zss_app, show zsz 22 = 20 from rfl, show zsz 23 = 20 from rfl]; omega), (by decide : (24 : Nat) < 2000), ?_⟩
      refine ⟨25, (by show 25 ∉ M.1 ++ [22] ++ [23] ++ [24]; simp [q25]), rfl, by decide, by decide, (by show (M.1 ++ [22] ++ [23] ++ [24]).length ≤ M.1.length + 4; simp only [List.length_append, List.length_singleton]; omega), (by show zss (M.1 ++ [22] ++ [23] ++ [24]) + 20 ≤ zss M.1 + 100; simp only [zss_app, show zsz 22 = 20 from rfl, show zsz 23 = 20 from rfl, show zsz 24 = 20 from rfl]; omega), (by decide : (25 : Nat) < 2000), ?_⟩
      refine ⟨26, (by show 26 ∉ M.1 ++ [22] ++ [23] ++ [24] ++ [25]; simp [q26]), rfl, by decide, by decide, (by show (M.1 ++ [22] ++ [23] ++ [24] ++ [25]).length ≤ M.1.length + 4; simp only [List.length_append, List.length_singleton]; omega), (by show zss (M.1 ++ [22] ++ [23] ++ [24] ++ [25]) + 20 ≤ zss M.1 + 100; simp only [zss_app, show zsz 22 = 20 from rfl, show zsz 23 = 20 from rfl, show zsz 24 = 20 from rfl, show zsz 25 = 20 from rfl]; omega), (by decide : (26 : Nat) < 2000), ?_⟩
      exact h
    · have q28 : 28 ∉ M.1 := hq 0 (by decide)
      have q29 : 29 ∉ M.1 := hq 1 (by decide)
      have q30 : 30 ∉ M.1 := hq 2 (by decide)
      have q31 : 31 ∉ M.1 := hq 3 (by decide)
      have q32 : 32 ∉ M.1 := hq 4 (by decide)
      refine ⟨by simp [zent], ?_⟩
      simp only [zb_X2_init_0, zT_newa, zsh_27, zT_push, zT_bin, zT_div, zT_bil, zT_shl, zT_un, zT_i2l, zT_l2i, zT_lcmp, zT_ild, zT_lld, zT_ald, zT_ist, zT_lst, zT_ast, zT_iinc, zT_dup, zT_dup2, zT_pop, zT_if1, zT_if2, zT_ifn, zT_getI, zT_getJ, zT_getR, zT_putI, zT_putZ, zT_putJ, zT_putR, zT_ald0, zT_lald, zT_aald, zT_iast, zT_zast, zT_bast, zT_last, zT_aast, zT_iret, zT_nret, zT_aret, zT_vret, zT_oi, zT_mm, zT_ialX, zT_S1, zT_S2, zT_S3, zT_V0, zT_V1, zT_V2, zT_V3, zT_V4, zT_V5, zT_V6, zT_I0, zT_I1, zT_I2, zlg, zlset, zlpr, zent, zok, va_rf, List.length_cons, List.length_nil, List.replicate, List.cons_append, List.nil_append, List.append_nil, Option.toList_some, Option.toList_none, Option.toList, Nat.reduceAdd, Nat.reduceSub, Nat.reduceLeDiff, Nat.zero_add, Nat.zero_le, true_and, and_true, Nat.le_refl, ge_iff_le, Nat.reduceEqDiff]
      refine ⟨28, q28, rfl, by decide, by decide, (by show M.1.length ≤ M.1.length + 4; omega), (by show zss M.1 + 20 ≤ zss M.1 + 100; omega), (by decide : (28 : Nat) < 2000), ?_⟩
      refine ⟨29, (by show 29 ∉ M.1 ++ [28]; simp [q29]), rfl, by decide, by decide, (by show (M.1 ++ [28]).length ≤ M.1.length + 4; simp only [List.length_append, List.length_singleton]; omega), (by show zss (M.1 ++ [28]) + 20 ≤ zss M.1 + 100; simp only [zss_app, show zsz 28 = 20 from rfl]; omega), (by decide : (29 : Nat) < 2000), ?_⟩
      refine ⟨30, (by show 30 ∉ M.1 ++ [28] ++ [29]; simp [q30]), rfl, by decide, by decide, (by show (M.1 ++ [28] ++ [29]).length ≤ M.1.length + 4; simp only [List.length_append, List.length_singleton]; omega), (by show zss (M.1 ++ [28] ++ [29]) + 20 ≤ zss M.1 + 100; simp only [zss_app, show zsz 28 = 20 from rfl, show zsz 29 = 20 from rfl]; omega), (by decide : (30 : Nat) < 2000), ?_⟩
      refine ⟨31, (by show 31 ∉ M.1 ++ [28] ++ [29] ++ [30]; simp [q31]), rfl, by decide, by decide, (by show (M.1 ++ [28] ++ [29] ++ [30]).length ≤ M.1.length + 4; simp only [List.length_append, List.length_singleton]; omega), (by show zss (M.1 ++ [28] ++ [29] ++ [30]) + 20 ≤ zss M.1 + 100; simp only [zss_app, show zsz 28 = 20 from rfl, show zsz 29 = 20 from rfl, show zsz 30 = 20 from rfl]; omega), (by decide : (31 : Nat) < 2000), ?_⟩
      refine ⟨32, (by show 32 ∉ M.1 ++ [28] ++ [29] ++ [30] ++ [31]; simp [q32]), rfl, by decide, by decide, (by show (M.1 ++ [28] ++ [29] ++ [30] ++ [31]).length ≤ M.1.length + 4; simp only [List.length_append, List.length_singleton]; omega), (by show zss (M.1 ++ [28] ++ [29] ++ [30] ++ [31]) + 20 ≤ zss M.1 + 100; simp only [zss_app, show zsz 28 = 20 from rfl, show zsz 29 = 20 from rfl, show zsz 30 = 20 from rfl, show zsz 31 = 20 from rfl]; omega), (by decide : (32 : Nat) < 2000), ?_⟩
      exact h
  · exact h.elim
def zc_X1_init (a : List Value) (M : zMm) (K : zKt) : Prop := match a with
  | [.ref k] => k = 1 ∧ 2 ∉ M.1 ∧ ∀ M', M'.1 = M.1 ++ [2] → M'.2.2.1 = zrw M.2.2.1 2 0 → M'.2.2.2 = zw2 (zrw M.2.2.2 2 none) 1 0 (some 2) → (∀ k, k ≠ 1 → k ≠ 2 → M'.2.1 k = M.2.1 k) → M'.2.1 1 1 = 6 → M'.2.1 1 2 = 6 → M'.2.1 1 3 = 0 → M'.2.1 1 4 = 64 → M'.2.1 1 5 = 40 → (∀ e, e < 120 → M'.2.1 2 e = 50) → K none M'
  | _ => False
set_option maxHeartbeats 4000000 in
theorem zm_X1_init (l : Launch) (D : va_G) (Y : Nat → ClassId) : zMt l D Y yX1_init cX1_init 1 none 1 23 1 120 zc_X1_init := by
  refine zflat (by decide) (fun K J lc lz => zb_X1_init_0 K J lc lz) (fun X hR => zbs_X1_init_0 hR zJ0 zJ0_ok) (fun avs M K h => ?_)
  unfold zc_X1_init at h
  split at h
  · obtain ⟨rfl, q2, h⟩ := h
    refine ⟨by simp [zent], ?_⟩
    simp only [zb_X1_init_0, zT_newa, zsh_1, zT_push, zT_bin, zT_div, zT_bil, zT_shl, zT_un, zT_i2l, zT_l2i, zT_lcmp, zT_ild, zT_lld, zT_ald, zT_ist, zT_lst, zT_ast, zT_iinc, zT_dup, zT_dup2, zT_pop, zT_if1, zT_if2, zT_ifn, zT_getI, zT_getJ, zT_getR, zT_putI, zT_putZ, zT_putJ, zT_putR, zT_ald0, zT_lald, zT_aald, zT_iast, zT_zast, zT_bast, zT_last, zT_aast, zT_iret, zT_nret, zT_aret, zT_vret, zT_oi, zT_mm, zT_ialX, zT_S1, zT_S2, zT_S3, zT_V0, zT_V1, zT_V2, zT_V3, zT_V4, zT_V5, zT_V6, zT_I0, zT_I1, zT_I2, zlg, zlset, zlpr, zent, zok, va_rf, List.length_cons, List.length_nil, List.replicate, List.cons_append, List.nil_append, List.append_nil, Option.toList_some, Option.toList_none, Option.toList, Nat.reduceAdd, Nat.reduceSub, Nat.reduceLeDiff, Nat.zero_add, Nat.zero_le, true_and, and_true, Nat.le_refl, ge_iff_le, Nat.reduceEqDiff]
    refine ⟨2, q2, rfl, by decide, by decide, (by show zss M.1 + 120 ≤ zss M.1 + 120; omega), (by decide : (2 : Nat) < 2000), ?_⟩
    unfold zc_X1_layOut
    dsimp only
    refine ⟨rfl, by simp only [zwI_L, zwI_I, zwI_J, zwI_R, zwJ_L, zwJ_I, zwJ_J, zwJ_R, zwR_L, zwR_I, zwR_J, zwR_R, zw2_s, zw2_n, ne_eq, not_false_eq_true, reduceCtorEq, not_true_eq_false, Nat.reduceEqDiff]; rw [zup_s], fun M' hs g1 g2 g3 g4 g5 g6 => ?_⟩
    refine h M' (by rw [hs.1]; rfl) (by rw [hs.J]; rfl) (by rw [hs.R]; rfl) (fun k k1 k2 => ?_) g1 g2 g3 ?_ ?_ g6
    · rw [hs.at (by simp; omega)]
      simp only [zwI_L, zwI_I, zwI_J, zwI_R, zwJ_L, zwJ_I, zwJ_J, zwJ_R, zwR_L, zwR_I, zwR_J, zwR_R, zw2_s, zw2_n, ne_eq, not_false_eq_true, reduceCtorEq, not_true_eq_false, Nat.reduceEqDiff]
      show zw2 (zw2 (zrw _ _ _) _ _ _) _ _ _ k = _
      rw [zw2_n k1, zw2_n k1, zrw_n k2]
    · rw [g4]
      simp only [zwI_L, zwI_I, zwI_J, zwI_R, zwJ_L, zwJ_I, zwJ_J, zwJ_R, zwR_L, zwR_I, zwR_J, zwR_R, zw2_s, zw2_n, ne_eq, not_false_eq_true, reduceCtorEq, not_true_eq_false, Nat.reduceEqDiff]
      rw [zup_n (by decide), zup_s]
    · rw [g5]
      simp only [zwI_L, zwI_I, zwI_J, zwI_R, zwJ_L, zwJ_I, zwJ_J, zwJ_R, zwR_L, zwR_I, zwR_J, zwR_R, zw2_s, zw2_n, ne_eq, not_false_eq_true, reduceCtorEq, not_true_eq_false, Nat.reduceEqDiff]
      rw [zup_s]
  · exact h.elim
