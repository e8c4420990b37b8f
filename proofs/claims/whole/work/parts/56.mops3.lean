/-! DeltaRunsModel spring -/
theorem zd_X8_spring_0 : decode cX8_spring 0 = .ok (.aload_n 0, 1) := by decide +kernel
theorem zd_X8_spring_1 : decode cX8_spring 1 = .ok (.iconst 0, 1) := by decide +kernel
theorem zd_X8_spring_2 : decode cX8_spring 2 = .ok (.putfield 93, 3) := by decide +kernel
theorem zd_X8_spring_5 : decode cX8_spring 5 = .ok (.iload_n 3, 1) := by decide +kernel
theorem zd_X8_spring_6 : decode cX8_spring 6 = .ok (.i2l, 1) := by decide +kernel
theorem zd_X8_spring_7 : decode cX8_spring 7 = .ok (.lconst 0, 1) := by decide +kernel
theorem zd_X8_spring_8 : decode cX8_spring 8 = .ok (.ldc2_w 125, 3) := by decide +kernel
theorem zd_X8_spring_11 : decode cX8_spring 11 = .ok (.invokestatic 105, 3) := by decide +kernel
theorem zd_X8_spring_14 : decode cX8_spring 14 = .ok (.ifCond .ne 9, 3) := by decide +kernel
theorem zd_X8_spring_17 : decode cX8_spring 17 = .ok (.aload_n 0, 1) := by decide +kernel
theorem zd_X8_spring_18 : decode cX8_spring 18 = .ok (.iconst (-1), 1) := by decide +kernel
theorem zd_X8_spring_19 : decode cX8_spring 19 = .ok (.invokevirtual 115, 3) := by decide +kernel
theorem zd_X8_spring_22 : decode cX8_spring 22 = .ok (.ireturn, 1) := by decide +kernel
theorem zd_X8_spring_23 : decode cX8_spring 23 = .ok (.aload_n 0, 1) := by decide +kernel
theorem zd_X8_spring_24 : decode cX8_spring 24 = .ok (.iload_n 1, 1) := by decide +kernel
theorem zd_X8_spring_25 : decode cX8_spring 25 = .ok (.iload_n 2, 1) := by decide +kernel
theorem zd_X8_spring_26 : decode cX8_spring 26 = .ok (.invokevirtual 121, 3) := by decide +kernel
theorem zd_X8_spring_29 : decode cX8_spring 29 = .ok (.ifCond .ne 10, 3) := by decide +kernel
theorem zd_X8_spring_32 : decode cX8_spring 32 = .ok (.aload_n 0, 1) := by decide +kernel
theorem zd_X8_spring_33 : decode cX8_spring 33 = .ok (.bipush (-2), 2) := by decide +kernel
theorem zd_X8_spring_35 : decode cX8_spring 35 = .ok (.invokevirtual 115, 3) := by decide +kernel
theorem zd_X8_spring_38 : decode cX8_spring 38 = .ok (.ireturn, 1) := by decide +kernel
theorem zd_X8_spring_39 : decode cX8_spring 39 = .ok (.aload_n 0, 1) := by decide +kernel
theorem zd_X8_spring_40 : decode cX8_spring 40 = .ok (.iload_n 2, 1) := by decide +kernel
theorem zd_X8_spring_41 : decode cX8_spring 41 = .ok (.aload_n 0, 1) := by decide +kernel
theorem zd_X8_spring_42 : decode cX8_spring 42 = .ok (.getfield 7, 3) := by decide +kernel
theorem zd_X8_spring_45 : decode cX8_spring 45 = .ok (.imul, 1) := by decide +kernel
theorem zd_X8_spring_46 : decode cX8_spring 46 = .ok (.iload_n 1, 1) := by decide +kernel
theorem zd_X8_spring_47 : decode cX8_spring 47 = .ok (.iadd, 1) := by decide +kernel
theorem zd_X8_spring_48 : decode cX8_spring 48 = .ok (.putfield 99, 3) := by decide +kernel
theorem zd_X8_spring_51 : decode cX8_spring 51 = .ok (.aload_n 0, 1) := by decide +kernel
theorem zd_X8_spring_52 : decode cX8_spring 52 = .ok (.iload_n 3, 1) := by decide +kernel
theorem zd_X8_spring_53 : decode cX8_spring 53 = .ok (.putfield 19, 3) := by decide +kernel
theorem zd_X8_spring_56 : decode cX8_spring 56 = .ok (.aload_n 0, 1) := by decide +kernel
theorem zd_X8_spring_57 : decode cX8_spring 57 = .ok (.iconst 0, 1) := by decide +kernel
theorem zd_X8_spring_58 : decode cX8_spring 58 = .ok (.invokevirtual 115, 3) := by decide +kernel
theorem zd_X8_spring_61 : decode cX8_spring 61 = .ok (.ireturn, 1) := by decide +kernel
def zb_X8_spring_0 (K : zKt) (J : Nat → zPP) : zPP := zT_ald 0 (zT_push (.int 0) (zT_putI 8 0 38 (zT_ild 3 (zT_i2l (zT_push (.long 0) (zT_push (.long 1000) (zT_S3 zok zc_X8_in (zT_if1 (fun x => x = 0) (zT_ald 0 (zT_push (.int (-1)) (zT_V1 zok 8 38 zc_X8_told (zT_iret K)))) (zT_ald 0 (zT_ild 1 (zT_ild 2 (zT_V2 zok 8 38 zc_X8_isCell (zT_if1 (fun x => x = 0) (zT_ald 0 (zT_push (.int (-2)) (zT_V1 zok 8 38 zc_X8_told (zT_iret K)))) (zT_ald 0 (zT_ild 2 (zT_ald 0 (zT_getI 8 2 38 (zT_bin (fun x y => x * y) (zT_ild 1 (zT_bin (fun x y => x + y) (zT_putI 8 5 38 (zT_ald 0 (zT_ild 3 (zT_putI 8 6 38 (zT_ald 0 (zT_push (.int 0) (zT_V1 zok 8 38 zc_X8_told (zT_iret K))))))))))))))))))))))))))))
theorem zbs_X8_spring_0 {X : zCt} (hR : zRX X = { frames := 2, cells := 0, slots := 0, locals := 47 }) (J : Nat → zPP) (hJ : ∀ h ∈ ([] : List Nat), zSd X RX8 "spring" cX8_spring 4 (some .int) h (J h)) : zSd X RX8 "spring" cX8_spring 4 (some .int) 0 (zb_X8_spring_0 (zKX X) J) := zs_aload_n zd_X8_spring_0 rfl (zs_iconst zd_X8_spring_1 (by decide) (zs_putI (ci := 8) (j := 0) (T := TX8) rfl inX8 tyX8_ok nmX8 (by decide) gw_3_89 rfl rfl rfl zd_X8_spring_2 (zs_iload_n zd_X8_spring_5 rfl (zs_i2l zd_X8_spring_6 (zs_lconst zd_X8_spring_7 (by decide) (zs_ldc2 zd_X8_spring_8 gw_3_235 (zs_S (zm_X8_in _ _ _) gw_3_212 gw_3_210 gw_3_211 gw_1_7 zdn_X8_in (zrm hR (by decide) (by decide)) zd_X8_spring_11 (zCl_S3 zok_l) (zs_if_ne (tgt := 23) zd_X8_spring_14 (by decide) (zs_aload_n zd_X8_spring_23 rfl (zs_iload_n zd_X8_spring_24 rfl (zs_iload_n zd_X8_spring_25 rfl (zs_V (ci := 8) rfl rfl (zm_X8_isCell _ _ _) gw_3_226 gw_3_223 gw_3_225 gw_0_24 gw_1_7 zdn_X8_isCell (zrm hR (by decide) (by decide)) zd_X8_spring_26 (zCl_V2 zok_l) (zs_if_ne (tgt := 39) zd_X8_spring_29 (by decide) (zs_aload_n zd_X8_spring_39 rfl (zs_iload_n zd_X8_spring_40 rfl (zs_aload_n zd_X8_spring_41 rfl (zs_getI (ci := 8) (j := 2) (T := TX8) rfl inX8 (by decide) gw_3_91 rfl zd_X8_spring_42 (zs_imul zd_X8_spring_45 (zs_iload_n zd_X8_spring_46 rfl (zs_iadd zd_X8_spring_47 (zs_putI (ci := 8) (j := 5) (T := TX8) rfl inX8 tyX8_ok nmX8 (by decide) gw_3_94 rfl rfl rfl zd_X8_spring_48 (zs_aload_n zd_X8_spring_51 rfl (zs_iload_n zd_X8_spring_52 rfl (zs_putI (ci := 8) (j := 6) (T := TX8) rfl inX8 tyX8_ok nmX8 (by decide) gw_3_95 rfl rfl rfl zd_X8_spring_53 (zs_aload_n zd_X8_spring_56 rfl (zs_iconst zd_X8_spring_57 (by decide) (zs_V (ci := 8) rfl rfl (zm_X8_told _ _ _) gw_3_217 gw_3_214 gw_3_216 gw_0_23 gw_1_7 zdn_X8_told (zrm hR (by decide) (by decide)) zd_X8_spring_58 (zCl_V1 zok_l) (zs_iret rfl zd_X8_spring_61))))))))))))))) (zs_aload_n zd_X8_spring_32 rfl (zs_bipush zd_X8_spring_33 (by decide) (zs_V (ci := 8) rfl rfl (zm_X8_told _ _ _) gw_3_217 gw_3_214 gw_3_216 gw_0_23 gw_1_7 zdn_X8_told (zrm hR (by decide) (by decide)) zd_X8_spring_35 (zCl_V1 zok_l) (zs_iret rfl zd_X8_spring_38))))))))) (zs_aload_n zd_X8_spring_17 rfl (zs_iconst zd_X8_spring_18 (by decide) (zs_V (ci := 8) rfl rfl (zm_X8_told _ _ _) gw_3_217 gw_3_214 gw_3_216 gw_0_23 gw_1_7 zdn_X8_told (zrm hR (by decide) (by decide)) zd_X8_spring_19 (zCl_V1 zok_l) (zs_iret rfl zd_X8_spring_22))))))))))))
theorem zdn_X8_spring : yX8_spring.cls ≠ "java/lang/invoke/MethodHandle" ∧ yX8_spring.cls ≠ "java/lang/invoke/VarHandle" ∧ (parseMethodDescriptor yX8_spring.desc).map (fun d => d.parameters.length) = some 3 := by decide +kernel
/-! DeltaRunsModel count -/
theorem zd_X8_count_0 : decode cX8_count 0 = .ok (.aload_n 0, 1) := by decide +kernel
theorem zd_X8_count_1 : decode cX8_count 1 = .ok (.iconst 0, 1) := by decide +kernel
theorem zd_X8_count_2 : decode cX8_count 2 = .ok (.putfield 93, 3) := by decide +kernel
theorem zd_X8_count_5 : decode cX8_count 5 = .ok (.iload_n 1, 1) := by decide +kernel
theorem zd_X8_count_6 : decode cX8_count 6 = .ok (.tableswitch 77 0 6 #[42, 47, 52, 57, 62, 67, 72], 42) := by decide +kernel
theorem zd_X8_count_48 : decode cX8_count 48 = .ok (.aload_n 0, 1) := by decide +kernel
theorem zd_X8_count_49 : decode cX8_count 49 = .ok (.getfield 7, 3) := by decide +kernel
theorem zd_X8_count_52 : decode cX8_count 52 = .ok (.ireturn, 1) := by decide +kernel
theorem zd_X8_count_53 : decode cX8_count 53 = .ok (.aload_n 0, 1) := by decide +kernel
theorem zd_X8_count_54 : decode cX8_count 54 = .ok (.getfield 13, 3) := by decide +kernel
theorem zd_X8_count_57 : decode cX8_count 57 = .ok (.ireturn, 1) := by decide +kernel
theorem zd_X8_count_58 : decode cX8_count 58 = .ok (.aload_n 0, 1) := by decide +kernel
theorem zd_X8_count_59 : decode cX8_count 59 = .ok (.getfield 16, 3) := by decide +kernel
theorem zd_X8_count_62 : decode cX8_count 62 = .ok (.ireturn, 1) := by decide +kernel
theorem zd_X8_count_63 : decode cX8_count 63 = .ok (.aload_n 0, 1) := by decide +kernel
theorem zd_X8_count_64 : decode cX8_count 64 = .ok (.getfield 19, 3) := by decide +kernel
theorem zd_X8_count_67 : decode cX8_count 67 = .ok (.ireturn, 1) := by decide +kernel
theorem zd_X8_count_68 : decode cX8_count 68 = .ok (.aload_n 0, 1) := by decide +kernel
theorem zd_X8_count_69 : decode cX8_count 69 = .ok (.getfield 195, 3) := by decide +kernel
theorem zd_X8_count_72 : decode cX8_count 72 = .ok (.ireturn, 1) := by decide +kernel
theorem zd_X8_count_73 : decode cX8_count 73 = .ok (.aload_n 0, 1) := by decide +kernel
theorem zd_X8_count_74 : decode cX8_count 74 = .ok (.getfield 102, 3) := by decide +kernel
theorem zd_X8_count_77 : decode cX8_count 77 = .ok (.ireturn, 1) := by decide +kernel
theorem zd_X8_count_78 : decode cX8_count 78 = .ok (.aload_n 0, 1) := by decide +kernel
theorem zd_X8_count_79 : decode cX8_count 79 = .ok (.getfield 127, 3) := by decide +kernel
theorem zd_X8_count_82 : decode cX8_count 82 = .ok (.ireturn, 1) := by decide +kernel
theorem zd_X8_count_83 : decode cX8_count 83 = .ok (.iconst (-1), 1) := by decide +kernel
theorem zd_X8_count_84 : decode cX8_count 84 = .ok (.ireturn, 1) := by decide +kernel
def zb_X8_count_0 (K : zKt) (J : Nat → zPP) : zPP := zT_ald 0 (zT_push (.int 0) (zT_putI 8 0 38 (zT_ild 1 (zT_tab 0 [zT_ald 0 (zT_getI 8 2 38 (zT_iret K)), zT_ald 0 (zT_getI 8 3 38 (zT_iret K)), zT_ald 0 (zT_getI 8 4 38 (zT_iret K)), zT_ald 0 (zT_getI 8 6 38 (zT_iret K)), zT_ald 0 (zT_getI 8 8 38 (zT_iret K)), zT_ald 0 (zT_getI 8 31 38 (zT_iret K)), zT_ald 0 (zT_getI 8 17 38 (zT_iret K))] (zT_push (.int (-1)) (zT_iret K))))))
theorem zbs_X8_count_0 {X : zCt} (hR : zRX X = { frames := 0, cells := 0, slots := 0, locals := 0 }) (J : Nat → zPP) (hJ : ∀ h ∈ ([] : List Nat), zSd X RX8 "count" cX8_count 2 (some .int) h (J h)) : zSd X RX8 "count" cX8_count 2 (some .int) 0 (zb_X8_count_0 (zKX X) J) := zs_aload_n zd_X8_count_0 rfl (zs_iconst zd_X8_count_1 (by decide) (zs_putI (ci := 8) (j := 0) (T := TX8) rfl inX8 tyX8_ok nmX8 (by decide) gw_3_89 rfl rfl rfl zd_X8_count_2 (zs_iload_n zd_X8_count_5 rfl (zs_tab (tgts := [48, 53, 58, 63, 68, 73, 78]) zd_X8_count_6 (by decide) (by rfl) rfl (by rfl) (fun j q t h1 h2 => match j, q, t, h1, h2 with
    | 0, q, t, h1, h2 => by
      cases h1
      cases h2
      exact zs_aload_n zd_X8_count_48 rfl (zs_getI (ci := 8) (j := 2) (T := TX8) rfl inX8 (by decide) gw_3_91 rfl zd_X8_count_49 (zs_iret rfl zd_X8_count_52))
    | 1, q, t, h1, h2 => by
      cases h1
      cases h2
      exact zs_aload_n zd_X8_count_53 rfl (zs_getI (ci := 8) (j := 3) (T := TX8) rfl inX8 (by decide) gw_3_92 rfl zd_X8_count_54 (zs_iret rfl zd_X8_count_57))
    | 2, q, t, h1, h2 => by
      cases h1
      cases h2
      exact zs_aload_n zd_X8_count_58 rfl (zs_getI (ci := 8) (j := 4) (T := TX8) rfl inX8 (by decide) gw_3_93 rfl zd_X8_count_59 (zs_iret rfl zd_X8_count_62))
    | 3, q, t, h1, h2 => by
      cases h1
      cases h2
      exact zs_aload_n zd_X8_count_63 rfl (zs_getI (ci := 8) (j := 6) (T := TX8) rfl inX8 (by decide) gw_3_95 rfl zd_X8_count_64 (zs_iret rfl zd_X8_count_67))
    | 4, q, t, h1, h2 => by
      cases h1
      cases h2
      exact zs_aload_n zd_X8_count_68 rfl (zs_getI (ci := 8) (j := 8) (T := TX8) rfl inX8 (by decide) gw_3_97 rfl zd_X8_count_69 (zs_iret rfl zd_X8_count_72))
    | 5, q, t, h1, h2 => by
      cases h1
      cases h2
      exact zs_aload_n zd_X8_count_73 rfl (zs_getI (ci := 8) (j := 31) (T := TX8) rfl inX8 (by decide) gw_3_120 rfl zd_X8_count_74 (zs_iret rfl zd_X8_count_77))
    | 6, q, t, h1, h2 => by
      cases h1
      cases h2
      exact zs_aload_n zd_X8_count_78 rfl (zs_getI (ci := 8) (j := 17) (T := TX8) rfl inX8 (by decide) gw_3_106 rfl zd_X8_count_79 (zs_iret rfl zd_X8_count_82))
    | j + 7, q, t, h1, h2 => by cases h1) (zs_iconst zd_X8_count_83 (by decide) (zs_iret rfl zd_X8_count_84))))))
theorem zdn_X8_count : yX8_count.cls ≠ "java/lang/invoke/MethodHandle" ∧ yX8_count.cls ≠ "java/lang/invoke/VarHandle" ∧ (parseMethodDescriptor yX8_count.desc).map (fun d => d.parameters.length) = some 1 := by decide +kernel
/-! DeltaRunsModel four -/
theorem zd_X8_four_0 : decode cX8_four 0 = .ok (.bipush 24, 2) := by decide +kernel
theorem zd_X8_four_2 : decode cX8_four 2 = .ok (.istore_n 2, 1) := by decide +kernel
theorem zd_X8_four_3 : decode cX8_four 3 = .ok (.iload_n 2, 1) := by decide +kernel
theorem zd_X8_four_4 : decode cX8_four 4 = .ok (.ifCond .lt 35, 3) := by decide +kernel
theorem zd_X8_four_7 : decode cX8_four 7 = .ok (.aload_n 0, 1) := by decide +kernel
theorem zd_X8_four_8 : decode cX8_four 8 = .ok (.getfield 44, 3) := by decide +kernel
theorem zd_X8_four_11 : decode cX8_four 11 = .ok (.aload_n 0, 1) := by decide +kernel
theorem zd_X8_four_12 : decode cX8_four 12 = .ok (.getfield 127, 3) := by decide +kernel
theorem zd_X8_four_15 : decode cX8_four 15 = .ok (.iload_n 1, 1) := by decide +kernel
theorem zd_X8_four_16 : decode cX8_four 16 = .ok (.iload_n 2, 1) := by decide +kernel
theorem zd_X8_four_17 : decode cX8_four 17 = .ok (.ishr, 1) := by decide +kernel
theorem zd_X8_four_18 : decode cX8_four 18 = .ok (.sipush 255, 3) := by decide +kernel
theorem zd_X8_four_21 : decode cX8_four 21 = .ok (.iand, 1) := by decide +kernel
theorem zd_X8_four_22 : decode cX8_four 22 = .ok (.iastore, 1) := by decide +kernel
theorem zd_X8_four_23 : decode cX8_four 23 = .ok (.aload_n 0, 1) := by decide +kernel
theorem zd_X8_four_24 : decode cX8_four 24 = .ok (.dup, 1) := by decide +kernel
theorem zd_X8_four_25 : decode cX8_four 25 = .ok (.getfield 127, 3) := by decide +kernel
theorem zd_X8_four_28 : decode cX8_four 28 = .ok (.iconst 1, 1) := by decide +kernel
theorem zd_X8_four_29 : decode cX8_four 29 = .ok (.iadd, 1) := by decide +kernel
theorem zd_X8_four_30 : decode cX8_four 30 = .ok (.putfield 127, 3) := by decide +kernel
theorem zd_X8_four_33 : decode cX8_four 33 = .ok (.iinc 2 (-8), 3) := by decide +kernel
theorem zd_X8_four_36 : decode cX8_four 36 = .ok (.goto (-33), 3) := by decide +kernel
theorem zd_X8_four_39 : decode cX8_four 39 = .ok (.return_, 1) := by decide +kernel
def zb_X8_four_0 (K : zKt) (J : Nat → zPP) : zPP := zT_push (.int 24) (zT_ist 2 (J 3))
theorem zbs_X8_four_0 {X : zCt} (hR : zRX X = { frames := 0, cells := 0, slots := 0, locals := 0 }) (J : Nat → zPP) (hJ : ∀ h ∈ ([3] : List Nat), zSd X RX8 "four" cX8_four 3 none h (J h)) : zSd X RX8 "four" cX8_four 3 none 0 (zb_X8_four_0 (zKX X) J) := zs_bipush zd_X8_four_0 (by decide) (zs_istore_n zd_X8_four_2 rfl (by decide) (hJ 3 (by decide)))
def zb_X8_four_3 (K : zKt) (J : Nat → zPP) : zPP := zT_ild 2 (zT_if1 (fun x => x < 0) (zT_vret K) (zT_ald 0 (zT_getR 8 16 38 (zT_ald 0 (zT_getI 8 17 38 (zT_ild 1 (zT_ild 2 (zT_bin (fun x y => x >>> (y &&& 31)) (zT_push (.int 255) (zT_bin (fun x y => x &&& y) (zT_iast (zT_ald 0 (zT_dup (zT_getI 8 17 38 (zT_push (.int 1) (zT_bin (fun x y => x + y) (zT_putI 8 17 38 (zT_iinc 2 (-8) (J 3)))))))))))))))))))
theorem zbs_X8_four_3 {X : zCt} (hR : zRX X = { frames := 0, cells := 0, slots := 0, locals := 0 }) (J : Nat → zPP) (hJ : ∀ h ∈ ([3] : List Nat), zSd X RX8 "four" cX8_four 3 none h (J h)) : zSd X RX8 "four" cX8_four 3 none 3 (zb_X8_four_3 (zKX X) J) := zs_iload_n zd_X8_four_3 rfl (zs_if_lt (tgt := 39) zd_X8_four_4 (by decide) (zs_vret rfl zd_X8_four_39) (zs_aload_n zd_X8_four_7 rfl (zs_getR (ci := 8) (j := 16) (T := TX8) rfl inX8 (by decide) gw_3_105 rfl zd_X8_four_8 (zs_aload_n zd_X8_four_11 rfl (zs_getI (ci := 8) (j := 17) (T := TX8) rfl inX8 (by decide) gw_3_106 rfl zd_X8_four_12 (zs_iload_n zd_X8_four_15 rfl (zs_iload_n zd_X8_four_16 rfl (zs_ishr zd_X8_four_17 (zs_sipush zd_X8_four_18 (by decide) (zs_iand zd_X8_four_21 (zs_iast zd_X8_four_22 (zs_aload_n zd_X8_four_23 rfl (zs_dup zd_X8_four_24 (zs_getI (ci := 8) (j := 17) (T := TX8) rfl inX8 (by decide) gw_3_106 rfl zd_X8_four_25 (zs_iconst zd_X8_four_28 (by decide) (zs_iadd zd_X8_four_29 (zs_putI (ci := 8) (j := 17) (T := TX8) rfl inX8 tyX8_ok nmX8 (by decide) gw_3_106 rfl rfl rfl zd_X8_four_30 (zs_iinc zd_X8_four_33 (by decide) (by decide) (zs_goto (tgt := 3) zd_X8_four_36 (by decide) (hJ 3 (by decide)))))))))))))))))))))
def zB_X8_four (K : zKt) (J : Nat → zPP) (h : Nat) : zPP := if h = 3 then zb_X8_four_3 K J else (fun _ _ _ => False)
theorem zBs_X8_four {X : zCt} (hR : zRX X = { frames := 0, cells := 0, slots := 0, locals := 0 }) : ∀ J : Nat → zPP, (∀ h ∈ ([3] : List Nat), zSd X RX8 "four" cX8_four 3 none h (J h)) → ∀ h ∈ ([3] : List Nat), zSd X RX8 "four" cX8_four 3 none h (zB_X8_four (zKX X) J h) := by
  intro J hJ h hh
  unfold zB_X8_four
  simp only [List.mem_cons, List.not_mem_nil, or_false] at hh
  subst hh
  exact zbs_X8_four_3 hR J hJ
theorem zdn_X8_four : yX8_four.cls ≠ "java/lang/invoke/MethodHandle" ∧ yX8_four.cls ≠ "java/lang/invoke/VarHandle" ∧ (parseMethodDescriptor yX8_four.desc).map (fun d => d.parameters.length) = some 1 := by decide +kernel
/-! DeltaRunsModel map -/
theorem zd_X8_map_0 : decode cX8_map 0 = .ok (.aload_n 0, 1) := by decide +kernel
theorem zd_X8_map_1 : decode cX8_map 1 = .ok (.iconst 0, 1) := by decide +kernel
theorem zd_X8_map_2 : decode cX8_map 2 = .ok (.putfield 93, 3) := by decide +kernel
theorem zd_X8_map_5 : decode cX8_map 5 = .ok (.iload_n 1, 1) := by decide +kernel
theorem zd_X8_map_6 : decode cX8_map 6 = .ok (.invokestatic 227, 3) := by decide +kernel
theorem zd_X8_map_9 : decode cX8_map 9 = .ok (.ifCond .eq 29, 3) := by decide +kernel
theorem zd_X8_map_12 : decode cX8_map 12 = .ok (.iload 4, 2) := by decide +kernel
theorem zd_X8_map_14 : decode cX8_map 14 = .ok (.i2l, 1) := by decide +kernel
theorem zd_X8_map_15 : decode cX8_map 15 = .ok (.lconst 0, 1) := by decide +kernel
theorem zd_X8_map_16 : decode cX8_map 16 = .ok (.ldc2_w 119, 3) := by decide +kernel
theorem zd_X8_map_19 : decode cX8_map 19 = .ok (.invokestatic 105, 3) := by decide +kernel
theorem zd_X8_map_22 : decode cX8_map 22 = .ok (.ifCond .eq 16, 3) := by decide +kernel
theorem zd_X8_map_25 : decode cX8_map 25 = .ok (.iload 5, 2) := by decide +kernel
theorem zd_X8_map_27 : decode cX8_map 27 = .ok (.i2l, 1) := by decide +kernel
theorem zd_X8_map_28 : decode cX8_map 28 = .ok (.lconst 0, 1) := by decide +kernel
theorem zd_X8_map_29 : decode cX8_map 29 = .ok (.ldc2_w 125, 3) := by decide +kernel
theorem zd_X8_map_32 : decode cX8_map 32 = .ok (.invokestatic 105, 3) := by decide +kernel
theorem zd_X8_map_35 : decode cX8_map 35 = .ok (.ifCond .ne 9, 3) := by decide +kernel
theorem zd_X8_map_38 : decode cX8_map 38 = .ok (.aload_n 0, 1) := by decide +kernel
theorem zd_X8_map_39 : decode cX8_map 39 = .ok (.iconst (-1), 1) := by decide +kernel
theorem zd_X8_map_40 : decode cX8_map 40 = .ok (.invokevirtual 115, 3) := by decide +kernel
theorem zd_X8_map_43 : decode cX8_map 43 = .ok (.ireturn, 1) := by decide +kernel
theorem zd_X8_map_44 : decode cX8_map 44 = .ok (.aload_n 0, 1) := by decide +kernel
theorem zd_X8_map_45 : decode cX8_map 45 = .ok (.iload_n 2, 1) := by decide +kernel
theorem zd_X8_map_46 : decode cX8_map 46 = .ok (.iload_n 3, 1) := by decide +kernel
theorem zd_X8_map_47 : decode cX8_map 47 = .ok (.invokevirtual 121, 3) := by decide +kernel
theorem zd_X8_map_50 : decode cX8_map 50 = .ok (.ifCond .ne 10, 3) := by decide +kernel
theorem zd_X8_map_53 : decode cX8_map 53 = .ok (.aload_n 0, 1) := by decide +kernel
theorem zd_X8_map_54 : decode cX8_map 54 = .ok (.bipush (-2), 2) := by decide +kernel
theorem zd_X8_map_56 : decode cX8_map 56 = .ok (.invokevirtual 115, 3) := by decide +kernel
theorem zd_X8_map_59 : decode cX8_map 59 = .ok (.ireturn, 1) := by decide +kernel
theorem zd_X8_map_60 : decode cX8_map 60 = .ok (.aload_n 0, 1) := by decide +kernel
theorem zd_X8_map_61 : decode cX8_map 61 = .ok (.getfield 102, 3) := by decide +kernel
theorem zd_X8_map_64 : decode cX8_map 64 = .ok (.sipush 200, 3) := by decide +kernel
theorem zd_X8_map_67 : decode cX8_map 67 = .ok (.if_icmp .ne 10, 3) := by decide +kernel
theorem zd_X8_map_70 : decode cX8_map 70 = .ok (.aload_n 0, 1) := by decide +kernel
theorem zd_X8_map_71 : decode cX8_map 71 = .ok (.bipush (-5), 2) := by decide +kernel
theorem zd_X8_map_73 : decode cX8_map 73 = .ok (.invokevirtual 115, 3) := by decide +kernel
theorem zd_X8_map_76 : decode cX8_map 76 = .ok (.ireturn, 1) := by decide +kernel
theorem zd_X8_map_77 : decode cX8_map 77 = .ok (.aload_n 0, 1) := by decide +kernel
theorem zd_X8_map_78 : decode cX8_map 78 = .ok (.getfield 72, 3) := by decide +kernel
theorem zd_X8_map_81 : decode cX8_map 81 = .ok (.aload_n 0, 1) := by decide +kernel
theorem zd_X8_map_82 : decode cX8_map 82 = .ok (.getfield 102, 3) := by decide +kernel
theorem zd_X8_map_85 : decode cX8_map 85 = .ok (.iload_n 1, 1) := by decide +kernel
theorem zd_X8_map_86 : decode cX8_map 86 = .ok (.iastore, 1) := by decide +kernel
theorem zd_X8_map_87 : decode cX8_map 87 = .ok (.aload_n 0, 1) := by decide +kernel
theorem zd_X8_map_88 : decode cX8_map 88 = .ok (.getfield 75, 3) := by decide +kernel
theorem zd_X8_map_91 : decode cX8_map 91 = .ok (.aload_n 0, 1) := by decide +kernel
theorem zd_X8_map_92 : decode cX8_map 92 = .ok (.getfield 102, 3) := by decide +kernel
theorem zd_X8_map_95 : decode cX8_map 95 = .ok (.iload_n 3, 1) := by decide +kernel
theorem zd_X8_map_96 : decode cX8_map 96 = .ok (.aload_n 0, 1) := by decide +kernel
theorem zd_X8_map_97 : decode cX8_map 97 = .ok (.getfield 7, 3) := by decide +kernel
theorem zd_X8_map_100 : decode cX8_map 100 = .ok (.imul, 1) := by decide +kernel
theorem zd_X8_map_101 : decode cX8_map 101 = .ok (.iload_n 2, 1) := by decide +kernel
theorem zd_X8_map_102 : decode cX8_map 102 = .ok (.iadd, 1) := by decide +kernel
theorem zd_X8_map_103 : decode cX8_map 103 = .ok (.iastore, 1) := by decide +kernel
theorem zd_X8_map_104 : decode cX8_map 104 = .ok (.aload_n 0, 1) := by decide +kernel
theorem zd_X8_map_105 : decode cX8_map 105 = .ok (.getfield 78, 3) := by decide +kernel
theorem zd_X8_map_108 : decode cX8_map 108 = .ok (.aload_n 0, 1) := by decide +kernel
theorem zd_X8_map_109 : decode cX8_map 109 = .ok (.getfield 102, 3) := by decide +kernel
theorem zd_X8_map_112 : decode cX8_map 112 = .ok (.iload 4, 2) := by decide +kernel
theorem zd_X8_map_114 : decode cX8_map 114 = .ok (.iastore, 1) := by decide +kernel
theorem zd_X8_map_115 : decode cX8_map 115 = .ok (.aload_n 0, 1) := by decide +kernel
theorem zd_X8_map_116 : decode cX8_map 116 = .ok (.getfield 81, 3) := by decide +kernel
theorem zd_X8_map_119 : decode cX8_map 119 = .ok (.aload_n 0, 1) := by decide +kernel
theorem zd_X8_map_120 : decode cX8_map 120 = .ok (.getfield 102, 3) := by decide +kernel
theorem zd_X8_map_123 : decode cX8_map 123 = .ok (.iload 5, 2) := by decide +kernel
theorem zd_X8_map_125 : decode cX8_map 125 = .ok (.iastore, 1) := by decide +kernel
theorem zd_X8_map_126 : decode cX8_map 126 = .ok (.aload_n 0, 1) := by decide +kernel
theorem zd_X8_map_127 : decode cX8_map 127 = .ok (.dup, 1) := by decide +kernel
theorem zd_X8_map_128 : decode cX8_map 128 = .ok (.getfield 102, 3) := by decide +kernel
theorem zd_X8_map_131 : decode cX8_map 131 = .ok (.iconst 1, 1) := by decide +kernel
theorem zd_X8_map_132 : decode cX8_map 132 = .ok (.iadd, 1) := by decide +kernel
theorem zd_X8_map_133 : decode cX8_map 133 = .ok (.putfield 102, 3) := by decide +kernel
theorem zd_X8_map_136 : decode cX8_map 136 = .ok (.aload_n 0, 1) := by decide +kernel
theorem zd_X8_map_137 : decode cX8_map 137 = .ok (.aload_n 0, 1) := by decide +kernel
theorem zd_X8_map_138 : decode cX8_map 138 = .ok (.getfield 102, 3) := by decide +kernel
theorem zd_X8_map_141 : decode cX8_map 141 = .ok (.invokevirtual 115, 3) := by decide +kernel
theorem zd_X8_map_144 : decode cX8_map 144 = .ok (.ireturn, 1) := by decide +kernel
def zb_X8_map_38 (K : zKt) (J : Nat → zPP) : zPP := zT_ald 0 (zT_push (.int (-1)) (zT_V1 zok 8 38 zc_X8_told (zT_iret K)))
theorem zbs_X8_map_38 {X : zCt} (hR : zRX X = { frames := 2, cells := 0, slots := 0, locals := 47 }) (J : Nat → zPP) (hJ : ∀ h ∈ ([] : List Nat), zSd X RX8 "map" cX8_map 6 (some .int) h (J h)) : zSd X RX8 "map" cX8_map 6 (some .int) 38 (zb_X8_map_38 (zKX X) J) := zs_aload_n zd_X8_map_38 rfl (zs_iconst zd_X8_map_39 (by decide) (zs_V (ci := 8) rfl rfl (zm_X8_told _ _ _) gw_3_217 gw_3_214 gw_3_216 gw_0_23 gw_1_7 zdn_X8_told (zrm hR (by decide) (by decide)) zd_X8_map_40 (zCl_V1 zok_l) (zs_iret rfl zd_X8_map_43)))
def zb_X8_map_0 (K : zKt) (J : Nat → zPP) : zPP := zT_ald 0 (zT_push (.int 0) (zT_putI 8 0 38 (zT_ild 1 (zT_S1 zok zc_X8_isYear (zT_if1 (fun x => x = 0) (zb_X8_map_38 K J) (zT_ild 4 (zT_i2l (zT_push (.long 0) (zT_push (.long 200) (zT_S3 zok zc_X8_in (zT_if1 (fun x => x = 0) (zb_X8_map_38 K J) (zT_ild 5 (zT_i2l (zT_push (.long 0) (zT_push (.long 1000) (zT_S3 zok zc_X8_in (zT_if1 (fun x => x = 0) (zb_X8_map_38 K J) (zT_ald 0 (zT_ild 2 (zT_ild 3 (zT_V2 zok 8 38 zc_X8_isCell (zT_if1 (fun x => x = 0) (zT_ald 0 (zT_push (.int (-2)) (zT_V1 zok 8 38 zc_X8_told (zT_iret K)))) (zT_ald 0 (zT_getI 8 31 38 (zT_push (.int 200) (zT_if2 (fun x y => x = y) (zT_ald 0 (zT_push (.int (-5)) (zT_V1 zok 8 38 zc_X8_told (zT_iret K)))) (zT_ald 0 (zT_getR 8 32 38 (zT_ald 0 (zT_getI 8 31 38 (zT_ild 1 (zT_iast (zT_ald 0 (zT_getR 8 33 38 (zT_ald 0 (zT_getI 8 31 38 (zT_ild 3 (zT_ald 0 (zT_getI 8 2 38 (zT_bin (fun x y => x * y) (zT_ild 2 (zT_bin (fun x y => x + y) (zT_iast (zT_ald 0 (zT_getR 8 34 38 (zT_ald 0 (zT_getI 8 31 38 (zT_ild 4 (zT_iast (zT_ald 0 (zT_getR 8 35 38 (zT_ald 0 (zT_getI 8 31 38 (zT_ild 5 (zT_iast (zT_ald 0 (zT_dup (zT_getI 8 31 38 (zT_push (.int 1) (zT_bin (fun x y => x + y) (zT_putI 8 31 38 (zT_ald 0 (zT_ald 0 (zT_getI 8 31 38 (zT_V1 zok 8 38 zc_X8_told (zT_iret K))))))))))))))))))))))))))))))))))))))))))))))))))))))))))))))))))
theorem zbs_X8_map_0 {X : zCt} (hR : zRX X = { frames := 2, cells := 0, slots := 0, locals := 47 }) (J : Nat → zPP) (hJ : ∀ h ∈ ([] : List Nat), zSd X RX8 "map" cX8_map 6 (some .int) h (J h)) : zSd X RX8 "map" cX8_map 6 (some .int) 0 (zb_X8_map_0 (zKX X) J) := zs_aload_n zd_X8_map_0 rfl (zs_iconst zd_X8_map_1 (by decide) (zs_putI (ci := 8) (j := 0) (T := TX8) rfl inX8 tyX8_ok nmX8 (by decide) gw_3_89 rfl rfl rfl zd_X8_map_2 (zs_iload_n zd_X8_map_5 rfl (zs_S (zm_X8_isYear _ _ _) gw_4_60 gw_4_58 gw_4_59 gw_1_7 zdn_X8_isYear (zrm hR (by decide) (by decide)) zd_X8_map_6 (zCl_S1 zok_l) (zs_if_eq (tgt := 38) zd_X8_map_9 (by decide) (zbs_X8_map_38 hR J hJ) (zs_iload zd_X8_map_12 (zs_i2l zd_X8_map_14 (zs_lconst zd_X8_map_15 (by decide) (zs_ldc2 zd_X8_map_16 gw_3_222 (zs_S (zm_X8_in _ _ _) gw_3_212 gw_3_210 gw_3_211 gw_1_7 zdn_X8_in (zrm hR (by decide) (by decide)) zd_X8_map_19 (zCl_S3 zok_l) (zs_if_eq (tgt := 38) zd_X8_map_22 (by decide) (zbs_X8_map_38 hR J hJ) (zs_iload zd_X8_map_25 (zs_i2l zd_X8_map_27 (zs_lconst zd_X8_map_28 (by decide) (zs_ldc2 zd_X8_map_29 gw_3_235 (zs_S (zm_X8_in _ _ _) gw_3_212 gw_3_210 gw_3_211 gw_1_7 zdn_X8_in (zrm hR (by decide) (by decide)) zd_X8_map_32 (zCl_S3 zok_l) (zs_if_ne (tgt := 44) zd_X8_map_35 (by decide) (zs_aload_n zd_X8_map_44 rfl (zs_iload_n zd_X8_map_45 rfl (zs_iload_n zd_X8_map_46 rfl (zs_V (ci := 8) rfl rfl (zm_X8_isCell _ _ _) gw_3_226 gw_3_223 gw_3_225 gw_0_24 gw_1_7 zdn_X8_isCell (zrm hR (by decide) (by decide)) zd_X8_map_47 (zCl_V2 zok_l) (zs_if_ne (tgt := 60) zd_X8_map_50 (by decide) (zs_aload_n zd_X8_map_60 rfl (zs_getI (ci := 8) (j := 31) (T := TX8) rfl inX8 (by decide) gw_3_120 rfl zd_X8_map_61 (zs_sipush zd_X8_map_64 (by decide) (zs_icmp_ne (tgt := 77) zd_X8_map_67 (by decide) (zs_aload_n zd_X8_map_77 rfl (zs_getR (ci := 8) (j := 32) (T := TX8) rfl inX8 (by decide) gw_3_121 rfl zd_X8_map_78 (zs_aload_n zd_X8_map_81 rfl (zs_getI (ci := 8) (j := 31) (T := TX8) rfl inX8 (by decide) gw_3_120 rfl zd_X8_map_82 (zs_iload_n zd_X8_map_85 rfl (zs_iast zd_X8_map_86 (zs_aload_n zd_X8_map_87 rfl (zs_getR (ci := 8) (j := 33) (T := TX8) rfl inX8 (by decide) gw_3_122 rfl zd_X8_map_88 (zs_aload_n zd_X8_map_91 rfl (zs_getI (ci := 8) (j := 31) (T := TX8) rfl inX8 (by decide) gw_3_120 rfl zd_X8_map_92 (zs_iload_n zd_X8_map_95 rfl (zs_aload_n zd_X8_map_96 rfl (zs_getI (ci := 8) (j := 2) (T := TX8) rfl inX8 (by decide) gw_3_91 rfl zd_X8_map_97 (zs_imul zd_X8_map_100 (zs_iload_n zd_X8_map_101 rfl (zs_iadd zd_X8_map_102 (zs_iast zd_X8_map_103 (zs_aload_n zd_X8_map_104 rfl (zs_getR (ci := 8) (j := 34) (T := TX8) rfl inX8 (by decide) gw_3_123 rfl zd_X8_map_105 (zs_aload_n zd_X8_map_108 rfl (zs_getI (ci := 8) (j := 31) (T := TX8) rfl inX8 (by decide) gw_3_120 rfl zd_X8_map_109 (zs_iload zd_X8_map_112 (zs_iast zd_X8_map_114 (zs_aload_n zd_X8_map_115 rfl (zs_getR (ci := 8) (j := 35) (T := TX8) rfl inX8 (by decide) gw_3_124 rfl zd_X8_map_116 (zs_aload_n zd_X8_map_119 rfl (zs_getI (ci := 8) (j := 31) (T := TX8) rfl inX8 (by decide) gw_3_120 rfl zd_X8_map_120 (zs_iload zd_X8_map_123 (zs_iast zd_X8_map_125 (zs_aload_n zd_X8_map_126 rfl (zs_dup zd_X8_map_127 (zs_getI (ci := 8) (j := 31) (T := TX8) rfl inX8 (by decide) gw_3_120 rfl zd_X8_map_128 (zs_iconst zd_X8_map_131 (by decide) (zs_iadd zd_X8_map_132 (zs_putI (ci := 8) (j := 31) (T := TX8) rfl inX8 tyX8_ok nmX8 (by decide) gw_3_120 rfl rfl rfl zd_X8_map_133 (zs_aload_n zd_X8_map_136 rfl (zs_aload_n zd_X8_map_137 rfl (zs_getI (ci := 8) (j := 31) (T := TX8) rfl inX8 (by decide) gw_3_120 rfl zd_X8_map_138 (zs_V (ci := 8) rfl rfl (zm_X8_told _ _ _) gw_3_217 gw_3_214 gw_3_216 gw_0_23 gw_1_7 zdn_X8_told (zrm hR (by decide) (by decide)) zd_X8_map_141 (zCl_V1 zok_l) (zs_iret rfl zd_X8_map_144)))))))))))))))))))))))))))))))))))))))) (zs_aload_n zd_X8_map_70 rfl (zs_bipush zd_X8_map_71 (by decide) (zs_V (ci := 8) rfl rfl (zm_X8_told _ _ _) gw_3_217 gw_3_214 gw_3_216 gw_0_23 gw_1_7 zdn_X8_told (zrm hR (by decide) (by decide)) zd_X8_map_73 (zCl_V1 zok_l) (zs_iret rfl zd_X8_map_76)))))))) (zs_aload_n zd_X8_map_53 rfl (zs_bipush zd_X8_map_54 (by decide) (zs_V (ci := 8) rfl rfl (zm_X8_told _ _ _) gw_3_217 gw_3_214 gw_3_216 gw_0_23 gw_1_7 zdn_X8_told (zrm hR (by decide) (by decide)) zd_X8_map_56 (zCl_V1 zok_l) (zs_iret rfl zd_X8_map_59))))))))) (zbs_X8_map_38 hR J hJ))))))))))))))))))
theorem zdn_X8_map : yX8_map.cls ≠ "java/lang/invoke/MethodHandle" ∧ yX8_map.cls ≠ "java/lang/invoke/VarHandle" ∧ (parseMethodDescriptor yX8_map.desc).map (fun d => d.parameters.length) = some 5 := by decide +kernel
def zc_X8_spring (a : List Value) (M : zMm) (K : zKt) : Prop := match a with
  | [.ref k, .int x, .int y, .int f] => k = 200 ∧ ∃ F, zMF M F ∧ ∀ M', zMF M' (pSpring x y f F).2 → K (some (.int (pSpring x y f F).1)) M'
  | _ => False
set_option maxHeartbeats 1000000 in
theorem zm_X8_spring (l : Launch) (D : va_G) (Y : Nat → ClassId) : zMt l D Y yX8_spring cX8_spring 4 (some .int) 2 47 0 0 zc_X8_spring := by
  refine zflat (by decide) (fun K J lc lz => zb_X8_spring_0 K J) (fun X hR => zbs_X8_spring_0 hR zJ0 zJ0_ok) (fun avs M K h => ?_)
  unfold zc_X8_spring at h
  split at h
  · next k x y f =>
    obtain ⟨rfl, F, hF, h⟩ := h
    have hF1 := hF.th
    refine ⟨by simp [zent], ?_⟩
    simp only [zb_X8_spring_0, zsh_200, zT_push, zT_bin, zT_div, zT_bil, zT_shl, zT_un, zT_i2l, zT_l2i, zT_lcmp, zT_ild, zT_lld, zT_ald, zT_ist, zT_lst, zT_ast, zT_iinc, zT_dup, zT_dup2, zT_pop, zT_if1, zT_if2, zT_ifn, zT_getI, zT_getJ, zT_getR, zT_putI, zT_putZ, zT_putJ, zT_putR, zT_ald0, zT_lald, zT_aald, zT_iast, zT_zast, zT_bast, zT_last, zT_aast, zT_iret, zT_nret, zT_aret, zT_vret, zT_oi, zT_mm, zT_ialX, zT_S1, zT_S2, zT_S3, zT_V0, zT_V1, zT_V2, zT_V3, zT_V4, zT_V5, zT_V6, zT_I0, zT_I1, zT_I2, zlg, zlset, zlpr, zent, zok, va_rf, List.length_cons, List.length_nil, List.replicate, List.cons_append, List.nil_append, List.append_nil, Option.toList_some, Option.toList_none, Option.toList, Nat.reduceAdd, Nat.reduceSub, Nat.reduceLeDiff, Nat.zero_add, Nat.zero_le, true_and, and_true, Nat.le_refl, ge_iff_le, Nat.reduceEqDiff]
    generalize zwI M 200 0 0 = M1 at hF1 ⊢
    obtain ⟨g1, ⟨ok, w1, w2, w3, w4, w5, w6, w7⟩, g3, g4, g5, g6⟩ := id hF1
    obtain ⟨k1, k2, k3, k4, k5, k6, k7, k8, k9⟩ := id ok
    unfold zc_X8_in
    dsimp only
    have e : zbI (0 ≤ f.toInt64 ∧ f.toInt64 ≤ 1000) = zbI (0 ≤ f ∧ f ≤ 1000) := zin_c (a := 0) (b := 1000) (by decide) (by decide)
    rw [e]
    simp only [zbI_0, zsh_200, zT_push, zT_bin, zT_div, zT_bil, zT_shl, zT_un, zT_i2l, zT_l2i, zT_lcmp, zT_ild, zT_lld, zT_ald, zT_ist, zT_lst, zT_ast, zT_iinc, zT_dup, zT_dup2, zT_pop, zT_if1, zT_if2, zT_ifn, zT_getI, zT_getJ, zT_getR, zT_putI, zT_putZ, zT_putJ, zT_putR, zT_ald0, zT_lald, zT_aald, zT_iast, zT_zast, zT_bast, zT_last, zT_aast, zT_iret, zT_nret, zT_aret, zT_vret, zT_oi, zT_mm, zT_ialX, zT_S1, zT_S2, zT_S3, zT_V0, zT_V1, zT_V2, zT_V3, zT_V4, zT_V5, zT_V6, zT_I0, zT_I1, zT_I2, zlg, zlset, zlpr, zent, zok, va_rf, List.length_cons, List.length_nil, List.replicate, List.cons_append, List.nil_append, List.append_nil, Option.toList_some, Option.toList_none, Option.toList, Nat.reduceAdd, Nat.reduceSub, Nat.reduceLeDiff, Nat.zero_add, Nat.zero_le, true_and, and_true, Nat.le_refl, ge_iff_le, Nat.reduceEqDiff]
    refine ⟨fun h1 => ?_, fun h1 => ?_⟩
    · unfold zc_X8_told
      dsimp only
      refine ⟨rfl, ?_⟩
      have h2 := h (zwI M1 200 1 (-1))
      unfold pSpring at h2
      rw [if_neg h1] at h2
      exact h2 (hF1.told (-1))
    · have c1 := Classical.not_not.mp h1
      unfold zc_X8_isCell
      dsimp only
      refine ⟨rfl, sW F.1, sH F.1, w1, w2, by omega, k2, by omega, k4, ?_⟩
      simp only [zbI_0, zsh_200, w1, zT_push, zT_bin, zT_div, zT_bil, zT_shl, zT_un, zT_i2l, zT_l2i, zT_lcmp, zT_ild, zT_lld, zT_ald, zT_ist, zT_lst, zT_ast, zT_iinc, zT_dup, zT_dup2, zT_pop, zT_if1, zT_if2, zT_ifn, zT_getI, zT_getJ, zT_getR, zT_putI, zT_putZ, zT_putJ, zT_putR, zT_ald0, zT_lald, zT_aald, zT_iast, zT_zast, zT_bast, zT_last, zT_aast, zT_iret, zT_nret, zT_aret, zT_vret, zT_oi, zT_mm, zT_ialX, zT_S1, zT_S2, zT_S3, zT_V0, zT_V1, zT_V2, zT_V3, zT_V4, zT_V5, zT_V6, zT_I0, zT_I1, zT_I2, zlg, zlset, zlpr, zent, zok, va_rf, List.length_cons, List.length_nil, List.replicate, List.cons_append, List.nil_append, List.append_nil, Option.toList_some, Option.toList_none, Option.toList, Nat.reduceAdd, Nat.reduceSub, Nat.reduceLeDiff, Nat.zero_add, Nat.zero_le, true_and, and_true, Nat.le_refl, ge_iff_le, Nat.reduceEqDiff]
      refine ⟨fun h4 => ?_, fun h4 => ?_⟩
      · unfold zc_X8_told
        dsimp only
        refine ⟨rfl, ?_⟩
        have h2 := h (zwI M1 200 1 (-2))
        unfold pSpring at h2
        rw [if_pos c1, if_neg (fun z => h4 (pclD_t.mp z))] at h2
        exact h2 (hF1.told (-2))
      · have c4 : pcl F.1 x y := Classical.not_not.mp h4
        obtain ⟨x1, x2, y1, y2, x3, y3⟩ := pcl_n ok c4
        obtain ⟨f1, f2⟩ := tn_nI (x := f) (b := 1000) c1.1 c1.2 (by decide)
        have ec : y * nI (sW F.1) + x = nI (tn y * sW F.1 + tn x) := by
          conv => lhs; rw [x1, y1]
          rw [pk_mul, nI_add]
        unfold zc_X8_told
        dsimp only
        refine ⟨rfl, ?_⟩
        rw [ec]
        have h2 := h (zwI (zwI (zwI M1 200 5 (nI (tn y * sW F.1 + tn x))) 200 6 f) 200 1 0)
        unfold pSpring at h2
        rw [if_pos c1, if_pos (pclD_t.mpr c4)] at h2
        refine h2 (zMF.told (F := ((sW F.1, sH F.1, sL F.1, tn y * 12 + tn x, tn f, sG F.1, sA F.1), F.2.1, F.2.2.1, F.2.2.2.1, F.2.2.2.2)) ?_ 0)
        have q : ∀ j, j ≠ 5 → j ≠ 6 → (zwI (zwI M1 200 5 (nI (tn y * sW F.1 + tn x))) 200 6 f).2.1 200 j = M1.2.1 200 j := fun j a b => by simp only [zwI_L, zwI_I, zwI_J, zwI_R, zwJ_L, zwJ_I, zwJ_J, zwJ_R, zwR_L, zwR_I, zwR_J, zwR_R, zw2_s, zw2_n, ne_eq, not_false_eq_true, reduceCtorEq, not_true_eq_false, Nat.reduceEqDiff]; rw [zup_n b, zup_n a]
        have qI : ∀ k, k ≠ 200 → (zwI (zwI M1 200 5 (nI (tn y * sW F.1 + tn x))) 200 6 f).2.1 k = M1.2.1 k := fun k hk => by
          show zw2 (zw2 M1.2.1 200 5 _) 200 6 f k = _
          rw [zw2_n hk, zw2_n hk]
        refine ⟨g1, ⟨⟨k1, k2, k3, k4, k5, by show tn y * 12 + tn x < 120; omega, ⟨by show (tn y * 12 + tn x) % 12 < sW F.1; omega, by show (tn y * 12 + tn x) / 12 < sH F.1; omega⟩, f2, k9⟩, (q 2 (by decide) (by decide)).trans w1, (q 3 (by decide) (by decide)).trans w2, (q 4 (by decide) (by decide)).trans w3, ?_, ?_, fun e he => by rw [qI 201 (by decide)]; exact w6 e he, ?_⟩, ?_, ?_, (q 22 (by decide) (by decide)).trans g5, (q 1 (by decide) (by decide)).trans g6⟩
        · simp only [zwI_L, zwI_I, zwI_J, zwI_R, zwJ_L, zwJ_I, zwJ_J, zwJ_R, zwR_L, zwR_I, zwR_J, zwR_R, zw2_s, zw2_n, ne_eq, not_false_eq_true, reduceCtorEq, not_true_eq_false, Nat.reduceEqDiff]; rw [zup_n (by decide), zup_s]
          show nI (tn y * sW F.1 + tn x) = nI (mI (sW F.1) (tn y * 12 + tn x))
          unfold mI
          rw [show (tn y * 12 + tn x) / 12 = tn y by omega, show (tn y * 12 + tn x) % 12 = tn x by omega]
        · simp only [zwI_L, zwI_I, zwI_J, zwI_R, zwJ_L, zwJ_I, zwJ_J, zwJ_R, zwR_L, zwR_I, zwR_J, zwR_R, zw2_s, zw2_n, ne_eq, not_false_eq_true, reduceCtorEq, not_true_eq_false, Nat.reduceEqDiff]; rw [zup_s]; exact f1
        · rw [q 8 (by decide) (by decide), qI 202 (by omega), qI 203 (by omega), qI 204 (by omega), qI 205 (by omega), qI 206 (by omega)]
          exact w7
        · unfold zME
          rw [q 31 (by omega) (by omega), qI 216 (by omega), qI 217 (by omega), qI 218 (by omega), qI 219 (by omega)]
          exact g3
        · unfold zMT
          rw [q 17 (by omega) (by omega), qI 208 (by omega)]
          exact g4
  · exact h.elim
