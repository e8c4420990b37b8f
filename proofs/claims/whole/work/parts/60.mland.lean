/-! DeltaRunsModel land -/
theorem zd_X8_land_0 : decode cX8_land 0 = .ok (.aload_n 0, 1) := by decide +kernel
theorem zd_X8_land_1 : decode cX8_land 1 = .ok (.iconst 0, 1) := by decide +kernel
theorem zd_X8_land_2 : decode cX8_land 2 = .ok (.putfield 93, 3) := by decide +kernel
theorem zd_X8_land_5 : decode cX8_land 5 = .ok (.iload 5, 2) := by decide +kernel
theorem zd_X8_land_7 : decode cX8_land 7 = .ok (.i2l, 1) := by decide +kernel
theorem zd_X8_land_8 : decode cX8_land 8 = .ok (.lconst 0, 1) := by decide +kernel
theorem zd_X8_land_9 : decode cX8_land 9 = .ok (.ldc2_w 119, 3) := by decide +kernel
theorem zd_X8_land_12 : decode cX8_land 12 = .ok (.invokestatic 105, 3) := by decide +kernel
theorem zd_X8_land_15 : decode cX8_land 15 = .ok (.ifCond .eq 14, 3) := by decide +kernel
theorem zd_X8_land_18 : decode cX8_land 18 = .ok (.iload_n 3, 1) := by decide +kernel
theorem zd_X8_land_19 : decode cX8_land 19 = .ok (.iload_n 1, 1) := by decide +kernel
theorem zd_X8_land_20 : decode cX8_land 20 = .ok (.if_icmp .lt 9, 3) := by decide +kernel
theorem zd_X8_land_23 : decode cX8_land 23 = .ok (.iload 4, 2) := by decide +kernel
theorem zd_X8_land_25 : decode cX8_land 25 = .ok (.iload_n 2, 1) := by decide +kernel
theorem zd_X8_land_26 : decode cX8_land 26 = .ok (.if_icmp .ge 9, 3) := by decide +kernel
theorem zd_X8_land_29 : decode cX8_land 29 = .ok (.aload_n 0, 1) := by decide +kernel
theorem zd_X8_land_30 : decode cX8_land 30 = .ok (.iconst (-1), 1) := by decide +kernel
theorem zd_X8_land_31 : decode cX8_land 31 = .ok (.invokevirtual 115, 3) := by decide +kernel
theorem zd_X8_land_34 : decode cX8_land 34 = .ok (.ireturn, 1) := by decide +kernel
theorem zd_X8_land_35 : decode cX8_land 35 = .ok (.aload_n 0, 1) := by decide +kernel
theorem zd_X8_land_36 : decode cX8_land 36 = .ok (.iload_n 1, 1) := by decide +kernel
theorem zd_X8_land_37 : decode cX8_land 37 = .ok (.iload_n 2, 1) := by decide +kernel
theorem zd_X8_land_38 : decode cX8_land 38 = .ok (.invokevirtual 121, 3) := by decide +kernel
theorem zd_X8_land_41 : decode cX8_land 41 = .ok (.ifCond .eq 13, 3) := by decide +kernel
theorem zd_X8_land_44 : decode cX8_land 44 = .ok (.aload_n 0, 1) := by decide +kernel
theorem zd_X8_land_45 : decode cX8_land 45 = .ok (.iload_n 3, 1) := by decide +kernel
theorem zd_X8_land_46 : decode cX8_land 46 = .ok (.iload 4, 2) := by decide +kernel
theorem zd_X8_land_48 : decode cX8_land 48 = .ok (.invokevirtual 121, 3) := by decide +kernel
theorem zd_X8_land_51 : decode cX8_land 51 = .ok (.ifCond .ne 10, 3) := by decide +kernel
theorem zd_X8_land_54 : decode cX8_land 54 = .ok (.aload_n 0, 1) := by decide +kernel
theorem zd_X8_land_55 : decode cX8_land 55 = .ok (.bipush (-2), 2) := by decide +kernel
theorem zd_X8_land_57 : decode cX8_land 57 = .ok (.invokevirtual 115, 3) := by decide +kernel
theorem zd_X8_land_60 : decode cX8_land 60 = .ok (.ireturn, 1) := by decide +kernel
theorem zd_X8_land_61 : decode cX8_land 61 = .ok (.iconst 0, 1) := by decide +kernel
theorem zd_X8_land_62 : decode cX8_land 62 = .ok (.istore 6, 2) := by decide +kernel
theorem zd_X8_land_64 : decode cX8_land 64 = .ok (.iload_n 2, 1) := by decide +kernel
theorem zd_X8_land_65 : decode cX8_land 65 = .ok (.istore 7, 2) := by decide +kernel
theorem zd_X8_land_67 : decode cX8_land 67 = .ok (.iload 7, 2) := by decide +kernel
theorem zd_X8_land_69 : decode cX8_land 69 = .ok (.iload 4, 2) := by decide +kernel
theorem zd_X8_land_71 : decode cX8_land 71 = .ok (.if_icmp .gt 44, 3) := by decide +kernel
theorem zd_X8_land_74 : decode cX8_land 74 = .ok (.iload_n 1, 1) := by decide +kernel
theorem zd_X8_land_75 : decode cX8_land 75 = .ok (.istore 8, 2) := by decide +kernel
theorem zd_X8_land_77 : decode cX8_land 77 = .ok (.iload 8, 2) := by decide +kernel
theorem zd_X8_land_79 : decode cX8_land 79 = .ok (.iload_n 3, 1) := by decide +kernel
theorem zd_X8_land_80 : decode cX8_land 80 = .ok (.if_icmp .gt 29, 3) := by decide +kernel
theorem zd_X8_land_83 : decode cX8_land 83 = .ok (.aload_n 0, 1) := by decide +kernel
theorem zd_X8_land_84 : decode cX8_land 84 = .ok (.getfield 22, 3) := by decide +kernel
theorem zd_X8_land_87 : decode cX8_land 87 = .ok (.iload 7, 2) := by decide +kernel
theorem zd_X8_land_89 : decode cX8_land 89 = .ok (.aload_n 0, 1) := by decide +kernel
theorem zd_X8_land_90 : decode cX8_land 90 = .ok (.getfield 7, 3) := by decide +kernel
theorem zd_X8_land_93 : decode cX8_land 93 = .ok (.imul, 1) := by decide +kernel
theorem zd_X8_land_94 : decode cX8_land 94 = .ok (.iload 8, 2) := by decide +kernel
theorem zd_X8_land_96 : decode cX8_land 96 = .ok (.iadd, 1) := by decide +kernel
theorem zd_X8_land_97 : decode cX8_land 97 = .ok (.iload 5, 2) := by decide +kernel
theorem zd_X8_land_99 : decode cX8_land 99 = .ok (.iastore, 1) := by decide +kernel
theorem zd_X8_land_100 : decode cX8_land 100 = .ok (.iinc 6 1, 3) := by decide +kernel
theorem zd_X8_land_103 : decode cX8_land 103 = .ok (.iinc 8 1, 3) := by decide +kernel
theorem zd_X8_land_106 : decode cX8_land 106 = .ok (.goto (-29), 3) := by decide +kernel
theorem zd_X8_land_109 : decode cX8_land 109 = .ok (.iinc 7 1, 3) := by decide +kernel
theorem zd_X8_land_112 : decode cX8_land 112 = .ok (.goto (-45), 3) := by decide +kernel
theorem zd_X8_land_115 : decode cX8_land 115 = .ok (.aload_n 0, 1) := by decide +kernel
theorem zd_X8_land_116 : decode cX8_land 116 = .ok (.iload 6, 2) := by decide +kernel
theorem zd_X8_land_118 : decode cX8_land 118 = .ok (.invokevirtual 115, 3) := by decide +kernel
theorem zd_X8_land_121 : decode cX8_land 121 = .ok (.ireturn, 1) := by decide +kernel
def zb_X8_land_29 (K : zKt) (J : Nat → zPP) : zPP := zT_ald 0 (zT_push (.int (-1)) (zT_V1 zok 8 38 zc_X8_told (zT_iret K)))
theorem zbs_X8_land_29 {X : zCt} (hR : zRX X = { frames := 2, cells := 0, slots := 0, locals := 47 }) (J : Nat → zPP) (hJ : ∀ h ∈ ([67, 77] : List Nat), zSd X RX8 "land" cX8_land 9 (some .int) h (J h)) : zSd X RX8 "land" cX8_land 9 (some .int) 29 (zb_X8_land_29 (zKX X) J) := zs_aload_n zd_X8_land_29 rfl (zs_iconst zd_X8_land_30 (by decide) (zs_V (ci := 8) rfl rfl (zm_X8_told _ _ _) gw_3_217 gw_3_214 gw_3_216 gw_0_23 gw_1_7 zdn_X8_told (zrm hR (by decide) (by decide)) zd_X8_land_31 (zCl_V1 zok_l) (zs_iret rfl zd_X8_land_34)))
def zb_X8_land_54 (K : zKt) (J : Nat → zPP) : zPP := zT_ald 0 (zT_push (.int (-2)) (zT_V1 zok 8 38 zc_X8_told (zT_iret K)))
theorem zbs_X8_land_54 {X : zCt} (hR : zRX X = { frames := 2, cells := 0, slots := 0, locals := 47 }) (J : Nat → zPP) (hJ : ∀ h ∈ ([67, 77] : List Nat), zSd X RX8 "land" cX8_land 9 (some .int) h (J h)) : zSd X RX8 "land" cX8_land 9 (some .int) 54 (zb_X8_land_54 (zKX X) J) := zs_aload_n zd_X8_land_54 rfl (zs_bipush zd_X8_land_55 (by decide) (zs_V (ci := 8) rfl rfl (zm_X8_told _ _ _) gw_3_217 gw_3_214 gw_3_216 gw_0_23 gw_1_7 zdn_X8_told (zrm hR (by decide) (by decide)) zd_X8_land_57 (zCl_V1 zok_l) (zs_iret rfl zd_X8_land_60)))
def zb_X8_land_0 (K : zKt) (J : Nat → zPP) : zPP := zT_ald 0 (zT_push (.int 0) (zT_putI 8 0 38 (zT_ild 5 (zT_i2l (zT_push (.long 0) (zT_push (.long 200) (zT_S3 zok zc_X8_in (zT_if1 (fun x => x = 0) (zb_X8_land_29 K J) (zT_ild 3 (zT_ild 1 (zT_if2 (fun x y => x < y) (zb_X8_land_29 K J) (zT_ild 4 (zT_ild 2 (zT_if2 (fun x y => y ≤ x) (zT_ald 0 (zT_ild 1 (zT_ild 2 (zT_V2 zok 8 38 zc_X8_isCell (zT_if1 (fun x => x = 0) (zb_X8_land_54 K J) (zT_ald 0 (zT_ild 3 (zT_ild 4 (zT_V2 zok 8 38 zc_X8_isCell (zT_if1 (fun x => x = 0) (zb_X8_land_54 K J) (zT_push (.int 0) (zT_ist 6 (zT_ild 2 (zT_ist 7 (J 67))))))))))))))) (zb_X8_land_29 K J)))))))))))))))
theorem zbs_X8_land_0 {X : zCt} (hR : zRX X = { frames := 2, cells := 0, slots := 0, locals := 47 }) (J : Nat → zPP) (hJ : ∀ h ∈ ([67, 77] : List Nat), zSd X RX8 "land" cX8_land 9 (some .int) h (J h)) : zSd X RX8 "land" cX8_land 9 (some .int) 0 (zb_X8_land_0 (zKX X) J) := zs_aload_n zd_X8_land_0 rfl (zs_iconst zd_X8_land_1 (by decide) (zs_putI (ci := 8) (j := 0) (T := TX8) rfl inX8 tyX8_ok nmX8 (by decide) gw_3_89 rfl rfl rfl zd_X8_land_2 (zs_iload zd_X8_land_5 (zs_i2l zd_X8_land_7 (zs_lconst zd_X8_land_8 (by decide) (zs_ldc2 zd_X8_land_9 gw_3_222 (zs_S (zm_X8_in _ _ _) gw_3_212 gw_3_210 gw_3_211 gw_1_7 zdn_X8_in (zrm hR (by decide) (by decide)) zd_X8_land_12 (zCl_S3 zok_l) (zs_if_eq (tgt := 29) zd_X8_land_15 (by decide) (zbs_X8_land_29 hR J hJ) (zs_iload_n zd_X8_land_18 rfl (zs_iload_n zd_X8_land_19 rfl (zs_icmp_lt (tgt := 29) zd_X8_land_20 (by decide) (zbs_X8_land_29 hR J hJ) (zs_iload zd_X8_land_23 (zs_iload_n zd_X8_land_25 rfl (zs_icmp_ge (tgt := 35) zd_X8_land_26 (by decide) (zs_aload_n zd_X8_land_35 rfl (zs_iload_n zd_X8_land_36 rfl (zs_iload_n zd_X8_land_37 rfl (zs_V (ci := 8) rfl rfl (zm_X8_isCell _ _ _) gw_3_226 gw_3_223 gw_3_225 gw_0_24 gw_1_7 zdn_X8_isCell (zrm hR (by decide) (by decide)) zd_X8_land_38 (zCl_V2 zok_l) (zs_if_eq (tgt := 54) zd_X8_land_41 (by decide) (zbs_X8_land_54 hR J hJ) (zs_aload_n zd_X8_land_44 rfl (zs_iload_n zd_X8_land_45 rfl (zs_iload zd_X8_land_46 (zs_V (ci := 8) rfl rfl (zm_X8_isCell _ _ _) gw_3_226 gw_3_223 gw_3_225 gw_0_24 gw_1_7 zdn_X8_isCell (zrm hR (by decide) (by decide)) zd_X8_land_48 (zCl_V2 zok_l) (zs_if_ne (tgt := 61) zd_X8_land_51 (by decide) (zs_iconst zd_X8_land_61 (by decide) (zs_istore zd_X8_land_62 (by decide) (zs_iload_n zd_X8_land_64 rfl (zs_istore zd_X8_land_65 (by decide) (hJ 67 (by decide)))))) (zbs_X8_land_54 hR J hJ))))))))))) (zbs_X8_land_29 hR J hJ)))))))))))))))
def zb_X8_land_67 (K : zKt) (J : Nat → zPP) : zPP := zT_ild 7 (zT_ild 4 (zT_if2 (fun x y => y < x) (zT_ald 0 (zT_ild 6 (zT_V1 zok 8 38 zc_X8_told (zT_iret K)))) (zT_ild 1 (zT_ist 8 (J 77)))))
theorem zbs_X8_land_67 {X : zCt} (hR : zRX X = { frames := 2, cells := 0, slots := 0, locals := 47 }) (J : Nat → zPP) (hJ : ∀ h ∈ ([67, 77] : List Nat), zSd X RX8 "land" cX8_land 9 (some .int) h (J h)) : zSd X RX8 "land" cX8_land 9 (some .int) 67 (zb_X8_land_67 (zKX X) J) := zs_iload zd_X8_land_67 (zs_iload zd_X8_land_69 (zs_icmp_gt (tgt := 115) zd_X8_land_71 (by decide) (zs_aload_n zd_X8_land_115 rfl (zs_iload zd_X8_land_116 (zs_V (ci := 8) rfl rfl (zm_X8_told _ _ _) gw_3_217 gw_3_214 gw_3_216 gw_0_23 gw_1_7 zdn_X8_told (zrm hR (by decide) (by decide)) zd_X8_land_118 (zCl_V1 zok_l) (zs_iret rfl zd_X8_land_121)))) (zs_iload_n zd_X8_land_74 rfl (zs_istore zd_X8_land_75 (by decide) (hJ 77 (by decide))))))
def zb_X8_land_77 (K : zKt) (J : Nat → zPP) : zPP := zT_ild 8 (zT_ild 3 (zT_if2 (fun x y => y < x) (zT_iinc 7 1 (J 67)) (zT_ald 0 (zT_getR 8 7 38 (zT_ild 7 (zT_ald 0 (zT_getI 8 2 38 (zT_bin (fun x y => x * y) (zT_ild 8 (zT_bin (fun x y => x + y) (zT_ild 5 (zT_iast (zT_iinc 6 1 (zT_iinc 8 1 (J 77)))))))))))))))
theorem zbs_X8_land_77 {X : zCt} (hR : zRX X = { frames := 2, cells := 0, slots := 0, locals := 47 }) (J : Nat → zPP) (hJ : ∀ h ∈ ([67, 77] : List Nat), zSd X RX8 "land" cX8_land 9 (some .int) h (J h)) : zSd X RX8 "land" cX8_land 9 (some .int) 77 (zb_X8_land_77 (zKX X) J) := zs_iload zd_X8_land_77 (zs_iload_n zd_X8_land_79 rfl (zs_icmp_gt (tgt := 109) zd_X8_land_80 (by decide) (zs_iinc zd_X8_land_109 (by decide) (by decide) (zs_goto (tgt := 67) zd_X8_land_112 (by decide) (hJ 67 (by decide)))) (zs_aload_n zd_X8_land_83 rfl (zs_getR (ci := 8) (j := 7) (T := TX8) rfl inX8 (by decide) gw_3_96 rfl zd_X8_land_84 (zs_iload zd_X8_land_87 (zs_aload_n zd_X8_land_89 rfl (zs_getI (ci := 8) (j := 2) (T := TX8) rfl inX8 (by decide) gw_3_91 rfl zd_X8_land_90 (zs_imul zd_X8_land_93 (zs_iload zd_X8_land_94 (zs_iadd zd_X8_land_96 (zs_iload zd_X8_land_97 (zs_iast zd_X8_land_99 (zs_iinc zd_X8_land_100 (by decide) (by decide) (zs_iinc zd_X8_land_103 (by decide) (by decide) (zs_goto (tgt := 77) zd_X8_land_106 (by decide) (hJ 77 (by decide)))))))))))))))))
def zB_X8_land (K : zKt) (J : Nat → zPP) (h : Nat) : zPP := if h = 67 then zb_X8_land_67 K J else if h = 77 then zb_X8_land_77 K J else (fun _ _ _ => False)
theorem zBs_X8_land {X : zCt} (hR : zRX X = { frames := 2, cells := 0, slots := 0, locals := 47 }) : ∀ J : Nat → zPP, (∀ h ∈ ([67, 77] : List Nat), zSd X RX8 "land" cX8_land 9 (some .int) h (J h)) → ∀ h ∈ ([67, 77] : List Nat), zSd X RX8 "land" cX8_land 9 (some .int) h (zB_X8_land (zKX X) J h) := by
  intro J hJ h hh
  unfold zB_X8_land
  simp only [List.mem_cons, List.not_mem_nil, or_false] at hh
  rcases hh with rfl | rfl
  · exact zbs_X8_land_67 hR J hJ
  · exact zbs_X8_land_77 hR J hJ
theorem zdn_X8_land : yX8_land.cls ≠ "java/lang/invoke/MethodHandle" ∧ yX8_land.cls ≠ "java/lang/invoke/VarHandle" ∧ (parseMethodDescriptor yX8_land.desc).map (fun d => d.parameters.length) = some 5 := by decide +kernel
def zc_X8_land (a : List Value) (M : zMm) (K : zKt) : Prop := match a with
  | [.ref k, .int x, .int y, .int u, .int v, .int g] => k = 200 ∧ ∃ F, zMF M F ∧ ∀ M', zMF M' (pLand x y u v g F).2 → K (some (.int (pLand x y u v g F).1)) M'
  | _ => False
theorem mI_xy {w x y : Nat} (hx : x < 12) : mI w (y * 12 + x) = y * w + x := by
  unfold mI
  rw [show (y * 12 + x) / 12 = y by omega, show (y * 12 + x) % 12 = x by omega]
set_option maxHeartbeats 4000000 in
theorem zm_X8_land (l : Launch) (D : va_G) (Y : Nat → ClassId) : zMt l D Y yX8_land cX8_land 9 (some .int) 2 47 0 0 zc_X8_land := by
  refine zwhile (heads := [67, 77]) (by decide) (fun K J _ _ => zb_X8_land_0 K J) (fun K _ _ J h => zB_X8_land K J h) (fun X hR J hJ => zbs_X8_land_0 hR J hJ) (fun X hR => zBs_X8_land hR) (fun avs M K h => ?_)
  unfold zc_X8_land at h
  split at h
  · next k x y u v g =>
    obtain ⟨rfl, F, hF, h⟩ := h
    have hF1 := hF.th
    generalize hM1 : zwI M 200 0 0 = M1 at hF1
    obtain ⟨g1, ⟨ok, w1, w2, w3, w4, w5, w6, w7⟩, g3, g4, g5, g6⟩ := id hF1
    obtain ⟨k1, k2, k3, k4, k5, k6, k7, k8, k9⟩ := id ok
    refine ⟨by simp [zent], fun q h' M' ls st => (((0 ≤ g ∧ g ≤ 200) ∧ pcl F.1 x y ∧ pcl F.1 u v ∧ tn x ≤ tn u ∧ tn y ≤ tn v ∧ ¬ u < x ∧ ¬ v < y) ∧ zsm [201] M1 M') ∧ ((h' = 67 ∧ ∃ b o, q = 1000 - 20 * b ∧ tn y ≤ b ∧ b ≤ tn v + 1 ∧ ls = [some (.ref 200), some (.int x), some (.int y), some (.int u), some (.int v), some (.int g), some (.int (nI ((tn u + 1 - tn x) * (b - tn y)))), some (.int (nI b)), o] ∧ st = [] ∧ (∀ e, wil (sW F.1) (sH F.1) e → M'.2.1 201 (mI (sW F.1) e) = if tn x ≤ e % 12 ∧ e % 12 ≤ tn u ∧ tn y ≤ e / 12 ∧ e / 12 < b then g else M1.2.1 201 (mI (sW F.1) e))) ∨
      (h' = 77 ∧ ∃ b a, q = 1000 - 20 * b - 1 - a ∧ tn y ≤ b ∧ b ≤ tn v ∧ tn x ≤ a ∧ a ≤ tn u + 1 ∧ ls = [some (.ref 200), some (.int x), some (.int y), some (.int u), some (.int v), some (.int g), some (.int (nI ((tn u + 1 - tn x) * (b - tn y) + (a - tn x)))), some (.int (nI b)), some (.int (nI a))] ∧ st = [] ∧ (∀ e, wil (sW F.1) (sH F.1) e → M'.2.1 201 (mI (sW F.1) e) = if (tn x ≤ e % 12 ∧ e % 12 ≤ tn u ∧ tn y ≤ e / 12 ∧ e / 12 < b) ∨ (tn x ≤ e % 12 ∧ e % 12 < a ∧ e / 12 = b) then g else M1.2.1 201 (mI (sW F.1) e)))), ?_, ?_⟩
    · rintro q J hJ h' - M' ls st ⟨⟨⟨cg, c4, c5, cxu, cyv, nxu, nyv⟩, hs⟩, ⟨rfl, b, o, rfl, hb1, hb2, rfl, rfl, hc⟩ | ⟨rfl, b, a, rfl, hb1, hb2, ha1, ha2, rfl, rfl, hc⟩⟩
      · obtain ⟨x1, x2, y1, y2, x3, y3⟩ := pcl_n ok c4
        obtain ⟨u1, u2, v1, v2, u3, v3⟩ := pcl_n ok c5
        obtain ⟨gg1, gg2⟩ := tn_nI (x := g) (b := 200) cg.1 cg.2 (by decide)
        simp only [zB_X8_land, zb_X8_land_67, ↓reduceIte, zsh_200, zT_push, zT_bin, zT_div, zT_bil, zT_shl, zT_un, zT_i2l, zT_l2i, zT_lcmp, zT_ild, zT_lld, zT_ald, zT_ist, zT_lst, zT_ast, zT_iinc, zT_dup, zT_dup2, zT_pop, zT_if1, zT_if2, zT_ifn, zT_getI, zT_getJ, zT_getR, zT_putI, zT_putZ, zT_putJ, zT_putR, zT_ald0, zT_lald, zT_aald, zT_iast, zT_zast, zT_bast, zT_last, zT_aast, zT_iret, zT_nret, zT_aret, zT_vret, zT_oi, zT_mm, zT_ialX, zT_S1, zT_S2, zT_S3, zT_V0, zT_V1, zT_V2, zT_V3, zT_V4, zT_V5, zT_V6, zT_I0, zT_I1, zT_I2, zlg, zlset, zlpr, zent, zok, va_rf, List.length_cons, List.length_nil, List.replicate, List.cons_append, List.nil_append, List.append_nil, Option.toList_some, Option.toList_none, Option.toList, Nat.reduceAdd, Nat.reduceSub, Nat.reduceLeDiff, Nat.zero_add, Nat.zero_le, true_and, and_true, Nat.le_refl, ge_iff_le, Nat.reduceEqDiff]
        refine ⟨fun h1 => ?_, fun h1 => ?_⟩
        · rw [v1] at h1
          have := (nI_ltI (by omega) (by omega)).mp h1
          have e : b = tn v + 1 := by omega
          subst e
          unfold zc_X8_told
          dsimp only
          refine ⟨rfl, ?_⟩
          have hb : (tn u + 1 - tn x) * (tn v + 1 - tn y) ≤ 12 * 10 := Nat.mul_le_mul (by omega) (by omega)
          have hpos : ¬ nI ((tn u + 1 - tn x) * (tn v + 1 - tn y)) < 0 := Int32.not_lt.mpr ((nI_leI (a := 0) (by decide) (by omega)).mpr (Nat.zero_le _))
          rw [if_neg hpos]
          have h2 := h (zwI M' 200 1 0)
          unfold pLand at h2
          rw [if_neg (by rintro (z | z | z); exact z cg; exact nxu z; exact nyv z), if_pos ⟨pclD_t.mpr c4, pclD_t.mpr c5⟩] at h2
          have qI : ∀ k, k ≠ 201 → M'.2.1 k = M1.2.1 k := fun k hk => hs.at (by simp; omega)
          refine h2 (zMF.told (F := ((sW F.1, sH F.1, sL F.1, sS F.1, sF F.1, fun e => if tn x ≤ e % 12 ∧ e % 12 ≤ tn u ∧ tn y ≤ e / 12 ∧ e / 12 ≤ tn v then tn g else sG F.1 e, sA F.1), F.2.1, F.2.2.1, F.2.2.2.1, F.2.2.2.2)) ?_ 0)
          refine ⟨by unfold zMr; rw [hs.R]; exact g1, ⟨⟨k1, k2, k3, k4, k5, k6, k7, k8, fun e => ?_⟩, by rw [qI 200 (by decide)]; exact w1, by rw [qI 200 (by decide)]; exact w2, by rw [qI 200 (by decide)]; exact w3, by rw [qI 200 (by decide)]; exact w4, by rw [qI 200 (by decide)]; exact w5, fun e he => ?_, ?_⟩, ?_, ?_, by rw [qI 200 (by decide)]; exact g5, by rw [qI 200 (by decide)]; exact g6⟩
          · show (if tn x ≤ e % 12 ∧ e % 12 ≤ tn u ∧ tn y ≤ e / 12 ∧ e / 12 ≤ tn v then tn g else sG F.1 e) ≤ 200
            split
            · exact gg2
            · exact k9 e
          · refine (hc e he).trans ?_
            show _ = nI (if tn x ≤ e % 12 ∧ e % 12 ≤ tn u ∧ tn y ≤ e / 12 ∧ e / 12 ≤ tn v then tn g else sG F.1 e)
            by_cases z : tn x ≤ e % 12 ∧ e % 12 ≤ tn u ∧ tn y ≤ e / 12 ∧ e / 12 ≤ tn v
            · rw [if_pos z, if_pos (by omega)]; exact gg1
            · rw [if_neg z, if_neg (by omega)]; exact w6 e he
          · rw [qI 200 (by decide), qI 202 (by decide), qI 203 (by decide), qI 204 (by decide), qI 205 (by decide), qI 206 (by decide)]
            exact w7
          · unfold zME
            rw [qI 200 (by decide), qI 216 (by decide), qI 217 (by decide), qI 218 (by decide), qI 219 (by decide)]
            exact g3
          · unfold zMT
            rw [qI 200 (by decide), qI 208 (by decide)]
            exact g4
        · have hle : b ≤ tn v := by
            rcases Nat.lt_or_ge (tn v) b with q | q
            · exact absurd (by rw [v1]; exact (nI_ltI (by omega) (by omega)).mpr q) h1
            · exact q
          refine hJ (1000 - 20 * b - 1 - tn x) (by omega) 77 (by simp) _ _ _ ⟨⟨⟨cg, c4, c5, cxu, cyv, nxu, nyv⟩, hs⟩, Or.inr ⟨rfl, b, tn x, rfl, hb1, hle, Nat.le_refl _, by omega, ?_, rfl, fun e he => ?_⟩⟩
          · rw [show (tn u + 1 - tn x) * (b - tn y) + (tn x - tn x) = (tn u + 1 - tn x) * (b - tn y) by rw [Nat.sub_self]; rfl, ← x1]
          · rw [hc e he]
            have : ((tn x ≤ e % 12 ∧ e % 12 ≤ tn u ∧ tn y ≤ e / 12 ∧ e / 12 < b) ∨ (tn x ≤ e % 12 ∧ e % 12 < tn x ∧ e / 12 = b)) ↔ (tn x ≤ e % 12 ∧ e % 12 ≤ tn u ∧ tn y ≤ e / 12 ∧ e / 12 < b) := by omega
            simp only [this]
      · obtain ⟨x1, x2, y1, y2, x3, y3⟩ := pcl_n ok c4
        obtain ⟨u1, u2, v1, v2, u3, v3⟩ := pcl_n ok c5
        have r7 : M'.2.2.2 200 7 = some 201 := by rw [hs.R]; exact g1.1
        have ww : M'.2.1 200 2 = nI (sW F.1) := by rw [hs.at (by simp)]; exact w1
        simp only [zB_X8_land, zb_X8_land_77, ↓reduceIte, Nat.reduceEqDiff, zsh_200, zsh_201, r7, ww, pk_mul, nI_add, zT_push, zT_bin, zT_div, zT_bil, zT_shl, zT_un, zT_i2l, zT_l2i, zT_lcmp, zT_ild, zT_lld, zT_ald, zT_ist, zT_lst, zT_ast, zT_iinc, zT_dup, zT_dup2, zT_pop, zT_if1, zT_if2, zT_ifn, zT_getI, zT_getJ, zT_getR, zT_putI, zT_putZ, zT_putJ, zT_putR, zT_ald0, zT_lald, zT_aald, zT_iast, zT_zast, zT_bast, zT_last, zT_aast, zT_iret, zT_nret, zT_aret, zT_vret, zT_oi, zT_mm, zT_ialX, zT_S1, zT_S2, zT_S3, zT_V0, zT_V1, zT_V2, zT_V3, zT_V4, zT_V5, zT_V6, zT_I0, zT_I1, zT_I2, zlg, zlset, zlpr, zent, zok, va_rf, List.length_cons, List.length_nil, List.replicate, List.cons_append, List.nil_append, List.append_nil, Option.toList_some, Option.toList_none, Option.toList, Nat.reduceAdd, Nat.reduceSub, Nat.reduceLeDiff, Nat.zero_add, Nat.zero_le, true_and, and_true, Nat.le_refl, ge_iff_le, Nat.reduceEqDiff]
        refine ⟨fun h1 => ?_, fun h1 => ?_⟩
        · rw [u1] at h1
          have := (nI_ltI (by omega) (by omega)).mp h1
          have e : a = tn u + 1 := by omega
          subst e
          refine hJ (1000 - 20 * (b + 1)) (by omega) 67 (by simp) _ _ _ ⟨⟨⟨cg, c4, c5, cxu, cyv, nxu, nyv⟩, hs⟩, Or.inl ⟨rfl, b + 1, some (.int (nI (tn u + 1))), rfl, by omega, by omega, ?_, rfl, fun e he => ?_⟩⟩
          · rw [nI_1, show b + 1 - tn y = (b - tn y) + 1 from by omega, Nat.mul_add, Nat.mul_one]
          · rw [hc e he]
            have : ((tn x ≤ e % 12 ∧ e % 12 ≤ tn u ∧ tn y ≤ e / 12 ∧ e / 12 < b) ∨ (tn x ≤ e % 12 ∧ e % 12 < tn u + 1 ∧ e / 12 = b)) ↔ (tn x ≤ e % 12 ∧ e % 12 ≤ tn u ∧ tn y ≤ e / 12 ∧ e / 12 < b + 1) := by omega
            simp only [this]
        · have hle : a ≤ tn u := by
            rcases Nat.lt_or_ge (tn u) a with q | q
            · exact absurd (by rw [u1]; exact (nI_ltI (by omega) (by omega)).mpr q) h1
            · exact q
          have hwil : wil (sW F.1) (sH F.1) (b * 12 + a) := ⟨by omega, by omega⟩
          have hmx := mI_xy (w := sW F.1) (x := a) (y := b) (by omega)
          have hlt := mI_120 k2 k4 hwil
          rw [hmx] at hlt
          rw [nI_clamp (by omega)]
          refine ⟨vp_in_nI hlt (by decide), hJ (1000 - 20 * b - 1 - (a + 1)) (by omega) 77 (by simp) _ _ _ ⟨⟨⟨cg, c4, c5, cxu, cyv, nxu, nyv⟩, hs.w (by simp)⟩, Or.inr ⟨rfl, b, a + 1, rfl, hb1, hb2, by omega, by omega, ?_, rfl, fun e he => ?_⟩⟩⟩
          · rw [nI_1, nI_1, show a + 1 - tn x = a - tn x + 1 from by omega, Nat.add_assoc]
          · simp only [zwI_L, zwI_I, zwI_J, zwI_R, zwJ_L, zwJ_I, zwJ_J, zwJ_R, zwR_L, zwR_I, zwR_J, zwR_R, zw2_s, zw2_n, ne_eq, not_false_eq_true, reduceCtorEq, not_true_eq_false, Nat.reduceEqDiff]
            by_cases e1 : e = b * 12 + a
            · rw [e1, hmx, zup_s, if_pos (by omega)]
            · have ne : mI (sW F.1) e ≠ b * sW F.1 + a := fun z => e1 (mI_inj he.1 hwil.1 (z.trans hmx.symm))
              rw [zup_n ne, hc e he]
              have : ((tn x ≤ e % 12 ∧ e % 12 ≤ tn u ∧ tn y ≤ e / 12 ∧ e / 12 < b) ∨ (tn x ≤ e % 12 ∧ e % 12 < a ∧ e / 12 = b)) ↔ ((tn x ≤ e % 12 ∧ e % 12 ≤ tn u ∧ tn y ≤ e / 12 ∧ e / 12 < b) ∨ (tn x ≤ e % 12 ∧ e % 12 < a + 1 ∧ e / 12 = b)) := by omega
              simp only [this]
    · intro J hJ
      have bad : (¬ (0 ≤ g ∧ g ≤ 200) ∨ u < x ∨ v < y) → ∀ o1 o2 o3, zb_X8_land_29 K J M1 [some (.ref 200), some (.int x), some (.int y), some (.int u), some (.int v), some (.int g), o1, o2, o3] [] := by
        intro hb o1 o2 o3
        simp only [zb_X8_land_29, zsh_200, zT_push, zT_bin, zT_div, zT_bil, zT_shl, zT_un, zT_i2l, zT_l2i, zT_lcmp, zT_ild, zT_lld, zT_ald, zT_ist, zT_lst, zT_ast, zT_iinc, zT_dup, zT_dup2, zT_pop, zT_if1, zT_if2, zT_ifn, zT_getI, zT_getJ, zT_getR, zT_putI, zT_putZ, zT_putJ, zT_putR, zT_ald0, zT_lald, zT_aald, zT_iast, zT_zast, zT_bast, zT_last, zT_aast, zT_iret, zT_nret, zT_aret, zT_vret, zT_oi, zT_mm, zT_ialX, zT_S1, zT_S2, zT_S3, zT_V0, zT_V1, zT_V2, zT_V3, zT_V4, zT_V5, zT_V6, zT_I0, zT_I1, zT_I2, zlg, zlset, zlpr, zent, zok, va_rf, List.length_cons, List.length_nil, List.replicate, List.cons_append, List.nil_append, List.append_nil, Option.toList_some, Option.toList_none, Option.toList, Nat.reduceAdd, Nat.reduceSub, Nat.reduceLeDiff, Nat.zero_add, Nat.zero_le, true_and, and_true, Nat.le_refl, ge_iff_le, Nat.reduceEqDiff]
        unfold zc_X8_told
        dsimp only
        refine ⟨rfl, ?_⟩
        have h2 := h (zwI M1 200 1 (-1))
        unfold pLand at h2
        rw [if_pos hb] at h2
        exact h2 (hF1.told (-1))
      have bad2 : ¬ (¬ (0 ≤ g ∧ g ≤ 200) ∨ u < x ∨ v < y) → ¬ (pclD F.1 x y = true ∧ pclD F.1 u v = true) → ∀ o1 o2 o3, zb_X8_land_54 K J M1 [some (.ref 200), some (.int x), some (.int y), some (.int u), some (.int v), some (.int g), o1, o2, o3] [] := by
        intro hb hb2 o1 o2 o3
        simp only [zb_X8_land_54, zsh_200, zT_push, zT_bin, zT_div, zT_bil, zT_shl, zT_un, zT_i2l, zT_l2i, zT_lcmp, zT_ild, zT_lld, zT_ald, zT_ist, zT_lst, zT_ast, zT_iinc, zT_dup, zT_dup2, zT_pop, zT_if1, zT_if2, zT_ifn, zT_getI, zT_getJ, zT_getR, zT_putI, zT_putZ, zT_putJ, zT_putR, zT_ald0, zT_lald, zT_aald, zT_iast, zT_zast, zT_bast, zT_last, zT_aast, zT_iret, zT_nret, zT_aret, zT_vret, zT_oi, zT_mm, zT_ialX, zT_S1, zT_S2, zT_S3, zT_V0, zT_V1, zT_V2, zT_V3, zT_V4, zT_V5, zT_V6, zT_I0, zT_I1, zT_I2, zlg, zlset, zlpr, zent, zok, va_rf, List.length_cons, List.length_nil, List.replicate, List.cons_append, List.nil_append, List.append_nil, Option.toList_some, Option.toList_none, Option.toList, Nat.reduceAdd, Nat.reduceSub, Nat.reduceLeDiff, Nat.zero_add, Nat.zero_le, true_and, and_true, Nat.le_refl, ge_iff_le, Nat.reduceEqDiff]
        unfold zc_X8_told
        dsimp only
        refine ⟨rfl, ?_⟩
        have h2 := h (zwI M1 200 1 (-2))
        unfold pLand at h2
        rw [if_neg hb, if_neg hb2] at h2
        exact h2 (hF1.told (-2))
      simp only [zb_X8_land_0, zsh_200, hM1, zT_push, zT_bin, zT_div, zT_bil, zT_shl, zT_un, zT_i2l, zT_l2i, zT_lcmp, zT_ild, zT_lld, zT_ald, zT_ist, zT_lst, zT_ast, zT_iinc, zT_dup, zT_dup2, zT_pop, zT_if1, zT_if2, zT_ifn, zT_getI, zT_getJ, zT_getR, zT_putI, zT_putZ, zT_putJ, zT_putR, zT_ald0, zT_lald, zT_aald, zT_iast, zT_zast, zT_bast, zT_last, zT_aast, zT_iret, zT_nret, zT_aret, zT_vret, zT_oi, zT_mm, zT_ialX, zT_S1, zT_S2, zT_S3, zT_V0, zT_V1, zT_V2, zT_V3, zT_V4, zT_V5, zT_V6, zT_I0, zT_I1, zT_I2, zlg, zlset, zlpr, zent, zok, va_rf, List.length_cons, List.length_nil, List.replicate, List.cons_append, List.nil_append, List.append_nil, Option.toList_some, Option.toList_none, Option.toList, Nat.reduceAdd, Nat.reduceSub, Nat.reduceLeDiff, Nat.zero_add, Nat.zero_le, true_and, and_true, Nat.le_refl, ge_iff_le, Nat.reduceEqDiff]
      unfold zc_X8_in
      dsimp only
      have e : zbI (0 ≤ g.toInt64 ∧ g.toInt64 ≤ 200) = zbI (0 ≤ g ∧ g ≤ 200) := zin_c (a := 0) (b := 200) (by decide) (by decide)
      rw [e]
      simp only [zbI_0, zsh_200, zT_push, zT_bin, zT_div, zT_bil, zT_shl, zT_un, zT_i2l, zT_l2i, zT_lcmp, zT_ild, zT_lld, zT_ald, zT_ist, zT_lst, zT_ast, zT_iinc, zT_dup, zT_dup2, zT_pop, zT_if1, zT_if2, zT_ifn, zT_getI, zT_getJ, zT_getR, zT_putI, zT_putZ, zT_putJ, zT_putR, zT_ald0, zT_lald, zT_aald, zT_iast, zT_zast, zT_bast, zT_last, zT_aast, zT_iret, zT_nret, zT_aret, zT_vret, zT_oi, zT_mm, zT_ialX, zT_S1, zT_S2, zT_S3, zT_V0, zT_V1, zT_V2, zT_V3, zT_V4, zT_V5, zT_V6, zT_I0, zT_I1, zT_I2, zlg, zlset, zlpr, zent, zok, va_rf, List.length_cons, List.length_nil, List.replicate, List.cons_append, List.nil_append, List.append_nil, Option.toList_some, Option.toList_none, Option.toList, Nat.reduceAdd, Nat.reduceSub, Nat.reduceLeDiff, Nat.zero_add, Nat.zero_le, true_and, and_true, Nat.le_refl, ge_iff_le, Nat.reduceEqDiff]
      refine ⟨fun h1 => bad (Or.inl h1) _ _ _, fun h1 => ⟨fun h2 => bad (Or.inr (Or.inl h2)) _ _ _, fun h2 => ⟨fun h3 => ?_, fun h3 => bad (Or.inr (Or.inr (Int32.not_le.mp h3))) _ _ _⟩⟩⟩
      have cg := Classical.not_not.mp h1
      have hn : ¬ (¬ (0 ≤ g ∧ g ≤ 200) ∨ u < x ∨ v < y) := by
        rintro (z | z | z)
        · exact h1 z
        · exact h2 z
        · exact Int32.not_le.mpr z h3
      unfold zc_X8_isCell
      dsimp only
      refine ⟨rfl, sW F.1, sH F.1, w1, w2, by omega, k2, by omega, k4, ?_⟩
      simp only [zbI_0, zsh_200, zT_push, zT_bin, zT_div, zT_bil, zT_shl, zT_un, zT_i2l, zT_l2i, zT_lcmp, zT_ild, zT_lld, zT_ald, zT_ist, zT_lst, zT_ast, zT_iinc, zT_dup, zT_dup2, zT_pop, zT_if1, zT_if2, zT_ifn, zT_getI, zT_getJ, zT_getR, zT_putI, zT_putZ, zT_putJ, zT_putR, zT_ald0, zT_lald, zT_aald, zT_iast, zT_zast, zT_bast, zT_last, zT_aast, zT_iret, zT_nret, zT_aret, zT_vret, zT_oi, zT_mm, zT_ialX, zT_S1, zT_S2, zT_S3, zT_V0, zT_V1, zT_V2, zT_V3, zT_V4, zT_V5, zT_V6, zT_I0, zT_I1, zT_I2, zlg, zlset, zlpr, zent, zok, va_rf, List.length_cons, List.length_nil, List.replicate, List.cons_append, List.nil_append, List.append_nil, Option.toList_some, Option.toList_none, Option.toList, Nat.reduceAdd, Nat.reduceSub, Nat.reduceLeDiff, Nat.zero_add, Nat.zero_le, true_and, and_true, Nat.le_refl, ge_iff_le, Nat.reduceEqDiff]
      refine ⟨fun h4 => bad2 hn (fun z => h4 (pclD_t.mp z.1)) _ _ _, fun h4 => ?_⟩
      refine ⟨sW F.1, sH F.1, w1, w2, by omega, k2, by omega, k4, ?_⟩
      refine ⟨fun h5 => bad2 hn (fun z => h5 (pclD_t.mp z.2)) _ _ _, fun h5 => ?_⟩
      have c4 : pcl F.1 x y := Classical.not_not.mp h4
      have c5 : pcl F.1 u v := Classical.not_not.mp h5
      obtain ⟨x1, x2, y1, y2, x3, y3⟩ := pcl_n ok c4
      obtain ⟨u1, u2, v1, v2, u3, v3⟩ := pcl_n ok c5
      have xu : tn x ≤ tn u := by
        have z := Int32.not_lt.mp h2
        rw [x1, u1] at z
        exact (nI_leI (by omega) (by omega)).mp z
      have yv : tn y ≤ tn v := by
        have z := h3
        rw [y1, v1] at z
        exact (nI_leI (by omega) (by omega)).mp z
      refine hJ (1000 - 20 * tn y) 67 (by simp) _ _ _ ⟨⟨⟨cg, c4, c5, xu, yv, h2, Int32.not_lt.mpr h3⟩, zsm.rf⟩, Or.inl ⟨rfl, tn y, none, rfl, Nat.le_refl _, by omega, ?_, rfl, fun e he => ?_⟩⟩
      · rw [Nat.sub_self, Nat.mul_zero, ← y1]; rfl
      · rw [if_neg (by omega)]
  · exact h.elim
