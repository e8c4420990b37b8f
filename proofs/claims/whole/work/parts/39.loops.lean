/-! DeltaRuns lake -/
theorem zd_X7_lake_0 : decode cX7_lake 0 = .ok (.iload_n 1, 1) := by decide +kernel
theorem zd_X7_lake_1 : decode cX7_lake 1 = .ok (.iconst 0, 1) := by decide +kernel
theorem zd_X7_lake_2 : decode cX7_lake 2 = .ok (.bipush 35, 2) := by decide +kernel
theorem zd_X7_lake_4 : decode cX7_lake 4 = .ok (.invokestatic 60, 3) := by decide +kernel
theorem zd_X7_lake_7 : decode cX7_lake 7 = .ok (.ifCond .eq 13, 3) := by decide +kernel
theorem zd_X7_lake_10 : decode cX7_lake 10 = .ok (.iload_n 2, 1) := by decide +kernel
theorem zd_X7_lake_11 : decode cX7_lake 11 = .ok (.iconst 0, 1) := by decide +kernel
theorem zd_X7_lake_12 : decode cX7_lake 12 = .ok (.bipush 30, 2) := by decide +kernel
theorem zd_X7_lake_14 : decode cX7_lake 14 = .ok (.invokestatic 60, 3) := by decide +kernel
theorem zd_X7_lake_17 : decode cX7_lake 17 = .ok (.ifCond .ne 5, 3) := by decide +kernel
theorem zd_X7_lake_20 : decode cX7_lake 20 = .ok (.iconst (-1), 1) := by decide +kernel
theorem zd_X7_lake_21 : decode cX7_lake 21 = .ok (.ireturn, 1) := by decide +kernel
theorem zd_X7_lake_22 : decode cX7_lake 22 = .ok (.aload_n 0, 1) := by decide +kernel
theorem zd_X7_lake_23 : decode cX7_lake 23 = .ok (.iload_n 1, 1) := by decide +kernel
theorem zd_X7_lake_24 : decode cX7_lake 24 = .ok (.iload_n 2, 1) := by decide +kernel
theorem zd_X7_lake_25 : decode cX7_lake 25 = .ok (.invokevirtual 119, 3) := by decide +kernel
theorem zd_X7_lake_28 : decode cX7_lake 28 = .ok (.astore_n 3, 1) := by decide +kernel
theorem zd_X7_lake_29 : decode cX7_lake 29 = .ok (.iconst 0, 1) := by decide +kernel
theorem zd_X7_lake_30 : decode cX7_lake 30 = .ok (.istore 4, 2) := by decide +kernel
theorem zd_X7_lake_32 : decode cX7_lake 32 = .ok (.iconst 0, 1) := by decide +kernel
theorem zd_X7_lake_33 : decode cX7_lake 33 = .ok (.istore 5, 2) := by decide +kernel
theorem zd_X7_lake_35 : decode cX7_lake 35 = .ok (.iload 5, 2) := by decide +kernel
theorem zd_X7_lake_37 : decode cX7_lake 37 = .ok (.aload_n 0, 1) := by decide +kernel
theorem zd_X7_lake_38 : decode cX7_lake 38 = .ok (.getfield 10, 3) := by decide +kernel
theorem zd_X7_lake_41 : decode cX7_lake 41 = .ok (.getfield 145, 3) := by decide +kernel
theorem zd_X7_lake_44 : decode cX7_lake 44 = .ok (.if_icmp .ge 55, 3) := by decide +kernel
theorem zd_X7_lake_47 : decode cX7_lake 47 = .ok (.iconst 0, 1) := by decide +kernel
theorem zd_X7_lake_48 : decode cX7_lake 48 = .ok (.istore 6, 2) := by decide +kernel
theorem zd_X7_lake_50 : decode cX7_lake 50 = .ok (.iload 6, 2) := by decide +kernel
theorem zd_X7_lake_52 : decode cX7_lake 52 = .ok (.aload_n 0, 1) := by decide +kernel
theorem zd_X7_lake_53 : decode cX7_lake 53 = .ok (.getfield 10, 3) := by decide +kernel
theorem zd_X7_lake_56 : decode cX7_lake 56 = .ok (.getfield 148, 3) := by decide +kernel
theorem zd_X7_lake_59 : decode cX7_lake 59 = .ok (.if_icmp .ge 34, 3) := by decide +kernel
theorem zd_X7_lake_62 : decode cX7_lake 62 = .ok (.aload_n 3, 1) := by decide +kernel
theorem zd_X7_lake_63 : decode cX7_lake 63 = .ok (.iload_n 2, 1) := by decide +kernel
theorem zd_X7_lake_64 : decode cX7_lake 64 = .ok (.iload 6, 2) := by decide +kernel
theorem zd_X7_lake_66 : decode cX7_lake 66 = .ok (.iload 5, 2) := by decide +kernel
theorem zd_X7_lake_68 : decode cX7_lake 68 = .ok (.invokestatic 92, 3) := by decide +kernel
theorem zd_X7_lake_71 : decode cX7_lake 71 = .ok (.invokevirtual 123, 3) := by decide +kernel
theorem zd_X7_lake_74 : decode cX7_lake 74 = .ok (.aload_n 0, 1) := by decide +kernel
theorem zd_X7_lake_75 : decode cX7_lake 75 = .ok (.getfield 10, 3) := by decide +kernel
theorem zd_X7_lake_78 : decode cX7_lake 78 = .ok (.getfield 89, 3) := by decide +kernel
theorem zd_X7_lake_81 : decode cX7_lake 81 = .ok (.if_icmp .ge 6, 3) := by decide +kernel
theorem zd_X7_lake_84 : decode cX7_lake 84 = .ok (.iinc 4 1, 3) := by decide +kernel
theorem zd_X7_lake_87 : decode cX7_lake 87 = .ok (.iinc 6 1, 3) := by decide +kernel
theorem zd_X7_lake_90 : decode cX7_lake 90 = .ok (.goto (-40), 3) := by decide +kernel
theorem zd_X7_lake_93 : decode cX7_lake 93 = .ok (.iinc 5 1, 3) := by decide +kernel
theorem zd_X7_lake_96 : decode cX7_lake 96 = .ok (.goto (-61), 3) := by decide +kernel
theorem zd_X7_lake_99 : decode cX7_lake 99 = .ok (.iload 4, 2) := by decide +kernel
theorem zd_X7_lake_101 : decode cX7_lake 101 = .ok (.ireturn, 1) := by decide +kernel
def zb_X7_lake_20 (K : zKt) (J : Nat → zPP) (lc lz : Nat) : zPP := zT_push (.int (-1)) (zT_iret K)
theorem zbs_X7_lake_20 {X : zCt} (hR : zRX X = { frames := 5, cells := 2, slots := 467, locals := 119 }) (J : Nat → zPP) (hJ : ∀ h ∈ ([35, 50] : List Nat), zSd X RX7 "lake" cX7_lake 7 (some .int) h (J h)) : zSd X RX7 "lake" cX7_lake 7 (some .int) 20 (zb_X7_lake_20 (zKX X) J (zlc X) (zls X)) := zs_iconst zd_X7_lake_20 (by decide) (zs_iret rfl zd_X7_lake_21)
def zb_X7_lake_0 (K : zKt) (J : Nat → zPP) (lc lz : Nat) : zPP := zT_ild 1 (zT_push (.int 0) (zT_push (.int 35) (zT_S3 zok zc_X7_within (zT_if1 (fun x => x = 0) (zb_X7_lake_20 K J lc lz) (zT_ild 2 (zT_push (.int 0) (zT_push (.int 30) (zT_S3 zok zc_X7_within (zT_if1 (fun x => x = 0) (zb_X7_lake_20 K J lc lz) (zT_ald 0 (zT_ild 1 (zT_ild 2 (zT_V2 (zlm 2 467 lc lz) 7 9 zc_X7_runTo (zT_ast 3 (zT_push (.int 0) (zT_ist 4 (zT_push (.int 0) (zT_ist 5 (J 35)))))))))))))))))))
theorem zbs_X7_lake_0 {X : zCt} (hR : zRX X = { frames := 5, cells := 2, slots := 467, locals := 119 }) (J : Nat → zPP) (hJ : ∀ h ∈ ([35, 50] : List Nat), zSd X RX7 "lake" cX7_lake 7 (some .int) h (J h)) : zSd X RX7 "lake" cX7_lake 7 (some .int) 0 (zb_X7_lake_0 (zKX X) J (zlc X) (zls X)) := zs_iload_n zd_X7_lake_0 rfl (zs_iconst zd_X7_lake_1 (by decide) (zs_bipush zd_X7_lake_2 (by decide) (zs_S (zm_X7_within _ _ _) gw_1_219 gw_1_217 gw_1_218 gw_1_1 zdn_X7_within (zrm hR (by decide) (by decide)) zd_X7_lake_4 (zCl_S3 zok_l) (zs_if_eq (tgt := 20) zd_X7_lake_7 (by decide) (zbs_X7_lake_20 hR J hJ) (zs_iload_n zd_X7_lake_10 rfl (zs_iconst zd_X7_lake_11 (by decide) (zs_bipush zd_X7_lake_12 (by decide) (zs_S (zm_X7_within _ _ _) gw_1_219 gw_1_217 gw_1_218 gw_1_1 zdn_X7_within (zrm hR (by decide) (by decide)) zd_X7_lake_14 (zCl_S3 zok_l) (zs_if_ne (tgt := 22) zd_X7_lake_17 (by decide) (zs_aload_n zd_X7_lake_22 rfl (zs_iload_n zd_X7_lake_23 rfl (zs_iload_n zd_X7_lake_24 rfl (zs_V (ci := 7) rfl rfl (zm_X7_runTo _ _ _) gw_2_160 gw_2_157 gw_2_159 gw_0_9 gw_1_1 zdn_X7_runTo (zrm hR (by decide) (by decide)) zd_X7_lake_25 (zCl_V2 zlm_l) (zs_astore_n zd_X7_lake_28 rfl (by decide) (zs_iconst zd_X7_lake_29 (by decide) (zs_istore zd_X7_lake_30 (by decide) (zs_iconst zd_X7_lake_32 (by decide) (zs_istore zd_X7_lake_33 (by decide) (hJ 35 (by decide))))))))))) (zbs_X7_lake_20 hR J hJ))))))))))
def zb_X7_lake_35 (K : zKt) (J : Nat → zPP) (lc lz : Nat) : zPP := zT_ild 5 (zT_ald 0 (zT_getR 7 0 9 (zT_getI 1 2 6 (zT_if2 (fun x y => y ≤ x) (zT_ild 4 (zT_iret K)) (zT_push (.int 0) (zT_ist 6 (J 50)))))))
theorem zbs_X7_lake_35 {X : zCt} (hR : zRX X = { frames := 5, cells := 2, slots := 467, locals := 119 }) (J : Nat → zPP) (hJ : ∀ h ∈ ([35, 50] : List Nat), zSd X RX7 "lake" cX7_lake 7 (some .int) h (J h)) : zSd X RX7 "lake" cX7_lake 7 (some .int) 35 (zb_X7_lake_35 (zKX X) J (zlc X) (zls X)) := zs_iload zd_X7_lake_35 (zs_aload_n zd_X7_lake_37 rfl (zs_getR (ci := 7) (j := 0) (T := TX7) rfl inX7 (by decide) gw_1_185 rfl zd_X7_lake_38 (zs_getI (ci := 1) (j := 2) (T := TX1) rfl inX1 (by decide) gw_1_38 rfl zd_X7_lake_41 (zs_icmp_ge (tgt := 99) zd_X7_lake_44 (by decide) (zs_iload zd_X7_lake_99 (zs_iret rfl zd_X7_lake_101)) (zs_iconst zd_X7_lake_47 (by decide) (zs_istore zd_X7_lake_48 (by decide) (hJ 50 (by decide))))))))
def zb_X7_lake_87 (K : zKt) (J : Nat → zPP) (lc lz : Nat) : zPP := zT_iinc 6 1 (J 50)
theorem zbs_X7_lake_87 {X : zCt} (hR : zRX X = { frames := 5, cells := 2, slots := 467, locals := 119 }) (J : Nat → zPP) (hJ : ∀ h ∈ ([35, 50] : List Nat), zSd X RX7 "lake" cX7_lake 7 (some .int) h (J h)) : zSd X RX7 "lake" cX7_lake 7 (some .int) 87 (zb_X7_lake_87 (zKX X) J (zlc X) (zls X)) := zs_iinc zd_X7_lake_87 (by decide) (by decide) (zs_goto (tgt := 50) zd_X7_lake_90 (by decide) (hJ 50 (by decide)))
def zb_X7_lake_50 (K : zKt) (J : Nat → zPP) (lc lz : Nat) : zPP := zT_ild 6 (zT_ald 0 (zT_getR 7 0 9 (zT_getI 1 1 6 (zT_if2 (fun x y => y ≤ x) (zT_iinc 5 1 (J 35)) (zT_ald 3 (zT_ild 2 (zT_ild 6 (zT_ild 5 (zT_S2 zok zc_X7_cellAt (zT_V2 zok 6 2 zc_X6_heightOf (zT_ald 0 (zT_getR 7 0 9 (zT_getI 1 5 6 (zT_if2 (fun x y => y ≤ x) (zb_X7_lake_87 K J lc lz) (zT_iinc 4 1 (zb_X7_lake_87 K J lc lz))))))))))))))))
theorem zbs_X7_lake_50 {X : zCt} (hR : zRX X = { frames := 5, cells := 2, slots := 467, locals := 119 }) (J : Nat → zPP) (hJ : ∀ h ∈ ([35, 50] : List Nat), zSd X RX7 "lake" cX7_lake 7 (some .int) h (J h)) : zSd X RX7 "lake" cX7_lake 7 (some .int) 50 (zb_X7_lake_50 (zKX X) J (zlc X) (zls X)) := zs_iload zd_X7_lake_50 (zs_aload_n zd_X7_lake_52 rfl (zs_getR (ci := 7) (j := 0) (T := TX7) rfl inX7 (by decide) gw_1_185 rfl zd_X7_lake_53 (zs_getI (ci := 1) (j := 1) (T := TX1) rfl inX1 (by decide) gw_1_36 rfl zd_X7_lake_56 (zs_icmp_ge (tgt := 93) zd_X7_lake_59 (by decide) (zs_iinc zd_X7_lake_93 (by decide) (by decide) (zs_goto (tgt := 35) zd_X7_lake_96 (by decide) (hJ 35 (by decide)))) (zs_aload_n zd_X7_lake_62 rfl (zs_iload_n zd_X7_lake_63 rfl (zs_iload zd_X7_lake_64 (zs_iload zd_X7_lake_66 (zs_S (zm_X7_cellAt _ _ _) gw_2_7 gw_2_16 gw_2_6 gw_1_1 zdn_X7_cellAt (zrm hR (by decide) (by decide)) zd_X7_lake_68 (zCl_S2 zok_l) (zs_V (ci := 6) rfl rfl (zm_X6_heightOf _ _ _) gw_2_190 gw_2_187 gw_2_188 gw_2_189 gw_1_14 zdn_X6_heightOf (zrm hR (by decide) (by decide)) zd_X7_lake_71 (zCl_V2 zok_l) (zs_aload_n zd_X7_lake_74 rfl (zs_getR (ci := 7) (j := 0) (T := TX7) rfl inX7 (by decide) gw_1_185 rfl zd_X7_lake_75 (zs_getI (ci := 1) (j := 5) (T := TX1) rfl inX1 (by decide) gw_1_46 rfl zd_X7_lake_78 (zs_icmp_ge (tgt := 87) zd_X7_lake_81 (by decide) (zbs_X7_lake_87 hR J hJ) (zs_iinc zd_X7_lake_84 (by decide) (by decide) (zbs_X7_lake_87 hR J hJ))))))))))))))))
def zB_X7_lake (K : zKt) (lc lz : Nat) (J : Nat → zPP) (h : Nat) : zPP := if h = 35 then zb_X7_lake_35 K J lc lz else if h = 50 then zb_X7_lake_50 K J lc lz else (fun _ _ _ => False)
theorem zBs_X7_lake {X : zCt} (hR : zRX X = { frames := 5, cells := 2, slots := 467, locals := 119 }) : ∀ J : Nat → zPP, (∀ h ∈ ([35, 50] : List Nat), zSd X RX7 "lake" cX7_lake 7 (some .int) h (J h)) → ∀ h ∈ ([35, 50] : List Nat), zSd X RX7 "lake" cX7_lake 7 (some .int) h (zB_X7_lake (zKX X) (zlc X) (zls X) J h) := by
  intro J hJ h hh
  unfold zB_X7_lake
  simp only [List.mem_cons, List.not_mem_nil, or_false] at hh
  rcases hh with rfl | rfl
  · exact zbs_X7_lake_35 hR J hJ
  · exact zbs_X7_lake_50 hR J hJ
theorem zdn_X7_lake : yX7_lake.cls ≠ "java/lang/invoke/MethodHandle" ∧ yX7_lake.cls ≠ "java/lang/invoke/VarHandle" ∧ (parseMethodDescriptor yX7_lake.desc).map (fun d => d.parameters.length) = some 2 := by decide +kernel
/-! DeltaRuns stays -/
theorem zd_X7_stays_0 : decode cX7_stays 0 = .ok (.iload_n 1, 1) := by decide +kernel
theorem zd_X7_stays_1 : decode cX7_stays 1 = .ok (.iconst (-1), 1) := by decide +kernel
theorem zd_X7_stays_2 : decode cX7_stays 2 = .ok (.bipush 35, 2) := by decide +kernel
theorem zd_X7_stays_4 : decode cX7_stays 4 = .ok (.invokestatic 60, 3) := by decide +kernel
theorem zd_X7_stays_7 : decode cX7_stays 7 = .ok (.ifCond .eq 10, 3) := by decide +kernel
theorem zd_X7_stays_10 : decode cX7_stays 10 = .ok (.iload_n 2, 1) := by decide +kernel
theorem zd_X7_stays_11 : decode cX7_stays 11 = .ok (.invokestatic 151, 3) := by decide +kernel
theorem zd_X7_stays_14 : decode cX7_stays 14 = .ok (.ifCond .ne 5, 3) := by decide +kernel
theorem zd_X7_stays_17 : decode cX7_stays 17 = .ok (.iconst (-1), 1) := by decide +kernel
theorem zd_X7_stays_18 : decode cX7_stays 18 = .ok (.ireturn, 1) := by decide +kernel
theorem zd_X7_stays_19 : decode cX7_stays 19 = .ok (.iconst 0, 1) := by decide +kernel
theorem zd_X7_stays_20 : decode cX7_stays 20 = .ok (.istore_n 3, 1) := by decide +kernel
theorem zd_X7_stays_21 : decode cX7_stays 21 = .ok (.iconst 0, 1) := by decide +kernel
theorem zd_X7_stays_22 : decode cX7_stays 22 = .ok (.istore 4, 2) := by decide +kernel
theorem zd_X7_stays_24 : decode cX7_stays 24 = .ok (.iload 4, 2) := by decide +kernel
theorem zd_X7_stays_26 : decode cX7_stays 26 = .ok (.bipush 36, 2) := by decide +kernel
theorem zd_X7_stays_28 : decode cX7_stays 28 = .ok (.if_icmp .ge 32, 3) := by decide +kernel
theorem zd_X7_stays_31 : decode cX7_stays 31 = .ok (.aload_n 0, 1) := by decide +kernel
theorem zd_X7_stays_32 : decode cX7_stays 32 = .ok (.iconst 0, 1) := by decide +kernel
theorem zd_X7_stays_33 : decode cX7_stays 33 = .ok (.iload 4, 2) := by decide +kernel
theorem zd_X7_stays_35 : decode cX7_stays 35 = .ok (.iload_n 2, 1) := by decide +kernel
theorem zd_X7_stays_36 : decode cX7_stays 36 = .ok (.invokevirtual 159, 3) := by decide +kernel
theorem zd_X7_stays_39 : decode cX7_stays 39 = .ok (.iconst (-1), 1) := by decide +kernel
theorem zd_X7_stays_40 : decode cX7_stays 40 = .ok (.if_icmp .ne 14, 3) := by decide +kernel
theorem zd_X7_stays_43 : decode cX7_stays 43 = .ok (.iload_n 3, 1) := by decide +kernel
theorem zd_X7_stays_44 : decode cX7_stays 44 = .ok (.iload_n 1, 1) := by decide +kernel
theorem zd_X7_stays_45 : decode cX7_stays 45 = .ok (.if_icmp .ne 6, 3) := by decide +kernel
theorem zd_X7_stays_48 : decode cX7_stays 48 = .ok (.iload 4, 2) := by decide +kernel
theorem zd_X7_stays_50 : decode cX7_stays 50 = .ok (.ireturn, 1) := by decide +kernel
theorem zd_X7_stays_51 : decode cX7_stays 51 = .ok (.iinc 3 1, 3) := by decide +kernel
theorem zd_X7_stays_54 : decode cX7_stays 54 = .ok (.iinc 4 1, 3) := by decide +kernel
theorem zd_X7_stays_57 : decode cX7_stays 57 = .ok (.goto (-33), 3) := by decide +kernel
theorem zd_X7_stays_60 : decode cX7_stays 60 = .ok (.iload_n 1, 1) := by decide +kernel
theorem zd_X7_stays_61 : decode cX7_stays 61 = .ok (.iconst (-1), 1) := by decide +kernel
theorem zd_X7_stays_62 : decode cX7_stays 62 = .ok (.if_icmp .ne 7, 3) := by decide +kernel
theorem zd_X7_stays_65 : decode cX7_stays 65 = .ok (.iload_n 3, 1) := by decide +kernel
theorem zd_X7_stays_66 : decode cX7_stays 66 = .ok (.goto 4, 3) := by decide +kernel
theorem zd_X7_stays_69 : decode cX7_stays 69 = .ok (.iconst (-1), 1) := by decide +kernel
theorem zd_X7_stays_70 : decode cX7_stays 70 = .ok (.ireturn, 1) := by decide +kernel
def zb_X7_stays_17 (K : zKt) (J : Nat → zPP) (lc lz : Nat) : zPP := zT_push (.int (-1)) (zT_iret K)
theorem zbs_X7_stays_17 {X : zCt} (hR : zRX X = { frames := 6, cells := 80, slots := 20000, locals := 144 }) (J : Nat → zPP) (hJ : ∀ h ∈ ([24] : List Nat), zSd X RX7 "stays" cX7_stays 5 (some .int) h (J h)) : zSd X RX7 "stays" cX7_stays 5 (some .int) 17 (zb_X7_stays_17 (zKX X) J (zlc X) (zls X)) := zs_iconst zd_X7_stays_17 (by decide) (zs_iret rfl zd_X7_stays_18)
def zb_X7_stays_0 (K : zKt) (J : Nat → zPP) (lc lz : Nat) : zPP := zT_ild 1 (zT_push (.int (-1)) (zT_push (.int 35) (zT_S3 zok zc_X7_within (zT_if1 (fun x => x = 0) (zb_X7_stays_17 K J lc lz) (zT_ild 2 (zT_S1 zok zc_X7_isDay (zT_if1 (fun x => x = 0) (zb_X7_stays_17 K J lc lz) (zT_push (.int 0) (zT_ist 3 (zT_push (.int 0) (zT_ist 4 (J 24))))))))))))
theorem zbs_X7_stays_0 {X : zCt} (hR : zRX X = { frames := 6, cells := 80, slots := 20000, locals := 144 }) (J : Nat → zPP) (hJ : ∀ h ∈ ([24] : List Nat), zSd X RX7 "stays" cX7_stays 5 (some .int) h (J h)) : zSd X RX7 "stays" cX7_stays 5 (some .int) 0 (zb_X7_stays_0 (zKX X) J (zlc X) (zls X)) := zs_iload_n zd_X7_stays_0 rfl (zs_iconst zd_X7_stays_1 (by decide) (zs_bipush zd_X7_stays_2 (by decide) (zs_S (zm_X7_within _ _ _) gw_1_219 gw_1_217 gw_1_218 gw_1_1 zdn_X7_within (zrm hR (by decide) (by decide)) zd_X7_stays_4 (zCl_S3 zok_l) (zs_if_eq (tgt := 17) zd_X7_stays_7 (by decide) (zbs_X7_stays_17 hR J hJ) (zs_iload_n zd_X7_stays_10 rfl (zs_S (zm_X7_isDay _ _ _) gw_3_41 gw_3_39 gw_3_40 gw_1_1 zdn_X7_isDay (zrm hR (by decide) (by decide)) zd_X7_stays_11 (zCl_S1 zok_l) (zs_if_ne (tgt := 19) zd_X7_stays_14 (by decide) (zs_iconst zd_X7_stays_19 (by decide) (zs_istore_n zd_X7_stays_20 rfl (by decide) (zs_iconst zd_X7_stays_21 (by decide) (zs_istore zd_X7_stays_22 (by decide) (hJ 24 (by decide)))))) (zbs_X7_stays_17 hR J hJ))))))))
def zb_X7_stays_54 (K : zKt) (J : Nat → zPP) (lc lz : Nat) : zPP := zT_iinc 4 1 (J 24)
theorem zbs_X7_stays_54 {X : zCt} (hR : zRX X = { frames := 6, cells := 80, slots := 20000, locals := 144 }) (J : Nat → zPP) (hJ : ∀ h ∈ ([24] : List Nat), zSd X RX7 "stays" cX7_stays 5 (some .int) h (J h)) : zSd X RX7 "stays" cX7_stays 5 (some .int) 54 (zb_X7_stays_54 (zKX X) J (zlc X) (zls X)) := zs_iinc zd_X7_stays_54 (by decide) (by decide) (zs_goto (tgt := 24) zd_X7_stays_57 (by decide) (hJ 24 (by decide)))
def zb_X7_stays_70 (K : zKt) (J : Nat → zPP) (lc lz : Nat) : zPP := zT_iret K
theorem zbs_X7_stays_70 {X : zCt} (hR : zRX X = { frames := 6, cells := 80, slots := 20000, locals := 144 }) (J : Nat → zPP) (hJ : ∀ h ∈ ([24] : List Nat), zSd X RX7 "stays" cX7_stays 5 (some .int) h (J h)) : zSd X RX7 "stays" cX7_stays 5 (some .int) 70 (zb_X7_stays_70 (zKX X) J (zlc X) (zls X)) := zs_iret rfl zd_X7_stays_70
def zb_X7_stays_24 (K : zKt) (J : Nat → zPP) (lc lz : Nat) : zPP := zT_ild 4 (zT_push (.int 36) (zT_if2 (fun x y => y ≤ x) (zT_ild 1 (zT_push (.int (-1)) (zT_if2 (fun x y => x = y) (zT_ild 3 (zb_X7_stays_70 K J lc lz)) (zT_push (.int (-1)) (zb_X7_stays_70 K J lc lz))))) (zT_ald 0 (zT_push (.int 0) (zT_ild 4 (zT_ild 2 (zT_V3 (zlm 4 934 lc lz) 7 9 zc_X7_againstFrom (zT_push (.int (-1)) (zT_if2 (fun x y => x = y) (zT_ild 3 (zT_ild 1 (zT_if2 (fun x y => x = y) (zT_ild 4 (zT_iret K)) (zT_iinc 3 1 (zb_X7_stays_54 K J lc lz))))) (zb_X7_stays_54 K J lc lz))))))))))
theorem zbs_X7_stays_24 {X : zCt} (hR : zRX X = { frames := 6, cells := 80, slots := 20000, locals := 144 }) (J : Nat → zPP) (hJ : ∀ h ∈ ([24] : List Nat), zSd X RX7 "stays" cX7_stays 5 (some .int) h (J h)) : zSd X RX7 "stays" cX7_stays 5 (some .int) 24 (zb_X7_stays_24 (zKX X) J (zlc X) (zls X)) := zs_iload zd_X7_stays_24 (zs_bipush zd_X7_stays_26 (by decide) (zs_icmp_ge (tgt := 60) zd_X7_stays_28 (by decide) (zs_iload_n zd_X7_stays_60 rfl (zs_iconst zd_X7_stays_61 (by decide) (zs_icmp_ne (tgt := 69) zd_X7_stays_62 (by decide) (zs_iconst zd_X7_stays_69 (by decide) (zbs_X7_stays_70 hR J hJ)) (zs_iload_n zd_X7_stays_65 rfl (zs_goto (tgt := 70) zd_X7_stays_66 (by decide) (zbs_X7_stays_70 hR J hJ)))))) (zs_aload_n zd_X7_stays_31 rfl (zs_iconst zd_X7_stays_32 (by decide) (zs_iload zd_X7_stays_33 (zs_iload_n zd_X7_stays_35 rfl (zs_V (ci := 7) rfl rfl (zm_X7_againstFrom _ _ _) gw_3_53 gw_3_50 gw_3_52 gw_0_21 gw_1_1 zdn_X7_againstFrom (zrm hR (by decide) (by decide)) zd_X7_stays_36 (zCl_V3 zlm_l) (zs_iconst zd_X7_stays_39 (by decide) (zs_icmp_ne (tgt := 54) zd_X7_stays_40 (by decide) (zbs_X7_stays_54 hR J hJ) (zs_iload_n zd_X7_stays_43 rfl (zs_iload_n zd_X7_stays_44 rfl (zs_icmp_ne (tgt := 51) zd_X7_stays_45 (by decide) (zs_iinc zd_X7_stays_51 (by decide) (by decide) (zbs_X7_stays_54 hR J hJ)) (zs_iload zd_X7_stays_48 (zs_iret rfl zd_X7_stays_50))))))))))))))
def zB_X7_stays (K : zKt) (lc lz : Nat) (J : Nat → zPP) (h : Nat) : zPP := if h = 24 then zb_X7_stays_24 K J lc lz else (fun _ _ _ => False)
theorem zBs_X7_stays {X : zCt} (hR : zRX X = { frames := 6, cells := 80, slots := 20000, locals := 144 }) : ∀ J : Nat → zPP, (∀ h ∈ ([24] : List Nat), zSd X RX7 "stays" cX7_stays 5 (some .int) h (J h)) → ∀ h ∈ ([24] : List Nat), zSd X RX7 "stays" cX7_stays 5 (some .int) h (zB_X7_stays (zKX X) (zlc X) (zls X) J h) := by
  intro J hJ h hh
  unfold zB_X7_stays
  simp only [List.mem_cons, List.not_mem_nil, or_false] at hh
  subst hh
  exact zbs_X7_stays_24 hR J hJ
theorem zdn_X7_stays : yX7_stays.cls ≠ "java/lang/invoke/MethodHandle" ∧ yX7_stays.cls ≠ "java/lang/invoke/VarHandle" ∧ (parseMethodDescriptor yX7_stays.desc).map (fun d => d.parameters.length) = some 2 := by decide +kernel
/-! DeltaRuns foretold -/
theorem zd_X7_foretold_0 : decode cX7_foretold 0 = .ok (.aload_n 0, 1) := by decide +kernel
theorem zd_X7_foretold_1 : decode cX7_foretold 1 = .ok (.getfield 10, 3) := by decide +kernel
theorem zd_X7_foretold_4 : decode cX7_foretold 4 = .ok (.iload_n 1, 1) := by decide +kernel
theorem zd_X7_foretold_5 : decode cX7_foretold 5 = .ok (.iload_n 2, 1) := by decide +kernel
theorem zd_X7_foretold_6 : decode cX7_foretold 6 = .ok (.invokevirtual 81, 3) := by decide +kernel
theorem zd_X7_foretold_9 : decode cX7_foretold 9 = .ok (.ifCond .eq 31, 3) := by decide +kernel
theorem zd_X7_foretold_12 : decode cX7_foretold 12 = .ok (.iload_n 3, 1) := by decide +kernel
theorem zd_X7_foretold_13 : decode cX7_foretold 13 = .ok (.iconst 0, 1) := by decide +kernel
theorem zd_X7_foretold_14 : decode cX7_foretold 14 = .ok (.bipush 30, 2) := by decide +kernel
theorem zd_X7_foretold_16 : decode cX7_foretold 16 = .ok (.invokestatic 60, 3) := by decide +kernel
theorem zd_X7_foretold_19 : decode cX7_foretold 19 = .ok (.ifCond .eq 21, 3) := by decide +kernel
theorem zd_X7_foretold_22 : decode cX7_foretold 22 = .ok (.iload 4, 2) := by decide +kernel
theorem zd_X7_foretold_24 : decode cX7_foretold 24 = .ok (.invokestatic 151, 3) := by decide +kernel
theorem zd_X7_foretold_27 : decode cX7_foretold 27 = .ok (.ifCond .eq 13, 3) := by decide +kernel
theorem zd_X7_foretold_30 : decode cX7_foretold 30 = .ok (.iload 5, 2) := by decide +kernel
theorem zd_X7_foretold_32 : decode cX7_foretold 32 = .ok (.iconst 0, 1) := by decide +kernel
theorem zd_X7_foretold_33 : decode cX7_foretold 33 = .ok (.iconst 2, 1) := by decide +kernel
theorem zd_X7_foretold_34 : decode cX7_foretold 34 = .ok (.invokestatic 60, 3) := by decide +kernel
theorem zd_X7_foretold_37 : decode cX7_foretold 37 = .ok (.ifCond .ne 6, 3) := by decide +kernel
theorem zd_X7_foretold_40 : decode cX7_foretold 40 = .ok (.bipush (-100), 2) := by decide +kernel
theorem zd_X7_foretold_42 : decode cX7_foretold 42 = .ok (.ireturn, 1) := by decide +kernel
theorem zd_X7_foretold_43 : decode cX7_foretold 43 = .ok (.iload_n 1, 1) := by decide +kernel
theorem zd_X7_foretold_44 : decode cX7_foretold 44 = .ok (.iload_n 2, 1) := by decide +kernel
theorem zd_X7_foretold_45 : decode cX7_foretold 45 = .ok (.invokestatic 92, 3) := by decide +kernel
theorem zd_X7_foretold_48 : decode cX7_foretold 48 = .ok (.istore 6, 2) := by decide +kernel
theorem zd_X7_foretold_50 : decode cX7_foretold 50 = .ok (.sipush 201, 3) := by decide +kernel
theorem zd_X7_foretold_53 : decode cX7_foretold 53 = .ok (.istore 7, 2) := by decide +kernel
theorem zd_X7_foretold_55 : decode cX7_foretold 55 = .ok (.iconst (-1), 1) := by decide +kernel
theorem zd_X7_foretold_56 : decode cX7_foretold 56 = .ok (.istore 8, 2) := by decide +kernel
theorem zd_X7_foretold_58 : decode cX7_foretold 58 = .ok (.iconst 0, 1) := by decide +kernel
theorem zd_X7_foretold_59 : decode cX7_foretold 59 = .ok (.istore 9, 2) := by decide +kernel
theorem zd_X7_foretold_61 : decode cX7_foretold 61 = .ok (.iload 9, 2) := by decide +kernel
theorem zd_X7_foretold_63 : decode cX7_foretold 63 = .ok (.bipush 36, 2) := by decide +kernel
theorem zd_X7_foretold_65 : decode cX7_foretold 65 = .ok (.if_icmp .ge 55, 3) := by decide +kernel
theorem zd_X7_foretold_68 : decode cX7_foretold 68 = .ok (.aload_n 0, 1) := by decide +kernel
theorem zd_X7_foretold_69 : decode cX7_foretold 69 = .ok (.iconst 0, 1) := by decide +kernel
theorem zd_X7_foretold_70 : decode cX7_foretold 70 = .ok (.iload 9, 2) := by decide +kernel
theorem zd_X7_foretold_72 : decode cX7_foretold 72 = .ok (.iload 4, 2) := by decide +kernel
theorem zd_X7_foretold_74 : decode cX7_foretold 74 = .ok (.invokevirtual 159, 3) := by decide +kernel
theorem zd_X7_foretold_77 : decode cX7_foretold 77 = .ok (.iconst (-1), 1) := by decide +kernel
theorem zd_X7_foretold_78 : decode cX7_foretold 78 = .ok (.if_icmp .ne 36, 3) := by decide +kernel
theorem zd_X7_foretold_81 : decode cX7_foretold 81 = .ok (.aload_n 0, 1) := by decide +kernel
theorem zd_X7_foretold_82 : decode cX7_foretold 82 = .ok (.iload 9, 2) := by decide +kernel
theorem zd_X7_foretold_84 : decode cX7_foretold 84 = .ok (.iload_n 3, 1) := by decide +kernel
theorem zd_X7_foretold_85 : decode cX7_foretold 85 = .ok (.invokevirtual 119, 3) := by decide +kernel
theorem zd_X7_foretold_88 : decode cX7_foretold 88 = .ok (.iload_n 3, 1) := by decide +kernel
theorem zd_X7_foretold_89 : decode cX7_foretold 89 = .ok (.iload 6, 2) := by decide +kernel
theorem zd_X7_foretold_91 : decode cX7_foretold 91 = .ok (.invokevirtual 123, 3) := by decide +kernel
theorem zd_X7_foretold_94 : decode cX7_foretold 94 = .ok (.istore 10, 2) := by decide +kernel
theorem zd_X7_foretold_96 : decode cX7_foretold 96 = .ok (.iload 7, 2) := by decide +kernel
theorem zd_X7_foretold_98 : decode cX7_foretold 98 = .ok (.iload 10, 2) := by decide +kernel
theorem zd_X7_foretold_100 : decode cX7_foretold 100 = .ok (.invokestatic 163, 3) := by decide +kernel
theorem zd_X7_foretold_103 : decode cX7_foretold 103 = .ok (.istore 7, 2) := by decide +kernel
theorem zd_X7_foretold_105 : decode cX7_foretold 105 = .ok (.iload 8, 2) := by decide +kernel
theorem zd_X7_foretold_107 : decode cX7_foretold 107 = .ok (.iload 10, 2) := by decide +kernel
theorem zd_X7_foretold_109 : decode cX7_foretold 109 = .ok (.invokestatic 168, 3) := by decide +kernel
theorem zd_X7_foretold_112 : decode cX7_foretold 112 = .ok (.istore 8, 2) := by decide +kernel
theorem zd_X7_foretold_114 : decode cX7_foretold 114 = .ok (.iinc 9 1, 3) := by decide +kernel
theorem zd_X7_foretold_117 : decode cX7_foretold 117 = .ok (.goto (-56), 3) := by decide +kernel
theorem zd_X7_foretold_120 : decode cX7_foretold 120 = .ok (.iload 8, 2) := by decide +kernel
theorem zd_X7_foretold_122 : decode cX7_foretold 122 = .ok (.ifCond .ge 6, 3) := by decide +kernel
theorem zd_X7_foretold_125 : decode cX7_foretold 125 = .ok (.bipush (-100), 2) := by decide +kernel
theorem zd_X7_foretold_127 : decode cX7_foretold 127 = .ok (.ireturn, 1) := by decide +kernel
theorem zd_X7_foretold_128 : decode cX7_foretold 128 = .ok (.iload 5, 2) := by decide +kernel
theorem zd_X7_foretold_130 : decode cX7_foretold 130 = .ok (.iconst 2, 1) := by decide +kernel
theorem zd_X7_foretold_131 : decode cX7_foretold 131 = .ok (.if_icmp .ne 21, 3) := by decide +kernel
theorem zd_X7_foretold_134 : decode cX7_foretold 134 = .ok (.aload_n 0, 1) := by decide +kernel
theorem zd_X7_foretold_135 : decode cX7_foretold 135 = .ok (.getfield 10, 3) := by decide +kernel
theorem zd_X7_foretold_138 : decode cX7_foretold 138 = .ok (.getfield 171, 3) := by decide +kernel
theorem zd_X7_foretold_141 : decode cX7_foretold 141 = .ok (.iload 6, 2) := by decide +kernel
theorem zd_X7_foretold_143 : decode cX7_foretold 143 = .ok (.iaload, 1) := by decide +kernel
theorem zd_X7_foretold_144 : decode cX7_foretold 144 = .ok (.iload 7, 2) := by decide +kernel
theorem zd_X7_foretold_146 : decode cX7_foretold 146 = .ok (.iload 8, 2) := by decide +kernel
theorem zd_X7_foretold_148 : decode cX7_foretold 148 = .ok (.invokestatic 174, 3) := by decide +kernel
theorem zd_X7_foretold_151 : decode cX7_foretold 151 = .ok (.ireturn, 1) := by decide +kernel
theorem zd_X7_foretold_152 : decode cX7_foretold 152 = .ok (.iload 5, 2) := by decide +kernel
theorem zd_X7_foretold_154 : decode cX7_foretold 154 = .ok (.ifCond .ne 8, 3) := by decide +kernel
theorem zd_X7_foretold_157 : decode cX7_foretold 157 = .ok (.iload 7, 2) := by decide +kernel
theorem zd_X7_foretold_159 : decode cX7_foretold 159 = .ok (.goto 5, 3) := by decide +kernel
theorem zd_X7_foretold_162 : decode cX7_foretold 162 = .ok (.iload 8, 2) := by decide +kernel
theorem zd_X7_foretold_164 : decode cX7_foretold 164 = .ok (.ireturn, 1) := by decide +kernel
def zb_X7_foretold_40 (K : zKt) (J : Nat → zPP) (lc lz : Nat) : zPP := zT_push (.int (-100)) (zT_iret K)
theorem zbs_X7_foretold_40 {X : zCt} (hR : zRX X = { frames := 6, cells := 80, slots := 20000, locals := 144 }) (J : Nat → zPP) (hJ : ∀ h ∈ ([61] : List Nat), zSd X RX7 "foretold" cX7_foretold 11 (some .int) h (J h)) : zSd X RX7 "foretold" cX7_foretold 11 (some .int) 40 (zb_X7_foretold_40 (zKX X) J (zlc X) (zls X)) := zs_bipush zd_X7_foretold_40 (by decide) (zs_iret rfl zd_X7_foretold_42)
def zb_X7_foretold_0 (K : zKt) (J : Nat → zPP) (lc lz : Nat) : zPP := zT_ald 0 (zT_getR 7 0 9 (zT_ild 1 (zT_ild 2 (zT_V2 zok 1 6 zc_X1_has (zT_if1 (fun x => x = 0) (zb_X7_foretold_40 K J lc lz) (zT_ild 3 (zT_push (.int 0) (zT_push (.int 30) (zT_S3 zok zc_X7_within (zT_if1 (fun x => x = 0) (zb_X7_foretold_40 K J lc lz) (zT_ild 4 (zT_S1 zok zc_X7_isDay (zT_if1 (fun x => x = 0) (zb_X7_foretold_40 K J lc lz) (zT_ild 5 (zT_push (.int 0) (zT_push (.int 2) (zT_S3 zok zc_X7_within (zT_if1 (fun x => x = 0) (zb_X7_foretold_40 K J lc lz) (zT_ild 1 (zT_ild 2 (zT_S2 zok zc_X7_cellAt (zT_ist 6 (zT_push (.int 201) (zT_ist 7 (zT_push (.int (-1)) (zT_ist 8 (zT_push (.int 0) (zT_ist 9 (J 61)))))))))))))))))))))))))))))
theorem zbs_X7_foretold_0 {X : zCt} (hR : zRX X = { frames := 6, cells := 80, slots := 20000, locals := 144 }) (J : Nat → zPP) (hJ : ∀ h ∈ ([61] : List Nat), zSd X RX7 "foretold" cX7_foretold 11 (some .int) h (J h)) : zSd X RX7 "foretold" cX7_foretold 11 (some .int) 0 (zb_X7_foretold_0 (zKX X) J (zlc X) (zls X)) := zs_aload_n zd_X7_foretold_0 rfl (zs_getR (ci := 7) (j := 0) (T := TX7) rfl inX7 (by decide) gw_1_185 rfl zd_X7_foretold_1 (zs_iload_n zd_X7_foretold_4 rfl (zs_iload_n zd_X7_foretold_5 rfl (zs_V (ci := 1) rfl rfl (zm_X1_has _ _ _) gw_2_0 gw_1_237 gw_1_238 gw_1_239 gw_1_2 zdn_X1_has (zrm hR (by decide) (by decide)) zd_X7_foretold_6 (zCl_V2 zok_l) (zs_if_eq (tgt := 40) zd_X7_foretold_9 (by decide) (zbs_X7_foretold_40 hR J hJ) (zs_iload_n zd_X7_foretold_12 rfl (zs_iconst zd_X7_foretold_13 (by decide) (zs_bipush zd_X7_foretold_14 (by decide) (zs_S (zm_X7_within _ _ _) gw_1_219 gw_1_217 gw_1_218 gw_1_1 zdn_X7_within (zrm hR (by decide) (by decide)) zd_X7_foretold_16 (zCl_S3 zok_l) (zs_if_eq (tgt := 40) zd_X7_foretold_19 (by decide) (zbs_X7_foretold_40 hR J hJ) (zs_iload zd_X7_foretold_22 (zs_S (zm_X7_isDay _ _ _) gw_3_41 gw_3_39 gw_3_40 gw_1_1 zdn_X7_isDay (zrm hR (by decide) (by decide)) zd_X7_foretold_24 (zCl_S1 zok_l) (zs_if_eq (tgt := 40) zd_X7_foretold_27 (by decide) (zbs_X7_foretold_40 hR J hJ) (zs_iload zd_X7_foretold_30 (zs_iconst zd_X7_foretold_32 (by decide) (zs_iconst zd_X7_foretold_33 (by decide) (zs_S (zm_X7_within _ _ _) gw_1_219 gw_1_217 gw_1_218 gw_1_1 zdn_X7_within (zrm hR (by decide) (by decide)) zd_X7_foretold_34 (zCl_S3 zok_l) (zs_if_ne (tgt := 43) zd_X7_foretold_37 (by decide) (zs_iload_n zd_X7_foretold_43 rfl (zs_iload_n zd_X7_foretold_44 rfl (zs_S (zm_X7_cellAt _ _ _) gw_2_7 gw_2_16 gw_2_6 gw_1_1 zdn_X7_cellAt (zrm hR (by decide) (by decide)) zd_X7_foretold_45 (zCl_S2 zok_l) (zs_istore zd_X7_foretold_48 (by decide) (zs_sipush zd_X7_foretold_50 (by decide) (zs_istore zd_X7_foretold_53 (by decide) (zs_iconst zd_X7_foretold_55 (by decide) (zs_istore zd_X7_foretold_56 (by decide) (zs_iconst zd_X7_foretold_58 (by decide) (zs_istore zd_X7_foretold_59 (by decide) (hJ 61 (by decide)))))))))))) (zbs_X7_foretold_40 hR J hJ)))))))))))))))))))
def zb_X7_foretold_114 (K : zKt) (J : Nat → zPP) (lc lz : Nat) : zPP := zT_iinc 9 1 (J 61)
theorem zbs_X7_foretold_114 {X : zCt} (hR : zRX X = { frames := 6, cells := 80, slots := 20000, locals := 144 }) (J : Nat → zPP) (hJ : ∀ h ∈ ([61] : List Nat), zSd X RX7 "foretold" cX7_foretold 11 (some .int) h (J h)) : zSd X RX7 "foretold" cX7_foretold 11 (some .int) 114 (zb_X7_foretold_114 (zKX X) J (zlc X) (zls X)) := zs_iinc zd_X7_foretold_114 (by decide) (by decide) (zs_goto (tgt := 61) zd_X7_foretold_117 (by decide) (hJ 61 (by decide)))
def zb_X7_foretold_164 (K : zKt) (J : Nat → zPP) (lc lz : Nat) : zPP := zT_iret K
theorem zbs_X7_foretold_164 {X : zCt} (hR : zRX X = { frames := 6, cells := 80, slots := 20000, locals := 144 }) (J : Nat → zPP) (hJ : ∀ h ∈ ([61] : List Nat), zSd X RX7 "foretold" cX7_foretold 11 (some .int) h (J h)) : zSd X RX7 "foretold" cX7_foretold 11 (some .int) 164 (zb_X7_foretold_164 (zKX X) J (zlc X) (zls X)) := zs_iret rfl zd_X7_foretold_164
def zb_X7_foretold_61 (K : zKt) (J : Nat → zPP) (lc lz : Nat) : zPP := zT_ild 9 (zT_push (.int 36) (zT_if2 (fun x y => y ≤ x) (zT_ild 8 (zT_if1 (fun x => 0 ≤ x) (zT_ild 5 (zT_push (.int 2) (zT_if2 (fun x y => x = y) (zT_ald 0 (zT_getR 7 0 9 (zT_getR 1 0 6 (zT_ild 6 (zT_ald0 0 (zT_ild 7 (zT_ild 8 (zT_S3 zok zc_X7_trend (zT_iret K))))))))) (zT_ild 5 (zT_if1 (fun x => x = 0) (zT_ild 7 (zb_X7_foretold_164 K J lc lz)) (zT_ild 8 (zb_X7_foretold_164 K J lc lz))))))) (zT_push (.int (-100)) (zT_iret K)))) (zT_ald 0 (zT_push (.int 0) (zT_ild 9 (zT_ild 4 (zT_V3 (zlm 4 934 lc lz) 7 9 zc_X7_againstFrom (zT_push (.int (-1)) (zT_if2 (fun x y => x = y) (zT_ald 0 (zT_ild 9 (zT_ild 3 (zT_V2 (zlm 2 467 lc lz) 7 9 zc_X7_runTo (zT_ild 3 (zT_ild 6 (zT_V2 zok 6 2 zc_X6_heightOf (zT_ist 10 (zT_ild 7 (zT_ild 10 (zT_mm (fun x y => if y < x then y else x) (zT_ist 7 (zT_ild 8 (zT_ild 10 (zT_mm (fun x y => if x < y then y else x) (zT_ist 8 (zb_X7_foretold_114 K J lc lz))))))))))))))))) (zb_X7_foretold_114 K J lc lz))))))))))
theorem zbs_X7_foretold_61 {X : zCt} (hR : zRX X = { frames := 6, cells := 80, slots := 20000, locals := 144 }) (J : Nat → zPP) (hJ : ∀ h ∈ ([61] : List Nat), zSd X RX7 "foretold" cX7_foretold 11 (some .int) h (J h)) : zSd X RX7 "foretold" cX7_foretold 11 (some .int) 61 (zb_X7_foretold_61 (zKX X) J (zlc X) (zls X)) := zs_iload zd_X7_foretold_61 (zs_bipush zd_X7_foretold_63 (by decide) (zs_icmp_ge (tgt := 120) zd_X7_foretold_65 (by decide) (zs_iload zd_X7_foretold_120 (zs_if_ge (tgt := 128) zd_X7_foretold_122 (by decide) (zs_iload zd_X7_foretold_128 (zs_iconst zd_X7_foretold_130 (by decide) (zs_icmp_ne (tgt := 152) zd_X7_foretold_131 (by decide) (zs_iload zd_X7_foretold_152 (zs_if_ne (tgt := 162) zd_X7_foretold_154 (by decide) (zs_iload zd_X7_foretold_162 (zbs_X7_foretold_164 hR J hJ)) (zs_iload zd_X7_foretold_157 (zs_goto (tgt := 164) zd_X7_foretold_159 (by decide) (zbs_X7_foretold_164 hR J hJ))))) (zs_aload_n zd_X7_foretold_134 rfl (zs_getR (ci := 7) (j := 0) (T := TX7) rfl inX7 (by decide) gw_1_185 rfl zd_X7_foretold_135 (zs_getR (ci := 1) (j := 0) (T := TX1) rfl inX1 (by decide) gw_1_34 rfl zd_X7_foretold_138 (zs_iload zd_X7_foretold_141 (zs_iald zd_X7_foretold_143 (zs_iload zd_X7_foretold_144 (zs_iload zd_X7_foretold_146 (zs_S (zm_X7_trend _ _ _) gw_3_62 gw_3_60 gw_3_61 gw_1_1 zdn_X7_trend (zrm hR (by decide) (by decide)) zd_X7_foretold_148 (zCl_S3 zok_l) (zs_iret rfl zd_X7_foretold_151)))))))))))) (zs_bipush zd_X7_foretold_125 (by decide) (zs_iret rfl zd_X7_foretold_127)))) (zs_aload_n zd_X7_foretold_68 rfl (zs_iconst zd_X7_foretold_69 (by decide) (zs_iload zd_X7_foretold_70 (zs_iload zd_X7_foretold_72 (zs_V (ci := 7) rfl rfl (zm_X7_againstFrom _ _ _) gw_3_53 gw_3_50 gw_3_52 gw_0_21 gw_1_1 zdn_X7_againstFrom (zrm hR (by decide) (by decide)) zd_X7_foretold_74 (zCl_V3 zlm_l) (zs_iconst zd_X7_foretold_77 (by decide) (zs_icmp_ne (tgt := 114) zd_X7_foretold_78 (by decide) (zbs_X7_foretold_114 hR J hJ) (zs_aload_n zd_X7_foretold_81 rfl (zs_iload zd_X7_foretold_82 (zs_iload_n zd_X7_foretold_84 rfl (zs_V (ci := 7) rfl rfl (zm_X7_runTo _ _ _) gw_2_160 gw_2_157 gw_2_159 gw_0_9 gw_1_1 zdn_X7_runTo (zrm hR (by decide) (by decide)) zd_X7_foretold_85 (zCl_V2 zlm_l) (zs_iload_n zd_X7_foretold_88 rfl (zs_iload zd_X7_foretold_89 (zs_V (ci := 6) rfl rfl (zm_X6_heightOf _ _ _) gw_2_190 gw_2_187 gw_2_188 gw_2_189 gw_1_14 zdn_X6_heightOf (zrm hR (by decide) (by decide)) zd_X7_foretold_91 (zCl_V2 zok_l) (zs_istore zd_X7_foretold_94 (by decide) (zs_iload zd_X7_foretold_96 (zs_iload zd_X7_foretold_98 (zs_min gw_3_58 gw_2_135 gw_1_13 gw_2_136 (zrm1 hR (by decide) (by decide)) zd_X7_foretold_100 (zs_istore zd_X7_foretold_103 (by decide) (zs_iload zd_X7_foretold_105 (zs_iload zd_X7_foretold_107 (zs_max gw_3_59 gw_2_203 gw_1_13 gw_2_204 (zrm1 hR (by decide) (by decide)) zd_X7_foretold_109 (zs_istore zd_X7_foretold_112 (by decide) (zbs_X7_foretold_114 hR J hJ))))))))))))))))))))))))))
def zB_X7_foretold (K : zKt) (lc lz : Nat) (J : Nat → zPP) (h : Nat) : zPP := if h = 61 then zb_X7_foretold_61 K J lc lz else (fun _ _ _ => False)
theorem zBs_X7_foretold {X : zCt} (hR : zRX X = { frames := 6, cells := 80, slots := 20000, locals := 144 }) : ∀ J : Nat → zPP, (∀ h ∈ ([61] : List Nat), zSd X RX7 "foretold" cX7_foretold 11 (some .int) h (J h)) → ∀ h ∈ ([61] : List Nat), zSd X RX7 "foretold" cX7_foretold 11 (some .int) h (zB_X7_foretold (zKX X) (zlc X) (zls X) J h) := by
  intro J hJ h hh
  unfold zB_X7_foretold
  simp only [List.mem_cons, List.not_mem_nil, or_false] at hh
  subst hh
  exact zbs_X7_foretold_61 hR J hJ
theorem zdn_X7_foretold : yX7_foretold.cls ≠ "java/lang/invoke/MethodHandle" ∧ yX7_foretold.cls ≠ "java/lang/invoke/VarHandle" ∧ (parseMethodDescriptor yX7_foretold.desc).map (fun d => d.parameters.length) = some 5 := by decide +kernel
/-! DeltaRuns wasted -/
theorem zd_X7_wasted_0 : decode cX7_wasted 0 = .ok (.iload_n 1, 1) := by decide +kernel
theorem zd_X7_wasted_1 : decode cX7_wasted 1 = .ok (.invokestatic 151, 3) := by decide +kernel
theorem zd_X7_wasted_4 : decode cX7_wasted 4 = .ok (.ifCond .ne 5, 3) := by decide +kernel
theorem zd_X7_wasted_7 : decode cX7_wasted 7 = .ok (.iconst (-1), 1) := by decide +kernel
theorem zd_X7_wasted_8 : decode cX7_wasted 8 = .ok (.ireturn, 1) := by decide +kernel
theorem zd_X7_wasted_9 : decode cX7_wasted 9 = .ok (.iconst (-1), 1) := by decide +kernel
theorem zd_X7_wasted_10 : decode cX7_wasted 10 = .ok (.istore_n 2, 1) := by decide +kernel
theorem zd_X7_wasted_11 : decode cX7_wasted 11 = .ok (.iconst 0, 1) := by decide +kernel
theorem zd_X7_wasted_12 : decode cX7_wasted 12 = .ok (.istore_n 3, 1) := by decide +kernel
theorem zd_X7_wasted_13 : decode cX7_wasted 13 = .ok (.iload_n 3, 1) := by decide +kernel
theorem zd_X7_wasted_14 : decode cX7_wasted 14 = .ok (.bipush 36, 2) := by decide +kernel
theorem zd_X7_wasted_16 : decode cX7_wasted 16 = .ok (.if_icmp .ge 66, 3) := by decide +kernel
theorem zd_X7_wasted_19 : decode cX7_wasted 19 = .ok (.aload_n 0, 1) := by decide +kernel
theorem zd_X7_wasted_20 : decode cX7_wasted 20 = .ok (.iconst 0, 1) := by decide +kernel
theorem zd_X7_wasted_21 : decode cX7_wasted 21 = .ok (.iload_n 3, 1) := by decide +kernel
theorem zd_X7_wasted_22 : decode cX7_wasted 22 = .ok (.iload_n 1, 1) := by decide +kernel
theorem zd_X7_wasted_23 : decode cX7_wasted 23 = .ok (.invokevirtual 159, 3) := by decide +kernel
theorem zd_X7_wasted_26 : decode cX7_wasted 26 = .ok (.istore 4, 2) := by decide +kernel
theorem zd_X7_wasted_28 : decode cX7_wasted 28 = .ok (.iload 4, 2) := by decide +kernel
theorem zd_X7_wasted_30 : decode cX7_wasted 30 = .ok (.iconst (-1), 1) := by decide +kernel
theorem zd_X7_wasted_31 : decode cX7_wasted 31 = .ok (.if_icmp .ne 5, 3) := by decide +kernel
theorem zd_X7_wasted_34 : decode cX7_wasted 34 = .ok (.iconst (-1), 1) := by decide +kernel
theorem zd_X7_wasted_35 : decode cX7_wasted 35 = .ok (.ireturn, 1) := by decide +kernel
theorem zd_X7_wasted_36 : decode cX7_wasted 36 = .ok (.aload_n 0, 1) := by decide +kernel
theorem zd_X7_wasted_37 : decode cX7_wasted 37 = .ok (.iload 4, 2) := by decide +kernel
theorem zd_X7_wasted_39 : decode cX7_wasted 39 = .ok (.iconst 1, 1) := by decide +kernel
theorem zd_X7_wasted_40 : decode cX7_wasted 40 = .ok (.iadd, 1) := by decide +kernel
theorem zd_X7_wasted_41 : decode cX7_wasted 41 = .ok (.iload_n 3, 1) := by decide +kernel
theorem zd_X7_wasted_42 : decode cX7_wasted 42 = .ok (.iload_n 1, 1) := by decide +kernel
theorem zd_X7_wasted_43 : decode cX7_wasted 43 = .ok (.invokevirtual 159, 3) := by decide +kernel
theorem zd_X7_wasted_46 : decode cX7_wasted 46 = .ok (.iconst (-1), 1) := by decide +kernel
theorem zd_X7_wasted_47 : decode cX7_wasted 47 = .ok (.if_icmp .ne 7, 3) := by decide +kernel
theorem zd_X7_wasted_50 : decode cX7_wasted 50 = .ok (.iconst 1, 1) := by decide +kernel
theorem zd_X7_wasted_51 : decode cX7_wasted 51 = .ok (.goto 4, 3) := by decide +kernel
theorem zd_X7_wasted_54 : decode cX7_wasted 54 = .ok (.iconst 0, 1) := by decide +kernel
theorem zd_X7_wasted_55 : decode cX7_wasted 55 = .ok (.istore 5, 2) := by decide +kernel
theorem zd_X7_wasted_57 : decode cX7_wasted 57 = .ok (.iload 5, 2) := by decide +kernel
theorem zd_X7_wasted_59 : decode cX7_wasted 59 = .ok (.ifCond .eq 17, 3) := by decide +kernel
theorem zd_X7_wasted_62 : decode cX7_wasted 62 = .ok (.iload_n 2, 1) := by decide +kernel
theorem zd_X7_wasted_63 : decode cX7_wasted 63 = .ok (.iconst (-1), 1) := by decide +kernel
theorem zd_X7_wasted_64 : decode cX7_wasted 64 = .ok (.if_icmp .eq 9, 3) := by decide +kernel
theorem zd_X7_wasted_67 : decode cX7_wasted 67 = .ok (.iload 4, 2) := by decide +kernel
theorem zd_X7_wasted_69 : decode cX7_wasted 69 = .ok (.iload_n 2, 1) := by decide +kernel
theorem zd_X7_wasted_70 : decode cX7_wasted 70 = .ok (.if_icmp .ge 6, 3) := by decide +kernel
theorem zd_X7_wasted_73 : decode cX7_wasted 73 = .ok (.iload 4, 2) := by decide +kernel
theorem zd_X7_wasted_75 : decode cX7_wasted 75 = .ok (.istore_n 2, 1) := by decide +kernel
theorem zd_X7_wasted_76 : decode cX7_wasted 76 = .ok (.iinc 3 1, 3) := by decide +kernel
theorem zd_X7_wasted_79 : decode cX7_wasted 79 = .ok (.goto (-66), 3) := by decide +kernel
theorem zd_X7_wasted_82 : decode cX7_wasted 82 = .ok (.iload_n 2, 1) := by decide +kernel
theorem zd_X7_wasted_83 : decode cX7_wasted 83 = .ok (.ireturn, 1) := by decide +kernel
def zb_X7_wasted_0 (K : zKt) (J : Nat → zPP) (lc lz : Nat) : zPP := zT_ild 1 (zT_S1 zok zc_X7_isDay (zT_if1 (fun x => x = 0) (zT_push (.int (-1)) (zT_iret K)) (zT_push (.int (-1)) (zT_ist 2 (zT_push (.int 0) (zT_ist 3 (J 13)))))))
theorem zbs_X7_wasted_0 {X : zCt} (hR : zRX X = { frames := 6, cells := 80, slots := 20000, locals := 144 }) (J : Nat → zPP) (hJ : ∀ h ∈ ([13] : List Nat), zSd X RX7 "wasted" cX7_wasted 6 (some .int) h (J h)) : zSd X RX7 "wasted" cX7_wasted 6 (some .int) 0 (zb_X7_wasted_0 (zKX X) J (zlc X) (zls X)) := zs_iload_n zd_X7_wasted_0 rfl (zs_S (zm_X7_isDay _ _ _) gw_3_41 gw_3_39 gw_3_40 gw_1_1 zdn_X7_isDay (zrm hR (by decide) (by decide)) zd_X7_wasted_1 (zCl_S1 zok_l) (zs_if_ne (tgt := 9) zd_X7_wasted_4 (by decide) (zs_iconst zd_X7_wasted_9 (by decide) (zs_istore_n zd_X7_wasted_10 rfl (by decide) (zs_iconst zd_X7_wasted_11 (by decide) (zs_istore_n zd_X7_wasted_12 rfl (by decide) (hJ 13 (by decide)))))) (zs_iconst zd_X7_wasted_7 (by decide) (zs_iret rfl zd_X7_wasted_8))))
def zb_X7_wasted_76 (K : zKt) (J : Nat → zPP) (lc lz : Nat) : zPP := zT_iinc 3 1 (J 13)
theorem zbs_X7_wasted_76 {X : zCt} (hR : zRX X = { frames := 6, cells := 80, slots := 20000, locals := 144 }) (J : Nat → zPP) (hJ : ∀ h ∈ ([13] : List Nat), zSd X RX7 "wasted" cX7_wasted 6 (some .int) h (J h)) : zSd X RX7 "wasted" cX7_wasted 6 (some .int) 76 (zb_X7_wasted_76 (zKX X) J (zlc X) (zls X)) := zs_iinc zd_X7_wasted_76 (by decide) (by decide) (zs_goto (tgt := 13) zd_X7_wasted_79 (by decide) (hJ 13 (by decide)))
def zb_X7_wasted_73 (K : zKt) (J : Nat → zPP) (lc lz : Nat) : zPP := zT_ild 4 (zT_ist 2 (zb_X7_wasted_76 K J lc lz))
theorem zbs_X7_wasted_73 {X : zCt} (hR : zRX X = { frames := 6, cells := 80, slots := 20000, locals := 144 }) (J : Nat → zPP) (hJ : ∀ h ∈ ([13] : List Nat), zSd X RX7 "wasted" cX7_wasted 6 (some .int) h (J h)) : zSd X RX7 "wasted" cX7_wasted 6 (some .int) 73 (zb_X7_wasted_73 (zKX X) J (zlc X) (zls X)) := zs_iload zd_X7_wasted_73 (zs_istore_n zd_X7_wasted_75 rfl (by decide) (zbs_X7_wasted_76 hR J hJ))
def zb_X7_wasted_55 (K : zKt) (J : Nat → zPP) (lc lz : Nat) : zPP := zT_ist 5 (zT_ild 5 (zT_if1 (fun x => x = 0) (zb_X7_wasted_76 K J lc lz) (zT_ild 2 (zT_push (.int (-1)) (zT_if2 (fun x y => x = y) (zb_X7_wasted_73 K J lc lz) (zT_ild 4 (zT_ild 2 (zT_if2 (fun x y => y ≤ x) (zb_X7_wasted_76 K J lc lz) (zb_X7_wasted_73 K J lc lz)))))))))
theorem zbs_X7_wasted_55 {X : zCt} (hR : zRX X = { frames := 6, cells := 80, slots := 20000, locals := 144 }) (J : Nat → zPP) (hJ : ∀ h ∈ ([13] : List Nat), zSd X RX7 "wasted" cX7_wasted 6 (some .int) h (J h)) : zSd X RX7 "wasted" cX7_wasted 6 (some .int) 55 (zb_X7_wasted_55 (zKX X) J (zlc X) (zls X)) := zs_istore zd_X7_wasted_55 (by decide) (zs_iload zd_X7_wasted_57 (zs_if_eq (tgt := 76) zd_X7_wasted_59 (by decide) (zbs_X7_wasted_76 hR J hJ) (zs_iload_n zd_X7_wasted_62 rfl (zs_iconst zd_X7_wasted_63 (by decide) (zs_icmp_eq (tgt := 73) zd_X7_wasted_64 (by decide) (zbs_X7_wasted_73 hR J hJ) (zs_iload zd_X7_wasted_67 (zs_iload_n zd_X7_wasted_69 rfl (zs_icmp_ge (tgt := 76) zd_X7_wasted_70 (by decide) (zbs_X7_wasted_76 hR J hJ) (zbs_X7_wasted_73 hR J hJ)))))))))
def zb_X7_wasted_13 (K : zKt) (J : Nat → zPP) (lc lz : Nat) : zPP := zT_ild 3 (zT_push (.int 36) (zT_if2 (fun x y => y ≤ x) (zT_ild 2 (zT_iret K)) (zT_ald 0 (zT_push (.int 0) (zT_ild 3 (zT_ild 1 (zT_V3 (zlm 4 934 lc lz) 7 9 zc_X7_againstFrom (zT_ist 4 (zT_ild 4 (zT_push (.int (-1)) (zT_if2 (fun x y => x = y) (zT_push (.int (-1)) (zT_iret K)) (zT_ald 0 (zT_ild 4 (zT_push (.int 1) (zT_bin (fun x y => x + y) (zT_ild 3 (zT_ild 1 (zT_V3 (zlm 4 934 lc lz) 7 9 zc_X7_againstFrom (zT_push (.int (-1)) (zT_if2 (fun x y => x = y) (zT_push (.int 1) (zb_X7_wasted_55 K J lc lz)) (zT_push (.int 0) (zb_X7_wasted_55 K J lc lz))))))))))))))))))))))
theorem zbs_X7_wasted_13 {X : zCt} (hR : zRX X = { frames := 6, cells := 80, slots := 20000, locals := 144 }) (J : Nat → zPP) (hJ : ∀ h ∈ ([13] : List Nat), zSd X RX7 "wasted" cX7_wasted 6 (some .int) h (J h)) : zSd X RX7 "wasted" cX7_wasted 6 (some .int) 13 (zb_X7_wasted_13 (zKX X) J (zlc X) (zls X)) := zs_iload_n zd_X7_wasted_13 rfl (zs_bipush zd_X7_wasted_14 (by decide) (zs_icmp_ge (tgt := 82) zd_X7_wasted_16 (by decide) (zs_iload_n zd_X7_wasted_82 rfl (zs_iret rfl zd_X7_wasted_83)) (zs_aload_n zd_X7_wasted_19 rfl (zs_iconst zd_X7_wasted_20 (by decide) (zs_iload_n zd_X7_wasted_21 rfl (zs_iload_n zd_X7_wasted_22 rfl (zs_V (ci := 7) rfl rfl (zm_X7_againstFrom _ _ _) gw_3_53 gw_3_50 gw_3_52 gw_0_21 gw_1_1 zdn_X7_againstFrom (zrm hR (by decide) (by decide)) zd_X7_wasted_23 (zCl_V3 zlm_l) (zs_istore zd_X7_wasted_26 (by decide) (zs_iload zd_X7_wasted_28 (zs_iconst zd_X7_wasted_30 (by decide) (zs_icmp_ne (tgt := 36) zd_X7_wasted_31 (by decide) (zs_aload_n zd_X7_wasted_36 rfl (zs_iload zd_X7_wasted_37 (zs_iconst zd_X7_wasted_39 (by decide) (zs_iadd zd_X7_wasted_40 (zs_iload_n zd_X7_wasted_41 rfl (zs_iload_n zd_X7_wasted_42 rfl (zs_V (ci := 7) rfl rfl (zm_X7_againstFrom _ _ _) gw_3_53 gw_3_50 gw_3_52 gw_0_21 gw_1_1 zdn_X7_againstFrom (zrm hR (by decide) (by decide)) zd_X7_wasted_43 (zCl_V3 zlm_l) (zs_iconst zd_X7_wasted_46 (by decide) (zs_icmp_ne (tgt := 54) zd_X7_wasted_47 (by decide) (zs_iconst zd_X7_wasted_54 (by decide) (zbs_X7_wasted_55 hR J hJ)) (zs_iconst zd_X7_wasted_50 (by decide) (zs_goto (tgt := 55) zd_X7_wasted_51 (by decide) (zbs_X7_wasted_55 hR J hJ)))))))))))) (zs_iconst zd_X7_wasted_34 (by decide) (zs_iret rfl zd_X7_wasted_35)))))))))))))
def zB_X7_wasted (K : zKt) (lc lz : Nat) (J : Nat → zPP) (h : Nat) : zPP := if h = 13 then zb_X7_wasted_13 K J lc lz else (fun _ _ _ => False)
theorem zBs_X7_wasted {X : zCt} (hR : zRX X = { frames := 6, cells := 80, slots := 20000, locals := 144 }) : ∀ J : Nat → zPP, (∀ h ∈ ([13] : List Nat), zSd X RX7 "wasted" cX7_wasted 6 (some .int) h (J h)) → ∀ h ∈ ([13] : List Nat), zSd X RX7 "wasted" cX7_wasted 6 (some .int) h (zB_X7_wasted (zKX X) (zlc X) (zls X) J h) := by
  intro J hJ h hh
  unfold zB_X7_wasted
  simp only [List.mem_cons, List.not_mem_nil, or_false] at hh
  subst hh
  exact zbs_X7_wasted_13 hR J hJ
theorem zdn_X7_wasted : yX7_wasted.cls ≠ "java/lang/invoke/MethodHandle" ∧ yX7_wasted.cls ≠ "java/lang/invoke/VarHandle" ∧ (parseMethodDescriptor yX7_wasted.desc).map (fun d => d.parameters.length) = some 1 := by decide +kernel
/-! lake -/
def wlk (σ : wSP) (H : Nat → Nat) (e : Nat) : Bool := decide (e % 12 < sW σ ∧ e / 12 < sH σ ∧ H e < sL σ)

theorem wct_skip {p : Nat → Bool} {a : Nat} : ∀ n, (∀ i, a ≤ i → i < a + n → p i = false) → wct p (a + n) = wct p a
  | 0, _ => rfl
  | n + 1, h => by
    have h1 := wct_skip n (fun i a b => h i a (by omega))
    show wct p (a + n) + (if p (a + n) = true then 1 else 0) = _
    rw [h1, h (a + n) (by omega) (by omega)]
    rfl
def pLake (r yr : Int32) (F : wFS) : Int32 × wFS :=
  if (0 ≤ r ∧ r ≤ 35) ∧ 0 ≤ yr ∧ yr ≤ 30 then (nI (wct (wlk F.1 (wHT F.1 (tn r) (tn yr))) 120), F) else (-1, F)
def zc_X7_lake (a : List Value) (M : zMm) (K : zKt) : Prop := match a with
  | [.ref k, .int r, .int yr] => k = 0 ∧ ∃ F pk dk p, zXF M F pk dk p ∧ ∀ M', zXF M' (pLake r yr F).2 pk dk p → K (some (.int (pLake r yr F).1)) M'
  | _ => False
set_option maxHeartbeats 2000000 in
theorem zm_X7_lake (l : Launch) (D : va_G) (Y : Nat → ClassId) : zMt l D Y yX7_lake cX7_lake 7 (some .int) 5 119 2 467 zc_X7_lake := by
  refine zwhile (heads := [35, 50]) (by decide) (fun K J lc lz => zb_X7_lake_0 K J lc lz) (fun K lc lz J h => zB_X7_lake K lc lz J h) (fun X hR J hJ => zbs_X7_lake_0 hR J hJ) (fun X hR => zBs_X7_lake hR) (fun avs M K h => ?_)
  unfold zc_X7_lake at h
  split at h
  · next k r yr =>
    obtain ⟨rfl, F, pk, dk, p, hF, h⟩ := h
    obtain ⟨-, ok, -⟩ := id hF.1
    obtain ⟨k1, k2, k3, k4, k5, -⟩ := id ok
    have hc120 : ∀ n, wct (wlk F.1 (wHT F.1 (tn r) (tn yr))) n ≤ n := wct_le _
    refine ⟨by simp [zent], fun q h' M' ls st => (0 ≤ r ∧ r ≤ 35 ∧ 0 ≤ yr ∧ yr ≤ 30 ∧ zXF M' F pk dk p ∧ M'.2.2.2 (zyi (tn r)) 0 = some (zyi (tn r) + 1) ∧ ∃ m, tn yr ≤ m ∧ m ≤ 30 ∧ zys M' (zyi (tn r)) m (fun n => (wHD F.1 (tn r) n).1)) ∧
      ((h' = 35 ∧ ∃ b o, q = 1000 - 20 * b ∧ b ≤ sH F.1 ∧ ls = [some (.ref 0), some (.int r), some (.int yr), some (.ref (zyi (tn r))), some (.int (nI (wct (wlk F.1 (wHT F.1 (tn r) (tn yr))) (12 * b)))), some (.int (nI b)), o] ∧ st = []) ∨
      (h' = 50 ∧ ∃ b a, q = 1000 - 20 * b - 1 - a ∧ b < sH F.1 ∧ a ≤ sW F.1 ∧ ls = [some (.ref 0), some (.int r), some (.int yr), some (.ref (zyi (tn r))), some (.int (nI (wct (wlk F.1 (wHT F.1 (tn r) (tn yr))) (12 * b + a)))), some (.int (nI b)), some (.int (nI a))] ∧ st = [])), ?_, ?_⟩
    · rintro q J hJ h' - M' ls st ⟨⟨c1, c2, c3, c4, hF2, q2, m, hm1, hm2, hzy⟩, ⟨rfl, b, o, rfl, hb, rfl, rfl⟩ | ⟨rfl, b, a, rfl, hb, ha, rfl, rfl⟩⟩
      · obtain ⟨hxr, -, w1, w2, -⟩ := id hF2.1
        obtain ⟨a0, -⟩ := id hxr
        simp only [zB_X7_lake, zb_X7_lake_35, ↓reduceIte, zsh_0, zsh_1, a0, w2, zT_push, zT_bin, zT_div, zT_bil, zT_shl, zT_un, zT_i2l, zT_l2i, zT_lcmp, zT_ild, zT_lld, zT_ald, zT_ist, zT_lst, zT_ast, zT_iinc, zT_dup, zT_dup2, zT_pop, zT_if1, zT_if2, zT_ifn, zT_getI, zT_getJ, zT_getR, zT_putI, zT_putZ, zT_putJ, zT_putR, zT_ald0, zT_lald, zT_aald, zT_iast, zT_zast, zT_bast, zT_last, zT_aast, zT_iret, zT_nret, zT_aret, zT_vret, zT_oi, zT_mm, zT_ialX, zT_S1, zT_S2, zT_S3, zT_V0, zT_V1, zT_V2, zT_V3, zT_V4, zT_V5, zT_V6, zT_I0, zT_I1, zT_I2, zlg, zlset, zlpr, zent, zok, va_rf, List.length_cons, List.length_nil, List.replicate, List.cons_append, List.nil_append, List.append_nil, Option.toList_some, Option.toList_none, Option.toList, Nat.reduceAdd, Nat.reduceSub, Nat.reduceLeDiff, Nat.zero_add, Nat.zero_le, true_and, and_true, Nat.le_refl, ge_iff_le, Nat.reduceEqDiff]
        refine ⟨fun h1 => ?_, fun h1 => ?_⟩
        · have := zn_ge' h1 (by omega) (by omega)
          have e : b = sH F.1 := by omega
          subst e
          have h4 := h M'
          unfold pLake at h4
          rw [if_pos ⟨⟨c1, c2⟩, c3, c4⟩] at h4
          have e2 : wct (wlk F.1 (wHT F.1 (tn r) (tn yr))) 120 = wct (wlk F.1 (wHT F.1 (tn r) (tn yr))) (12 * sH F.1) := by
            rw [show 120 = 12 * sH F.1 + (120 - 12 * sH F.1) from by omega]
            refine wct_skip _ (fun i h1 h2 => ?_)
            unfold wlk
            simp only [decide_eq_false_iff_not]
            omega
          rw [e2] at h4
          exact h4 hF2
        · have hlt := zn_ge h1 (by omega) (by omega)
          exact hJ (1000 - 20 * b - 1 - 0) (by omega) 50 (by simp) _ _ _ ⟨⟨c1, c2, c3, c4, hF2, q2, m, hm1, hm2, hzy⟩, Or.inr ⟨rfl, b, 0, rfl, hlt, Nat.zero_le _, rfl, rfl⟩⟩
      · obtain ⟨hxr, -, w1, w2, w3, w4, w5, -⟩ := id hF2.1
        obtain ⟨a0, -⟩ := id hxr
        obtain ⟨r1, r2⟩ := tn_nI (x := r) (b := 35) c1 c2 (by decide)
        obtain ⟨n1, n2⟩ := tn_nI (x := yr) (b := 30) c3 c4 (by decide)
        obtain ⟨z0, z1⟩ := zyk_sh (yk := zyi (tn r)) ⟨tn r, by omega, rfl⟩
        simp only [zB_X7_lake, zb_X7_lake_50, ↓reduceIte, Nat.reduceEqDiff, zsh_0, zsh_1, z0, a0, w1, zT_push, zT_bin, zT_div, zT_bil, zT_shl, zT_un, zT_i2l, zT_l2i, zT_lcmp, zT_ild, zT_lld, zT_ald, zT_ist, zT_lst, zT_ast, zT_iinc, zT_dup, zT_dup2, zT_pop, zT_if1, zT_if2, zT_ifn, zT_getI, zT_getJ, zT_getR, zT_putI, zT_putZ, zT_putJ, zT_putR, zT_ald0, zT_lald, zT_aald, zT_iast, zT_zast, zT_bast, zT_last, zT_aast, zT_iret, zT_nret, zT_aret, zT_vret, zT_oi, zT_mm, zT_ialX, zT_S1, zT_S2, zT_S3, zT_V0, zT_V1, zT_V2, zT_V3, zT_V4, zT_V5, zT_V6, zT_I0, zT_I1, zT_I2, zlg, zlset, zlpr, zent, zok, va_rf, List.length_cons, List.length_nil, List.replicate, List.cons_append, List.nil_append, List.append_nil, Option.toList_some, Option.toList_none, Option.toList, Nat.reduceAdd, Nat.reduceSub, Nat.reduceLeDiff, Nat.zero_add, Nat.zero_le, true_and, and_true, Nat.le_refl, ge_iff_le, Nat.reduceEqDiff]
        refine ⟨fun h1 => ?_, fun h1 => ?_⟩
        · have := zn_ge' h1 (by omega) (by omega)
          have e : a = sW F.1 := by omega
          subst e
          refine hJ (1000 - 20 * (b + 1)) (by omega) 35 (by simp) _ _ _ ⟨⟨c1, c2, c3, c4, hF2, q2, m, hm1, hm2, hzy⟩, Or.inl ⟨rfl, b + 1, some (.int (nI (sW F.1))), rfl, by omega, ?_, rfl⟩⟩
          have e2 : wct (wlk F.1 (wHT F.1 (tn r) (tn yr))) (12 * (b + 1)) = wct (wlk F.1 (wHT F.1 (tn r) (tn yr))) (12 * b + sW F.1) := by
            rw [show 12 * (b + 1) = 12 * b + sW F.1 + (12 - sW F.1) from by omega]
            refine wct_skip _ (fun i h1 h2 => ?_)
            unfold wlk
            simp only [decide_eq_false_iff_not]
            omega
          rw [nI_1, e2]
        · have hlt := zn_ge h1 (by omega) (by omega)
          unfold zc_X7_cellAt
          dsimp only
          rw [wcell]
          simp only [z0, zT_push, zT_bin, zT_div, zT_bil, zT_shl, zT_un, zT_i2l, zT_l2i, zT_lcmp, zT_ild, zT_lld, zT_ald, zT_ist, zT_lst, zT_ast, zT_iinc, zT_dup, zT_dup2, zT_pop, zT_if1, zT_if2, zT_ifn, zT_getI, zT_getJ, zT_getR, zT_putI, zT_putZ, zT_putJ, zT_putR, zT_ald0, zT_lald, zT_aald, zT_iast, zT_zast, zT_bast, zT_last, zT_aast, zT_iret, zT_nret, zT_aret, zT_vret, zT_oi, zT_mm, zT_ialX, zT_S1, zT_S2, zT_S3, zT_V0, zT_V1, zT_V2, zT_V3, zT_V4, zT_V5, zT_V6, zT_I0, zT_I1, zT_I2, zlg, zlset, zlpr, zent, zok, va_rf, List.length_cons, List.length_nil, List.replicate, List.cons_append, List.nil_append, List.append_nil, Option.toList_some, Option.toList_none, Option.toList, Nat.reduceAdd, Nat.reduceSub, Nat.reduceLeDiff, Nat.zero_add, Nat.zero_le, true_and, and_true, Nat.le_refl, ge_iff_le, Nat.reduceEqDiff]
          unfold zc_X6_heightOf
          dsimp only
          refine ⟨⟨⟨tn r, by omega, rfl⟩, q2⟩, tn yr, b * 12 + a, (wHD F.1 (tn r) (tn yr)).1, n1, n2, rfl, by omega, fun e _ => wHD_le ok (tn r) _ e, fun j hj => hzy _ hm1 j hj, ?_⟩
          have hle2 := wHD_le ok (tn r) (tn yr) (b * 12 + a)
          simp only [zb_X7_lake_87, zsh_0, zsh_1, a0, w5, zT_push, zT_bin, zT_div, zT_bil, zT_shl, zT_un, zT_i2l, zT_l2i, zT_lcmp, zT_ild, zT_lld, zT_ald, zT_ist, zT_lst, zT_ast, zT_iinc, zT_dup, zT_dup2, zT_pop, zT_if1, zT_if2, zT_ifn, zT_getI, zT_getJ, zT_getR, zT_putI, zT_putZ, zT_putJ, zT_putR, zT_ald0, zT_lald, zT_aald, zT_iast, zT_zast, zT_bast, zT_last, zT_aast, zT_iret, zT_nret, zT_aret, zT_vret, zT_oi, zT_mm, zT_ialX, zT_S1, zT_S2, zT_S3, zT_V0, zT_V1, zT_V2, zT_V3, zT_V4, zT_V5, zT_V6, zT_I0, zT_I1, zT_I2, zlg, zlset, zlpr, zent, zok, va_rf, List.length_cons, List.length_nil, List.replicate, List.cons_append, List.nil_append, List.append_nil, Option.toList_some, Option.toList_none, Option.toList, Nat.reduceAdd, Nat.reduceSub, Nat.reduceLeDiff, Nat.zero_add, Nat.zero_le, true_and, and_true, Nat.le_refl, ge_iff_le, Nat.reduceEqDiff]
          have hcn : wct (wlk F.1 (wHT F.1 (tn r) (tn yr))) (12 * b + (a + 1)) = wct (wlk F.1 (wHT F.1 (tn r) (tn yr))) (12 * b + a) + if (wHD F.1 (tn r) (tn yr)).1 (b * 12 + a) < sL F.1 then 1 else 0 := by
            show wct (wlk F.1 (wHT F.1 (tn r) (tn yr))) (12 * b + a) + (if wlk F.1 (wHT F.1 (tn r) (tn yr)) (12 * b + a) = true then 1 else 0) = _
            congr 1
            unfold wlk wHT
            rw [show 12 * b + a = b * 12 + a from by omega]
            simp only [decide_eq_true_eq]
            by_cases q : (wHD F.1 (tn r) (tn yr)).1 (b * 12 + a) < sL F.1
            · rw [if_pos q, if_pos ⟨by omega, by omega, q⟩]
            · rw [if_neg q, if_neg (fun z => q z.2.2)]
          refine ⟨fun h2 => ?_, fun h2 => ?_⟩
          · have := zn_ge' h2 (by omega) (by omega)
            rw [if_neg (by omega)] at hcn
            refine hJ (1000 - 20 * b - 1 - (a + 1)) (by omega) 50 (by simp) _ _ _ ⟨⟨c1, c2, c3, c4, hF2, q2, m, hm1, hm2, hzy⟩, Or.inr ⟨rfl, b, a + 1, rfl, hb, hlt, ?_, rfl⟩⟩
            rw [nI_1, hcn]
            rfl
          · have := zn_ge h2 (by omega) (by omega)
            rw [if_pos (by omega)] at hcn
            refine hJ (1000 - 20 * b - 1 - (a + 1)) (by omega) 50 (by simp) _ _ _ ⟨⟨c1, c2, c3, c4, hF2, q2, m, hm1, hm2, hzy⟩, Or.inr ⟨rfl, b, a + 1, rfl, hb, hlt, ?_, rfl⟩⟩
            rw [nI_1, nI_1, hcn]
    · intro J hJ
      have hxi := hF.1
      have bad : ¬ ((0 ≤ r ∧ r ≤ 35) ∧ 0 ≤ yr ∧ yr ≤ 30) → K (some (.int (-1))) M := by
        intro hb
        have h2 := h M
        unfold pLake at h2
        rw [if_neg hb] at h2
        exact h2 hF
      simp only [zb_X7_lake_0, zb_X7_lake_20, zT_push, zT_bin, zT_div, zT_bil, zT_shl, zT_un, zT_i2l, zT_l2i, zT_lcmp, zT_ild, zT_lld, zT_ald, zT_ist, zT_lst, zT_ast, zT_iinc, zT_dup, zT_dup2, zT_pop, zT_if1, zT_if2, zT_ifn, zT_getI, zT_getJ, zT_getR, zT_putI, zT_putZ, zT_putJ, zT_putR, zT_ald0, zT_lald, zT_aald, zT_iast, zT_zast, zT_bast, zT_last, zT_aast, zT_iret, zT_nret, zT_aret, zT_vret, zT_oi, zT_mm, zT_ialX, zT_S1, zT_S2, zT_S3, zT_V0, zT_V1, zT_V2, zT_V3, zT_V4, zT_V5, zT_V6, zT_I0, zT_I1, zT_I2, zlg, zlset, zlpr, zent, zok, va_rf, List.length_cons, List.length_nil, List.replicate, List.cons_append, List.nil_append, List.append_nil, Option.toList_some, Option.toList_none, Option.toList, Nat.reduceAdd, Nat.reduceSub, Nat.reduceLeDiff, Nat.zero_add, Nat.zero_le, true_and, and_true, Nat.le_refl, ge_iff_le, Nat.reduceEqDiff]
      unfold zc_X7_within
      dsimp only
      simp only [zbI_0, zsh_0, zT_push, zT_bin, zT_div, zT_bil, zT_shl, zT_un, zT_i2l, zT_l2i, zT_lcmp, zT_ild, zT_lld, zT_ald, zT_ist, zT_lst, zT_ast, zT_iinc, zT_dup, zT_dup2, zT_pop, zT_if1, zT_if2, zT_ifn, zT_getI, zT_getJ, zT_getR, zT_putI, zT_putZ, zT_putJ, zT_putR, zT_ald0, zT_lald, zT_aald, zT_iast, zT_zast, zT_bast, zT_last, zT_aast, zT_iret, zT_nret, zT_aret, zT_vret, zT_oi, zT_mm, zT_ialX, zT_S1, zT_S2, zT_S3, zT_V0, zT_V1, zT_V2, zT_V3, zT_V4, zT_V5, zT_V6, zT_I0, zT_I1, zT_I2, zlg, zlset, zlpr, zent, zok, va_rf, List.length_cons, List.length_nil, List.replicate, List.cons_append, List.nil_append, List.append_nil, Option.toList_some, Option.toList_none, Option.toList, Nat.reduceAdd, Nat.reduceSub, Nat.reduceLeDiff, Nat.zero_add, Nat.zero_le, true_and, and_true, Nat.le_refl, ge_iff_le, Nat.reduceEqDiff]
      refine ⟨fun h1 => bad (fun z => h1 z.1), fun h1 => ⟨fun h2 => bad (fun z => h2 z.2), fun h2 => ?_⟩⟩
      have c1 := Classical.not_not.mp h1
      have c2 := Classical.not_not.mp h2
      obtain ⟨r1, r2⟩ := tn_nI (x := r) (b := 35) c1.1 c1.2 (by decide)
      obtain ⟨n1, n2⟩ := tn_nI (x := yr) (b := 30) c2.1 c2.2 (by decide)
      refine ⟨⟨by omega, by omega⟩, ?_⟩
      unfold zc_X7_runTo
      dsimp only
      refine ⟨rfl, tn r, tn yr, F.1, pk, dk, p, r1, by omega, n1, n2, hxi, fun M2 m hrn2 hxi2 hm1 hm2 q1 q2 hlat hzy => ?_⟩
      exact hJ (1000 - 20 * 0) 35 (by simp) _ _ _ ⟨⟨c1.1, c1.2, c2.1, c2.2, hF.run hrn2 hxi2, q2, m, hm1, hm2, hzy⟩, Or.inl ⟨rfl, 0, none, rfl, Nat.zero_le _, rfl, rfl⟩⟩
  · exact h.elim
