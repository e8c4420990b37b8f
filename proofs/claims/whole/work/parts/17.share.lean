/-! DeltaRuns$Water shareToLowest -/
theorem zd_X5_shareToLowest_0 : decode cX5_shareToLowest 0 = .ok (.aload_n 0, 1) := by decide +kernel
theorem zd_X5_shareToLowest_1 : decode cX5_shareToLowest 1 = .ok (.aload_n 0, 1) := by decide +kernel
theorem zd_X5_shareToLowest_2 : decode cX5_shareToLowest 2 = .ok (.getfield 31, 3) := by decide +kernel
theorem zd_X5_shareToLowest_5 : decode cX5_shareToLowest 5 = .ok (.invokevirtual 102, 3) := by decide +kernel
theorem zd_X5_shareToLowest_8 : decode cX5_shareToLowest 8 = .ok (.istore_n 2, 1) := by decide +kernel
theorem zd_X5_shareToLowest_9 : decode cX5_shareToLowest 9 = .ok (.iconst 0, 1) := by decide +kernel
theorem zd_X5_shareToLowest_10 : decode cX5_shareToLowest 10 = .ok (.istore_n 3, 1) := by decide +kernel
theorem zd_X5_shareToLowest_11 : decode cX5_shareToLowest 11 = .ok (.iload_n 3, 1) := by decide +kernel
theorem zd_X5_shareToLowest_12 : decode cX5_shareToLowest 12 = .ok (.aload_n 0, 1) := by decide +kernel
theorem zd_X5_shareToLowest_13 : decode cX5_shareToLowest 13 = .ok (.getfield 76, 3) := by decide +kernel
theorem zd_X5_shareToLowest_16 : decode cX5_shareToLowest 16 = .ok (.if_icmp .ge 25, 3) := by decide +kernel
theorem zd_X5_shareToLowest_19 : decode cX5_shareToLowest 19 = .ok (.aload_n 0, 1) := by decide +kernel
theorem zd_X5_shareToLowest_20 : decode cX5_shareToLowest 20 = .ok (.getfield 34, 3) := by decide +kernel
theorem zd_X5_shareToLowest_23 : decode cX5_shareToLowest 23 = .ok (.iload_n 3, 1) := by decide +kernel
theorem zd_X5_shareToLowest_24 : decode cX5_shareToLowest 24 = .ok (.iload_n 3, 1) := by decide +kernel
theorem zd_X5_shareToLowest_25 : decode cX5_shareToLowest 25 = .ok (.iload_n 2, 1) := by decide +kernel
theorem zd_X5_shareToLowest_26 : decode cX5_shareToLowest 26 = .ok (.if_icmp .ne 7, 3) := by decide +kernel
theorem zd_X5_shareToLowest_29 : decode cX5_shareToLowest 29 = .ok (.iload_n 1, 1) := by decide +kernel
theorem zd_X5_shareToLowest_30 : decode cX5_shareToLowest 30 = .ok (.goto 4, 3) := by decide +kernel
theorem zd_X5_shareToLowest_33 : decode cX5_shareToLowest 33 = .ok (.iconst 0, 1) := by decide +kernel
theorem zd_X5_shareToLowest_34 : decode cX5_shareToLowest 34 = .ok (.iastore, 1) := by decide +kernel
theorem zd_X5_shareToLowest_35 : decode cX5_shareToLowest 35 = .ok (.iinc 3 1, 3) := by decide +kernel
theorem zd_X5_shareToLowest_38 : decode cX5_shareToLowest 38 = .ok (.goto (-27), 3) := by decide +kernel
theorem zd_X5_shareToLowest_41 : decode cX5_shareToLowest 41 = .ok (.return_, 1) := by decide +kernel
def zb_X5_shareToLowest_0 (K : zKt) (J : Nat → zPP) : zPP := zT_ald 0 (zT_ald 0 (zT_getR 5 7 11 (zT_V1 zok 5 11 zc_X5_firstGreatest (zT_ist 2 (zT_push (.int 0) (zT_ist 3 (J 11)))))))
theorem zbs_X5_shareToLowest_0 {X : zCt} (hR : zRX X = { frames := 1, cells := 0, slots := 0, locals := 23 }) (J : Nat → zPP) (hJ : ∀ h ∈ ([11] : List Nat), zSd X RX5 "shareToLowest" cX5_shareToLowest 4 none h (J h)) : zSd X RX5 "shareToLowest" cX5_shareToLowest 4 none 0 (zb_X5_shareToLowest_0 (zKX X) J) := zs_aload_n zd_X5_shareToLowest_0 rfl (zs_aload_n zd_X5_shareToLowest_1 rfl (zs_getR (ci := 5) (j := 7) (T := TX5) rfl inX5 (by decide) gw_1_123 rfl zd_X5_shareToLowest_2 (zs_V (ci := 5) rfl rfl (zm_X5_firstGreatest _ _ _) gw_3_6 gw_3_3 gw_3_5 gw_0_18 gw_1_5 zdn_X5_firstGreatest (zrm hR (by decide) (by decide)) zd_X5_shareToLowest_5 (zCl_V1 zok_l) (zs_istore_n zd_X5_shareToLowest_8 rfl (by decide) (zs_iconst zd_X5_shareToLowest_9 (by decide) (zs_istore_n zd_X5_shareToLowest_10 rfl (by decide) (hJ 11 (by decide))))))))
def zb_X5_shareToLowest_34 (K : zKt) (J : Nat → zPP) : zPP := zT_iast (zT_iinc 3 1 (J 11))
theorem zbs_X5_shareToLowest_34 {X : zCt} (hR : zRX X = { frames := 1, cells := 0, slots := 0, locals := 23 }) (J : Nat → zPP) (hJ : ∀ h ∈ ([11] : List Nat), zSd X RX5 "shareToLowest" cX5_shareToLowest 4 none h (J h)) : zSd X RX5 "shareToLowest" cX5_shareToLowest 4 none 34 (zb_X5_shareToLowest_34 (zKX X) J) := zs_iast zd_X5_shareToLowest_34 (zs_iinc zd_X5_shareToLowest_35 (by decide) (by decide) (zs_goto (tgt := 11) zd_X5_shareToLowest_38 (by decide) (hJ 11 (by decide))))
def zb_X5_shareToLowest_11 (K : zKt) (J : Nat → zPP) : zPP := zT_ild 3 (zT_ald 0 (zT_getI 5 10 11 (zT_if2 (fun x y => y ≤ x) (zT_vret K) (zT_ald 0 (zT_getR 5 8 11 (zT_ild 3 (zT_ild 3 (zT_ild 2 (zT_if2 (fun x y => x = y) (zT_ild 1 (zb_X5_shareToLowest_34 K J)) (zT_push (.int 0) (zb_X5_shareToLowest_34 K J)))))))))))
theorem zbs_X5_shareToLowest_11 {X : zCt} (hR : zRX X = { frames := 1, cells := 0, slots := 0, locals := 23 }) (J : Nat → zPP) (hJ : ∀ h ∈ ([11] : List Nat), zSd X RX5 "shareToLowest" cX5_shareToLowest 4 none h (J h)) : zSd X RX5 "shareToLowest" cX5_shareToLowest 4 none 11 (zb_X5_shareToLowest_11 (zKX X) J) := zs_iload_n zd_X5_shareToLowest_11 rfl (zs_aload_n zd_X5_shareToLowest_12 rfl (zs_getI (ci := 5) (j := 10) (T := TX5) rfl inX5 (by decide) gw_1_126 rfl zd_X5_shareToLowest_13 (zs_icmp_ge (tgt := 41) zd_X5_shareToLowest_16 (by decide) (zs_vret rfl zd_X5_shareToLowest_41) (zs_aload_n zd_X5_shareToLowest_19 rfl (zs_getR (ci := 5) (j := 8) (T := TX5) rfl inX5 (by decide) gw_1_124 rfl zd_X5_shareToLowest_20 (zs_iload_n zd_X5_shareToLowest_23 rfl (zs_iload_n zd_X5_shareToLowest_24 rfl (zs_iload_n zd_X5_shareToLowest_25 rfl (zs_icmp_ne (tgt := 33) zd_X5_shareToLowest_26 (by decide) (zs_iconst zd_X5_shareToLowest_33 (by decide) (zbs_X5_shareToLowest_34 hR J hJ)) (zs_iload_n zd_X5_shareToLowest_29 rfl (zs_goto (tgt := 34) zd_X5_shareToLowest_30 (by decide) (zbs_X5_shareToLowest_34 hR J hJ))))))))))))
def zB_X5_shareToLowest (K : zKt) (J : Nat → zPP) (h : Nat) : zPP := if h = 11 then zb_X5_shareToLowest_11 K J else (fun _ _ _ => False)
theorem zBs_X5_shareToLowest {X : zCt} (hR : zRX X = { frames := 1, cells := 0, slots := 0, locals := 23 }) : ∀ J : Nat → zPP, (∀ h ∈ ([11] : List Nat), zSd X RX5 "shareToLowest" cX5_shareToLowest 4 none h (J h)) → ∀ h ∈ ([11] : List Nat), zSd X RX5 "shareToLowest" cX5_shareToLowest 4 none h (zB_X5_shareToLowest (zKX X) J h) := by
  intro J hJ h hh
  unfold zB_X5_shareToLowest
  simp only [List.mem_cons, List.not_mem_nil, or_false] at hh
  subst hh
  exact zbs_X5_shareToLowest_11 hR J hJ
theorem zdn_X5_shareToLowest : yX5_shareToLowest.cls ≠ "java/lang/invoke/MethodHandle" ∧ yX5_shareToLowest.cls ≠ "java/lang/invoke/VarHandle" ∧ (parseMethodDescriptor yX5_shareToLowest.desc).map (fun d => d.parameters.length) = some 1 := by decide +kernel
/-! DeltaRuns$Water shareByDrops -/
theorem zd_X5_shareByDrops_0 : decode cX5_shareByDrops 0 = .ok (.iconst 0, 1) := by decide +kernel
theorem zd_X5_shareByDrops_1 : decode cX5_shareByDrops 1 = .ok (.istore_n 2, 1) := by decide +kernel
theorem zd_X5_shareByDrops_2 : decode cX5_shareByDrops 2 = .ok (.iconst 0, 1) := by decide +kernel
theorem zd_X5_shareByDrops_3 : decode cX5_shareByDrops 3 = .ok (.istore_n 3, 1) := by decide +kernel
theorem zd_X5_shareByDrops_4 : decode cX5_shareByDrops 4 = .ok (.iload_n 3, 1) := by decide +kernel
theorem zd_X5_shareByDrops_5 : decode cX5_shareByDrops 5 = .ok (.aload_n 0, 1) := by decide +kernel
theorem zd_X5_shareByDrops_6 : decode cX5_shareByDrops 6 = .ok (.getfield 76, 3) := by decide +kernel
theorem zd_X5_shareByDrops_9 : decode cX5_shareByDrops 9 = .ok (.if_icmp .ge 18, 3) := by decide +kernel
theorem zd_X5_shareByDrops_12 : decode cX5_shareByDrops 12 = .ok (.iload_n 2, 1) := by decide +kernel
theorem zd_X5_shareByDrops_13 : decode cX5_shareByDrops 13 = .ok (.aload_n 0, 1) := by decide +kernel
theorem zd_X5_shareByDrops_14 : decode cX5_shareByDrops 14 = .ok (.getfield 31, 3) := by decide +kernel
theorem zd_X5_shareByDrops_17 : decode cX5_shareByDrops 17 = .ok (.iload_n 3, 1) := by decide +kernel
theorem zd_X5_shareByDrops_18 : decode cX5_shareByDrops 18 = .ok (.iaload, 1) := by decide +kernel
theorem zd_X5_shareByDrops_19 : decode cX5_shareByDrops 19 = .ok (.iadd, 1) := by decide +kernel
theorem zd_X5_shareByDrops_20 : decode cX5_shareByDrops 20 = .ok (.istore_n 2, 1) := by decide +kernel
theorem zd_X5_shareByDrops_21 : decode cX5_shareByDrops 21 = .ok (.iinc 3 1, 3) := by decide +kernel
theorem zd_X5_shareByDrops_24 : decode cX5_shareByDrops 24 = .ok (.goto (-20), 3) := by decide +kernel
theorem zd_X5_shareByDrops_27 : decode cX5_shareByDrops 27 = .ok (.iload_n 2, 1) := by decide +kernel
theorem zd_X5_shareByDrops_28 : decode cX5_shareByDrops 28 = .ok (.ifCond .gt 4, 3) := by decide +kernel
theorem zd_X5_shareByDrops_31 : decode cX5_shareByDrops 31 = .ok (.return_, 1) := by decide +kernel
theorem zd_X5_shareByDrops_32 : decode cX5_shareByDrops 32 = .ok (.iload_n 1, 1) := by decide +kernel
theorem zd_X5_shareByDrops_33 : decode cX5_shareByDrops 33 = .ok (.istore_n 3, 1) := by decide +kernel
theorem zd_X5_shareByDrops_34 : decode cX5_shareByDrops 34 = .ok (.iconst 0, 1) := by decide +kernel
theorem zd_X5_shareByDrops_35 : decode cX5_shareByDrops 35 = .ok (.istore 4, 2) := by decide +kernel
theorem zd_X5_shareByDrops_37 : decode cX5_shareByDrops 37 = .ok (.iload 4, 2) := by decide +kernel
theorem zd_X5_shareByDrops_39 : decode cX5_shareByDrops 39 = .ok (.aload_n 0, 1) := by decide +kernel
theorem zd_X5_shareByDrops_40 : decode cX5_shareByDrops 40 = .ok (.getfield 76, 3) := by decide +kernel
theorem zd_X5_shareByDrops_43 : decode cX5_shareByDrops 43 = .ok (.if_icmp .ge 55, 3) := by decide +kernel
theorem zd_X5_shareByDrops_46 : decode cX5_shareByDrops 46 = .ok (.aload_n 0, 1) := by decide +kernel
theorem zd_X5_shareByDrops_47 : decode cX5_shareByDrops 47 = .ok (.getfield 34, 3) := by decide +kernel
theorem zd_X5_shareByDrops_50 : decode cX5_shareByDrops 50 = .ok (.iload 4, 2) := by decide +kernel
theorem zd_X5_shareByDrops_52 : decode cX5_shareByDrops 52 = .ok (.iload_n 1, 1) := by decide +kernel
theorem zd_X5_shareByDrops_53 : decode cX5_shareByDrops 53 = .ok (.aload_n 0, 1) := by decide +kernel
theorem zd_X5_shareByDrops_54 : decode cX5_shareByDrops 54 = .ok (.getfield 31, 3) := by decide +kernel
theorem zd_X5_shareByDrops_57 : decode cX5_shareByDrops 57 = .ok (.iload 4, 2) := by decide +kernel
theorem zd_X5_shareByDrops_59 : decode cX5_shareByDrops 59 = .ok (.iaload, 1) := by decide +kernel
theorem zd_X5_shareByDrops_60 : decode cX5_shareByDrops 60 = .ok (.imul, 1) := by decide +kernel
theorem zd_X5_shareByDrops_61 : decode cX5_shareByDrops 61 = .ok (.iload_n 2, 1) := by decide +kernel
theorem zd_X5_shareByDrops_62 : decode cX5_shareByDrops 62 = .ok (.idiv, 1) := by decide +kernel
theorem zd_X5_shareByDrops_63 : decode cX5_shareByDrops 63 = .ok (.iastore, 1) := by decide +kernel
theorem zd_X5_shareByDrops_64 : decode cX5_shareByDrops 64 = .ok (.aload_n 0, 1) := by decide +kernel
theorem zd_X5_shareByDrops_65 : decode cX5_shareByDrops 65 = .ok (.getfield 37, 3) := by decide +kernel
theorem zd_X5_shareByDrops_68 : decode cX5_shareByDrops 68 = .ok (.iload 4, 2) := by decide +kernel
theorem zd_X5_shareByDrops_70 : decode cX5_shareByDrops 70 = .ok (.iload_n 1, 1) := by decide +kernel
theorem zd_X5_shareByDrops_71 : decode cX5_shareByDrops 71 = .ok (.aload_n 0, 1) := by decide +kernel
theorem zd_X5_shareByDrops_72 : decode cX5_shareByDrops 72 = .ok (.getfield 31, 3) := by decide +kernel
theorem zd_X5_shareByDrops_75 : decode cX5_shareByDrops 75 = .ok (.iload 4, 2) := by decide +kernel
theorem zd_X5_shareByDrops_77 : decode cX5_shareByDrops 77 = .ok (.iaload, 1) := by decide +kernel
theorem zd_X5_shareByDrops_78 : decode cX5_shareByDrops 78 = .ok (.imul, 1) := by decide +kernel
theorem zd_X5_shareByDrops_79 : decode cX5_shareByDrops 79 = .ok (.iload_n 2, 1) := by decide +kernel
theorem zd_X5_shareByDrops_80 : decode cX5_shareByDrops 80 = .ok (.irem, 1) := by decide +kernel
theorem zd_X5_shareByDrops_81 : decode cX5_shareByDrops 81 = .ok (.iastore, 1) := by decide +kernel
theorem zd_X5_shareByDrops_82 : decode cX5_shareByDrops 82 = .ok (.iload_n 3, 1) := by decide +kernel
theorem zd_X5_shareByDrops_83 : decode cX5_shareByDrops 83 = .ok (.aload_n 0, 1) := by decide +kernel
theorem zd_X5_shareByDrops_84 : decode cX5_shareByDrops 84 = .ok (.getfield 34, 3) := by decide +kernel
theorem zd_X5_shareByDrops_87 : decode cX5_shareByDrops 87 = .ok (.iload 4, 2) := by decide +kernel
theorem zd_X5_shareByDrops_89 : decode cX5_shareByDrops 89 = .ok (.iaload, 1) := by decide +kernel
theorem zd_X5_shareByDrops_90 : decode cX5_shareByDrops 90 = .ok (.isub, 1) := by decide +kernel
theorem zd_X5_shareByDrops_91 : decode cX5_shareByDrops 91 = .ok (.istore_n 3, 1) := by decide +kernel
theorem zd_X5_shareByDrops_92 : decode cX5_shareByDrops 92 = .ok (.iinc 4 1, 3) := by decide +kernel
theorem zd_X5_shareByDrops_95 : decode cX5_shareByDrops 95 = .ok (.goto (-58), 3) := by decide +kernel
theorem zd_X5_shareByDrops_98 : decode cX5_shareByDrops 98 = .ok (.iconst 0, 1) := by decide +kernel
theorem zd_X5_shareByDrops_99 : decode cX5_shareByDrops 99 = .ok (.istore 4, 2) := by decide +kernel
theorem zd_X5_shareByDrops_101 : decode cX5_shareByDrops 101 = .ok (.iload 4, 2) := by decide +kernel
theorem zd_X5_shareByDrops_103 : decode cX5_shareByDrops 103 = .ok (.iload_n 3, 1) := by decide +kernel
theorem zd_X5_shareByDrops_104 : decode cX5_shareByDrops 104 = .ok (.if_icmp .ge 38, 3) := by decide +kernel
theorem zd_X5_shareByDrops_107 : decode cX5_shareByDrops 107 = .ok (.aload_n 0, 1) := by decide +kernel
theorem zd_X5_shareByDrops_108 : decode cX5_shareByDrops 108 = .ok (.aload_n 0, 1) := by decide +kernel
theorem zd_X5_shareByDrops_109 : decode cX5_shareByDrops 109 = .ok (.getfield 37, 3) := by decide +kernel
theorem zd_X5_shareByDrops_112 : decode cX5_shareByDrops 112 = .ok (.invokevirtual 102, 3) := by decide +kernel
theorem zd_X5_shareByDrops_115 : decode cX5_shareByDrops 115 = .ok (.istore 5, 2) := by decide +kernel
theorem zd_X5_shareByDrops_117 : decode cX5_shareByDrops 117 = .ok (.aload_n 0, 1) := by decide +kernel
theorem zd_X5_shareByDrops_118 : decode cX5_shareByDrops 118 = .ok (.getfield 34, 3) := by decide +kernel
theorem zd_X5_shareByDrops_121 : decode cX5_shareByDrops 121 = .ok (.iload 5, 2) := by decide +kernel
theorem zd_X5_shareByDrops_123 : decode cX5_shareByDrops 123 = .ok (.dup2, 1) := by decide +kernel
theorem zd_X5_shareByDrops_124 : decode cX5_shareByDrops 124 = .ok (.iaload, 1) := by decide +kernel
theorem zd_X5_shareByDrops_125 : decode cX5_shareByDrops 125 = .ok (.iconst 1, 1) := by decide +kernel
theorem zd_X5_shareByDrops_126 : decode cX5_shareByDrops 126 = .ok (.iadd, 1) := by decide +kernel
theorem zd_X5_shareByDrops_127 : decode cX5_shareByDrops 127 = .ok (.iastore, 1) := by decide +kernel
theorem zd_X5_shareByDrops_128 : decode cX5_shareByDrops 128 = .ok (.aload_n 0, 1) := by decide +kernel
theorem zd_X5_shareByDrops_129 : decode cX5_shareByDrops 129 = .ok (.getfield 37, 3) := by decide +kernel
theorem zd_X5_shareByDrops_132 : decode cX5_shareByDrops 132 = .ok (.iload 5, 2) := by decide +kernel
theorem zd_X5_shareByDrops_134 : decode cX5_shareByDrops 134 = .ok (.iconst (-1), 1) := by decide +kernel
theorem zd_X5_shareByDrops_135 : decode cX5_shareByDrops 135 = .ok (.iastore, 1) := by decide +kernel
theorem zd_X5_shareByDrops_136 : decode cX5_shareByDrops 136 = .ok (.iinc 4 1, 3) := by decide +kernel
theorem zd_X5_shareByDrops_139 : decode cX5_shareByDrops 139 = .ok (.goto (-38), 3) := by decide +kernel
theorem zd_X5_shareByDrops_142 : decode cX5_shareByDrops 142 = .ok (.return_, 1) := by decide +kernel
def zb_X5_shareByDrops_0 (K : zKt) (J : Nat → zPP) : zPP := zT_push (.int 0) (zT_ist 2 (zT_push (.int 0) (zT_ist 3 (J 4))))
theorem zbs_X5_shareByDrops_0 {X : zCt} (hR : zRX X = { frames := 1, cells := 0, slots := 0, locals := 23 }) (J : Nat → zPP) (hJ : ∀ h ∈ ([4, 37, 101] : List Nat), zSd X RX5 "shareByDrops" cX5_shareByDrops 6 none h (J h)) : zSd X RX5 "shareByDrops" cX5_shareByDrops 6 none 0 (zb_X5_shareByDrops_0 (zKX X) J) := zs_iconst zd_X5_shareByDrops_0 (by decide) (zs_istore_n zd_X5_shareByDrops_1 rfl (by decide) (zs_iconst zd_X5_shareByDrops_2 (by decide) (zs_istore_n zd_X5_shareByDrops_3 rfl (by decide) (hJ 4 (by decide)))))
def zb_X5_shareByDrops_4 (K : zKt) (J : Nat → zPP) : zPP := zT_ild 3 (zT_ald 0 (zT_getI 5 10 11 (zT_if2 (fun x y => y ≤ x) (zT_ild 2 (zT_if1 (fun x => 0 < x) (zT_ild 1 (zT_ist 3 (zT_push (.int 0) (zT_ist 4 (J 37))))) (zT_vret K))) (zT_ild 2 (zT_ald 0 (zT_getR 5 7 11 (zT_ild 3 (zT_ald0 0 (zT_bin (fun x y => x + y) (zT_ist 2 (zT_iinc 3 1 (J 4))))))))))))
theorem zbs_X5_shareByDrops_4 {X : zCt} (hR : zRX X = { frames := 1, cells := 0, slots := 0, locals := 23 }) (J : Nat → zPP) (hJ : ∀ h ∈ ([4, 37, 101] : List Nat), zSd X RX5 "shareByDrops" cX5_shareByDrops 6 none h (J h)) : zSd X RX5 "shareByDrops" cX5_shareByDrops 6 none 4 (zb_X5_shareByDrops_4 (zKX X) J) := zs_iload_n zd_X5_shareByDrops_4 rfl (zs_aload_n zd_X5_shareByDrops_5 rfl (zs_getI (ci := 5) (j := 10) (T := TX5) rfl inX5 (by decide) gw_1_126 rfl zd_X5_shareByDrops_6 (zs_icmp_ge (tgt := 27) zd_X5_shareByDrops_9 (by decide) (zs_iload_n zd_X5_shareByDrops_27 rfl (zs_if_gt (tgt := 32) zd_X5_shareByDrops_28 (by decide) (zs_iload_n zd_X5_shareByDrops_32 rfl (zs_istore_n zd_X5_shareByDrops_33 rfl (by decide) (zs_iconst zd_X5_shareByDrops_34 (by decide) (zs_istore zd_X5_shareByDrops_35 (by decide) (hJ 37 (by decide)))))) (zs_vret rfl zd_X5_shareByDrops_31))) (zs_iload_n zd_X5_shareByDrops_12 rfl (zs_aload_n zd_X5_shareByDrops_13 rfl (zs_getR (ci := 5) (j := 7) (T := TX5) rfl inX5 (by decide) gw_1_123 rfl zd_X5_shareByDrops_14 (zs_iload_n zd_X5_shareByDrops_17 rfl (zs_iald zd_X5_shareByDrops_18 (zs_iadd zd_X5_shareByDrops_19 (zs_istore_n zd_X5_shareByDrops_20 rfl (by decide) (zs_iinc zd_X5_shareByDrops_21 (by decide) (by decide) (zs_goto (tgt := 4) zd_X5_shareByDrops_24 (by decide) (hJ 4 (by decide))))))))))))))
def zb_X5_shareByDrops_37 (K : zKt) (J : Nat → zPP) : zPP := zT_ild 4 (zT_ald 0 (zT_getI 5 10 11 (zT_if2 (fun x y => y ≤ x) (zT_push (.int 0) (zT_ist 4 (J 101))) (zT_ald 0 (zT_getR 5 8 11 (zT_ild 4 (zT_ild 1 (zT_ald 0 (zT_getR 5 7 11 (zT_ild 4 (zT_ald0 0 (zT_bin (fun x y => x * y) (zT_ild 2 (zT_div (fun x y => x / y) (zT_iast (zT_ald 0 (zT_getR 5 9 11 (zT_ild 4 (zT_ild 1 (zT_ald 0 (zT_getR 5 7 11 (zT_ild 4 (zT_ald0 0 (zT_bin (fun x y => x * y) (zT_ild 2 (zT_div (fun x y => x - x / y * y) (zT_iast (zT_ild 3 (zT_ald 0 (zT_getR 5 8 11 (zT_ild 4 (zT_ald0 0 (zT_bin (fun x y => x - y) (zT_ist 3 (zT_iinc 4 1 (J 37))))))))))))))))))))))))))))))))))))
theorem zbs_X5_shareByDrops_37 {X : zCt} (hR : zRX X = { frames := 1, cells := 0, slots := 0, locals := 23 }) (J : Nat → zPP) (hJ : ∀ h ∈ ([4, 37, 101] : List Nat), zSd X RX5 "shareByDrops" cX5_shareByDrops 6 none h (J h)) : zSd X RX5 "shareByDrops" cX5_shareByDrops 6 none 37 (zb_X5_shareByDrops_37 (zKX X) J) := zs_iload zd_X5_shareByDrops_37 (zs_aload_n zd_X5_shareByDrops_39 rfl (zs_getI (ci := 5) (j := 10) (T := TX5) rfl inX5 (by decide) gw_1_126 rfl zd_X5_shareByDrops_40 (zs_icmp_ge (tgt := 98) zd_X5_shareByDrops_43 (by decide) (zs_iconst zd_X5_shareByDrops_98 (by decide) (zs_istore zd_X5_shareByDrops_99 (by decide) (hJ 101 (by decide)))) (zs_aload_n zd_X5_shareByDrops_46 rfl (zs_getR (ci := 5) (j := 8) (T := TX5) rfl inX5 (by decide) gw_1_124 rfl zd_X5_shareByDrops_47 (zs_iload zd_X5_shareByDrops_50 (zs_iload_n zd_X5_shareByDrops_52 rfl (zs_aload_n zd_X5_shareByDrops_53 rfl (zs_getR (ci := 5) (j := 7) (T := TX5) rfl inX5 (by decide) gw_1_123 rfl zd_X5_shareByDrops_54 (zs_iload zd_X5_shareByDrops_57 (zs_iald zd_X5_shareByDrops_59 (zs_imul zd_X5_shareByDrops_60 (zs_iload_n zd_X5_shareByDrops_61 rfl (zs_idiv zd_X5_shareByDrops_62 (zs_iast zd_X5_shareByDrops_63 (zs_aload_n zd_X5_shareByDrops_64 rfl (zs_getR (ci := 5) (j := 9) (T := TX5) rfl inX5 (by decide) gw_1_125 rfl zd_X5_shareByDrops_65 (zs_iload zd_X5_shareByDrops_68 (zs_iload_n zd_X5_shareByDrops_70 rfl (zs_aload_n zd_X5_shareByDrops_71 rfl (zs_getR (ci := 5) (j := 7) (T := TX5) rfl inX5 (by decide) gw_1_123 rfl zd_X5_shareByDrops_72 (zs_iload zd_X5_shareByDrops_75 (zs_iald zd_X5_shareByDrops_77 (zs_imul zd_X5_shareByDrops_78 (zs_iload_n zd_X5_shareByDrops_79 rfl (zs_irem zd_X5_shareByDrops_80 (zs_iast zd_X5_shareByDrops_81 (zs_iload_n zd_X5_shareByDrops_82 rfl (zs_aload_n zd_X5_shareByDrops_83 rfl (zs_getR (ci := 5) (j := 8) (T := TX5) rfl inX5 (by decide) gw_1_124 rfl zd_X5_shareByDrops_84 (zs_iload zd_X5_shareByDrops_87 (zs_iald zd_X5_shareByDrops_89 (zs_isub zd_X5_shareByDrops_90 (zs_istore_n zd_X5_shareByDrops_91 rfl (by decide) (zs_iinc zd_X5_shareByDrops_92 (by decide) (by decide) (zs_goto (tgt := 37) zd_X5_shareByDrops_95 (by decide) (hJ 37 (by decide))))))))))))))))))))))))))))))))))))))
def zb_X5_shareByDrops_101 (K : zKt) (J : Nat → zPP) : zPP := zT_ild 4 (zT_ild 3 (zT_if2 (fun x y => y ≤ x) (zT_vret K) (zT_ald 0 (zT_ald 0 (zT_getR 5 9 11 (zT_V1 zok 5 11 zc_X5_firstGreatest (zT_ist 5 (zT_ald 0 (zT_getR 5 8 11 (zT_ild 5 (zT_dup2 (zT_ald0 0 (zT_push (.int 1) (zT_bin (fun x y => x + y) (zT_iast (zT_ald 0 (zT_getR 5 9 11 (zT_ild 5 (zT_push (.int (-1)) (zT_iast (zT_iinc 4 1 (J 101))))))))))))))))))))))
theorem zbs_X5_shareByDrops_101 {X : zCt} (hR : zRX X = { frames := 1, cells := 0, slots := 0, locals := 23 }) (J : Nat → zPP) (hJ : ∀ h ∈ ([4, 37, 101] : List Nat), zSd X RX5 "shareByDrops" cX5_shareByDrops 6 none h (J h)) : zSd X RX5 "shareByDrops" cX5_shareByDrops 6 none 101 (zb_X5_shareByDrops_101 (zKX X) J) := zs_iload zd_X5_shareByDrops_101 (zs_iload_n zd_X5_shareByDrops_103 rfl (zs_icmp_ge (tgt := 142) zd_X5_shareByDrops_104 (by decide) (zs_vret rfl zd_X5_shareByDrops_142) (zs_aload_n zd_X5_shareByDrops_107 rfl (zs_aload_n zd_X5_shareByDrops_108 rfl (zs_getR (ci := 5) (j := 9) (T := TX5) rfl inX5 (by decide) gw_1_125 rfl zd_X5_shareByDrops_109 (zs_V (ci := 5) rfl rfl (zm_X5_firstGreatest _ _ _) gw_3_6 gw_3_3 gw_3_5 gw_0_18 gw_1_5 zdn_X5_firstGreatest (zrm hR (by decide) (by decide)) zd_X5_shareByDrops_112 (zCl_V1 zok_l) (zs_istore zd_X5_shareByDrops_115 (by decide) (zs_aload_n zd_X5_shareByDrops_117 rfl (zs_getR (ci := 5) (j := 8) (T := TX5) rfl inX5 (by decide) gw_1_124 rfl zd_X5_shareByDrops_118 (zs_iload zd_X5_shareByDrops_121 (zs_dup2 zd_X5_shareByDrops_123 (zs_iald zd_X5_shareByDrops_124 (zs_iconst zd_X5_shareByDrops_125 (by decide) (zs_iadd zd_X5_shareByDrops_126 (zs_iast zd_X5_shareByDrops_127 (zs_aload_n zd_X5_shareByDrops_128 rfl (zs_getR (ci := 5) (j := 9) (T := TX5) rfl inX5 (by decide) gw_1_125 rfl zd_X5_shareByDrops_129 (zs_iload zd_X5_shareByDrops_132 (zs_iconst zd_X5_shareByDrops_134 (by decide) (zs_iast zd_X5_shareByDrops_135 (zs_iinc zd_X5_shareByDrops_136 (by decide) (by decide) (zs_goto (tgt := 101) zd_X5_shareByDrops_139 (by decide) (hJ 101 (by decide))))))))))))))))))))))))
def zB_X5_shareByDrops (K : zKt) (J : Nat → zPP) (h : Nat) : zPP := if h = 4 then zb_X5_shareByDrops_4 K J else if h = 37 then zb_X5_shareByDrops_37 K J else if h = 101 then zb_X5_shareByDrops_101 K J else (fun _ _ _ => False)
theorem zBs_X5_shareByDrops {X : zCt} (hR : zRX X = { frames := 1, cells := 0, slots := 0, locals := 23 }) : ∀ J : Nat → zPP, (∀ h ∈ ([4, 37, 101] : List Nat), zSd X RX5 "shareByDrops" cX5_shareByDrops 6 none h (J h)) → ∀ h ∈ ([4, 37, 101] : List Nat), zSd X RX5 "shareByDrops" cX5_shareByDrops 6 none h (zB_X5_shareByDrops (zKX X) J h) := by
  intro J hJ h hh
  unfold zB_X5_shareByDrops
  simp only [List.mem_cons, List.not_mem_nil, or_false] at hh
  rcases hh with rfl | rfl | rfl
  · exact zbs_X5_shareByDrops_4 hR J hJ
  · exact zbs_X5_shareByDrops_37 hR J hJ
  · exact zbs_X5_shareByDrops_101 hR J hJ
theorem zdn_X5_shareByDrops : yX5_shareByDrops.cls ≠ "java/lang/invoke/MethodHandle" ∧ yX5_shareByDrops.cls ≠ "java/lang/invoke/VarHandle" ∧ (parseMethodDescriptor yX5_shareByDrops.desc).map (fun d => d.parameters.length) = some 1 := by decide +kernel
/-! DeltaRuns$Water pour -/
theorem zd_X5_pour_0 : decode cX5_pour 0 = .ok (.iload_n 2, 1) := by decide +kernel
theorem zd_X5_pour_1 : decode cX5_pour 1 = .ok (.ifCond .le 83, 3) := by decide +kernel
theorem zd_X5_pour_4 : decode cX5_pour 4 = .ok (.aload_n 0, 1) := by decide +kernel
theorem zd_X5_pour_5 : decode cX5_pour 5 = .ok (.getfield 19, 3) := by decide +kernel
theorem zd_X5_pour_8 : decode cX5_pour 8 = .ok (.iload_n 1, 1) := by decide +kernel
theorem zd_X5_pour_9 : decode cX5_pour 9 = .ok (.iaload, 1) := by decide +kernel
theorem zd_X5_pour_10 : decode cX5_pour 10 = .ok (.ifCond .ne 74, 3) := by decide +kernel
theorem zd_X5_pour_13 : decode cX5_pour 13 = .ok (.aload_n 0, 1) := by decide +kernel
theorem zd_X5_pour_14 : decode cX5_pour 14 = .ok (.getfield 56, 3) := by decide +kernel
theorem zd_X5_pour_17 : decode cX5_pour 17 = .ok (.bipush 120, 2) := by decide +kernel
theorem zd_X5_pour_19 : decode cX5_pour 19 = .ok (.if_icmp .ge 65, 3) := by decide +kernel
theorem zd_X5_pour_22 : decode cX5_pour 22 = .ok (.aload_n 0, 1) := by decide +kernel
theorem zd_X5_pour_23 : decode cX5_pour 23 = .ok (.getfield 56, 3) := by decide +kernel
theorem zd_X5_pour_26 : decode cX5_pour 26 = .ok (.istore_n 3, 1) := by decide +kernel
theorem zd_X5_pour_27 : decode cX5_pour 27 = .ok (.iload_n 3, 1) := by decide +kernel
theorem zd_X5_pour_28 : decode cX5_pour 28 = .ok (.ifCond .le 39, 3) := by decide +kernel
theorem zd_X5_pour_31 : decode cX5_pour 31 = .ok (.aload_n 0, 1) := by decide +kernel
theorem zd_X5_pour_32 : decode cX5_pour 32 = .ok (.iload_n 1, 1) := by decide +kernel
theorem zd_X5_pour_33 : decode cX5_pour 33 = .ok (.aload_n 0, 1) := by decide +kernel
theorem zd_X5_pour_34 : decode cX5_pour 34 = .ok (.getfield 25, 3) := by decide +kernel
theorem zd_X5_pour_37 : decode cX5_pour 37 = .ok (.iload_n 3, 1) := by decide +kernel
theorem zd_X5_pour_38 : decode cX5_pour 38 = .ok (.iconst 1, 1) := by decide +kernel
theorem zd_X5_pour_39 : decode cX5_pour 39 = .ok (.isub, 1) := by decide +kernel
theorem zd_X5_pour_40 : decode cX5_pour 40 = .ok (.iaload, 1) := by decide +kernel
theorem zd_X5_pour_41 : decode cX5_pour 41 = .ok (.invokevirtual 106, 3) := by decide +kernel
theorem zd_X5_pour_44 : decode cX5_pour 44 = .ok (.ifCond .eq 23, 3) := by decide +kernel
theorem zd_X5_pour_47 : decode cX5_pour 47 = .ok (.aload_n 0, 1) := by decide +kernel
theorem zd_X5_pour_48 : decode cX5_pour 48 = .ok (.getfield 25, 3) := by decide +kernel
theorem zd_X5_pour_51 : decode cX5_pour 51 = .ok (.iload_n 3, 1) := by decide +kernel
theorem zd_X5_pour_52 : decode cX5_pour 52 = .ok (.aload_n 0, 1) := by decide +kernel
theorem zd_X5_pour_53 : decode cX5_pour 53 = .ok (.getfield 25, 3) := by decide +kernel
theorem zd_X5_pour_56 : decode cX5_pour 56 = .ok (.iload_n 3, 1) := by decide +kernel
theorem zd_X5_pour_57 : decode cX5_pour 57 = .ok (.iconst 1, 1) := by decide +kernel
theorem zd_X5_pour_58 : decode cX5_pour 58 = .ok (.isub, 1) := by decide +kernel
theorem zd_X5_pour_59 : decode cX5_pour 59 = .ok (.iaload, 1) := by decide +kernel
theorem zd_X5_pour_60 : decode cX5_pour 60 = .ok (.iastore, 1) := by decide +kernel
theorem zd_X5_pour_61 : decode cX5_pour 61 = .ok (.iinc 3 (-1), 3) := by decide +kernel
theorem zd_X5_pour_64 : decode cX5_pour 64 = .ok (.goto (-37), 3) := by decide +kernel
theorem zd_X5_pour_67 : decode cX5_pour 67 = .ok (.aload_n 0, 1) := by decide +kernel
theorem zd_X5_pour_68 : decode cX5_pour 68 = .ok (.getfield 25, 3) := by decide +kernel
theorem zd_X5_pour_71 : decode cX5_pour 71 = .ok (.iload_n 3, 1) := by decide +kernel
theorem zd_X5_pour_72 : decode cX5_pour 72 = .ok (.iload_n 1, 1) := by decide +kernel
theorem zd_X5_pour_73 : decode cX5_pour 73 = .ok (.iastore, 1) := by decide +kernel
theorem zd_X5_pour_74 : decode cX5_pour 74 = .ok (.aload_n 0, 1) := by decide +kernel
theorem zd_X5_pour_75 : decode cX5_pour 75 = .ok (.dup, 1) := by decide +kernel
theorem zd_X5_pour_76 : decode cX5_pour 76 = .ok (.getfield 56, 3) := by decide +kernel
theorem zd_X5_pour_79 : decode cX5_pour 79 = .ok (.iconst 1, 1) := by decide +kernel
theorem zd_X5_pour_80 : decode cX5_pour 80 = .ok (.iadd, 1) := by decide +kernel
theorem zd_X5_pour_81 : decode cX5_pour 81 = .ok (.putfield 56, 3) := by decide +kernel
theorem zd_X5_pour_84 : decode cX5_pour 84 = .ok (.aload_n 0, 1) := by decide +kernel
theorem zd_X5_pour_85 : decode cX5_pour 85 = .ok (.getfield 19, 3) := by decide +kernel
theorem zd_X5_pour_88 : decode cX5_pour 88 = .ok (.iload_n 1, 1) := by decide +kernel
theorem zd_X5_pour_89 : decode cX5_pour 89 = .ok (.dup2, 1) := by decide +kernel
theorem zd_X5_pour_90 : decode cX5_pour 90 = .ok (.iaload, 1) := by decide +kernel
theorem zd_X5_pour_91 : decode cX5_pour 91 = .ok (.iload_n 2, 1) := by decide +kernel
theorem zd_X5_pour_92 : decode cX5_pour 92 = .ok (.iadd, 1) := by decide +kernel
theorem zd_X5_pour_93 : decode cX5_pour 93 = .ok (.iastore, 1) := by decide +kernel
theorem zd_X5_pour_94 : decode cX5_pour 94 = .ok (.return_, 1) := by decide +kernel
def zb_X5_pour_84 (K : zKt) (J : Nat → zPP) : zPP := zT_ald 0 (zT_getR 5 2 11 (zT_ild 1 (zT_dup2 (zT_ald0 0 (zT_ild 2 (zT_bin (fun x y => x + y) (zT_iast (zT_vret K))))))))
theorem zbs_X5_pour_84 {X : zCt} (hR : zRX X = { frames := 1, cells := 0, slots := 0, locals := 22 }) (J : Nat → zPP) (hJ : ∀ h ∈ ([27] : List Nat), zSd X RX5 "pour" cX5_pour 4 none h (J h)) : zSd X RX5 "pour" cX5_pour 4 none 84 (zb_X5_pour_84 (zKX X) J) := zs_aload_n zd_X5_pour_84 rfl (zs_getR (ci := 5) (j := 2) (T := TX5) rfl inX5 (by decide) gw_1_117 rfl zd_X5_pour_85 (zs_iload_n zd_X5_pour_88 rfl (zs_dup2 zd_X5_pour_89 (zs_iald zd_X5_pour_90 (zs_iload_n zd_X5_pour_91 rfl (zs_iadd zd_X5_pour_92 (zs_iast zd_X5_pour_93 (zs_vret rfl zd_X5_pour_94))))))))
def zb_X5_pour_0 (K : zKt) (J : Nat → zPP) : zPP := zT_ild 2 (zT_if1 (fun x => x ≤ 0) (zb_X5_pour_84 K J) (zT_ald 0 (zT_getR 5 2 11 (zT_ild 1 (zT_ald0 0 (zT_if1 (fun x => x = 0) (zT_ald 0 (zT_getI 5 5 11 (zT_push (.int 120) (zT_if2 (fun x y => y ≤ x) (zb_X5_pour_84 K J) (zT_ald 0 (zT_getI 5 5 11 (zT_ist 3 (J 27)))))))) (zb_X5_pour_84 K J)))))))
theorem zbs_X5_pour_0 {X : zCt} (hR : zRX X = { frames := 1, cells := 0, slots := 0, locals := 22 }) (J : Nat → zPP) (hJ : ∀ h ∈ ([27] : List Nat), zSd X RX5 "pour" cX5_pour 4 none h (J h)) : zSd X RX5 "pour" cX5_pour 4 none 0 (zb_X5_pour_0 (zKX X) J) := zs_iload_n zd_X5_pour_0 rfl (zs_if_le (tgt := 84) zd_X5_pour_1 (by decide) (zbs_X5_pour_84 hR J hJ) (zs_aload_n zd_X5_pour_4 rfl (zs_getR (ci := 5) (j := 2) (T := TX5) rfl inX5 (by decide) gw_1_117 rfl zd_X5_pour_5 (zs_iload_n zd_X5_pour_8 rfl (zs_iald zd_X5_pour_9 (zs_if_ne (tgt := 84) zd_X5_pour_10 (by decide) (zbs_X5_pour_84 hR J hJ) (zs_aload_n zd_X5_pour_13 rfl (zs_getI (ci := 5) (j := 5) (T := TX5) rfl inX5 (by decide) gw_1_121 rfl zd_X5_pour_14 (zs_bipush zd_X5_pour_17 (by decide) (zs_icmp_ge (tgt := 84) zd_X5_pour_19 (by decide) (zbs_X5_pour_84 hR J hJ) (zs_aload_n zd_X5_pour_22 rfl (zs_getI (ci := 5) (j := 5) (T := TX5) rfl inX5 (by decide) gw_1_121 rfl zd_X5_pour_23 (zs_istore_n zd_X5_pour_26 rfl (by decide) (hJ 27 (by decide)))))))))))))))
def zb_X5_pour_67 (K : zKt) (J : Nat → zPP) : zPP := zT_ald 0 (zT_getR 5 4 11 (zT_ild 3 (zT_ild 1 (zT_iast (zT_ald 0 (zT_dup (zT_getI 5 5 11 (zT_push (.int 1) (zT_bin (fun x y => x + y) (zT_putI 5 5 11 (zb_X5_pour_84 K J)))))))))))
theorem zbs_X5_pour_67 {X : zCt} (hR : zRX X = { frames := 1, cells := 0, slots := 0, locals := 22 }) (J : Nat → zPP) (hJ : ∀ h ∈ ([27] : List Nat), zSd X RX5 "pour" cX5_pour 4 none h (J h)) : zSd X RX5 "pour" cX5_pour 4 none 67 (zb_X5_pour_67 (zKX X) J) := zs_aload_n zd_X5_pour_67 rfl (zs_getR (ci := 5) (j := 4) (T := TX5) rfl inX5 (by decide) gw_1_120 rfl zd_X5_pour_68 (zs_iload_n zd_X5_pour_71 rfl (zs_iload_n zd_X5_pour_72 rfl (zs_iast zd_X5_pour_73 (zs_aload_n zd_X5_pour_74 rfl (zs_dup zd_X5_pour_75 (zs_getI (ci := 5) (j := 5) (T := TX5) rfl inX5 (by decide) gw_1_121 rfl zd_X5_pour_76 (zs_iconst zd_X5_pour_79 (by decide) (zs_iadd zd_X5_pour_80 (zs_putI (ci := 5) (j := 5) (T := TX5) rfl inX5 tyX5_ok nmX5 (by decide) gw_1_121 rfl rfl rfl zd_X5_pour_81 (zbs_X5_pour_84 hR J hJ)))))))))))
def zb_X5_pour_27 (K : zKt) (J : Nat → zPP) : zPP := zT_ild 3 (zT_if1 (fun x => x ≤ 0) (zb_X5_pour_67 K J) (zT_ald 0 (zT_ild 1 (zT_ald 0 (zT_getR 5 4 11 (zT_ild 3 (zT_push (.int 1) (zT_bin (fun x y => x - y) (zT_ald0 0 (zT_V2 zok 5 11 zc_X5_goesAhead (zT_if1 (fun x => x = 0) (zb_X5_pour_67 K J) (zT_ald 0 (zT_getR 5 4 11 (zT_ild 3 (zT_ald 0 (zT_getR 5 4 11 (zT_ild 3 (zT_push (.int 1) (zT_bin (fun x y => x - y) (zT_ald0 0 (zT_iast (zT_iinc 3 (-1) (J 27)))))))))))))))))))))))
theorem zbs_X5_pour_27 {X : zCt} (hR : zRX X = { frames := 1, cells := 0, slots := 0, locals := 22 }) (J : Nat → zPP) (hJ : ∀ h ∈ ([27] : List Nat), zSd X RX5 "pour" cX5_pour 4 none h (J h)) : zSd X RX5 "pour" cX5_pour 4 none 27 (zb_X5_pour_27 (zKX X) J) := zs_iload_n zd_X5_pour_27 rfl (zs_if_le (tgt := 67) zd_X5_pour_28 (by decide) (zbs_X5_pour_67 hR J hJ) (zs_aload_n zd_X5_pour_31 rfl (zs_iload_n zd_X5_pour_32 rfl (zs_aload_n zd_X5_pour_33 rfl (zs_getR (ci := 5) (j := 4) (T := TX5) rfl inX5 (by decide) gw_1_120 rfl zd_X5_pour_34 (zs_iload_n zd_X5_pour_37 rfl (zs_iconst zd_X5_pour_38 (by decide) (zs_isub zd_X5_pour_39 (zs_iald zd_X5_pour_40 (zs_V (ci := 5) rfl rfl (zm_X5_goesAhead _ _ _) gw_2_224 gw_2_221 gw_2_223 gw_0_14 gw_1_5 zdn_X5_goesAhead (zrm hR (by decide) (by decide)) zd_X5_pour_41 (zCl_V2 zok_l) (zs_if_eq (tgt := 67) zd_X5_pour_44 (by decide) (zbs_X5_pour_67 hR J hJ) (zs_aload_n zd_X5_pour_47 rfl (zs_getR (ci := 5) (j := 4) (T := TX5) rfl inX5 (by decide) gw_1_120 rfl zd_X5_pour_48 (zs_iload_n zd_X5_pour_51 rfl (zs_aload_n zd_X5_pour_52 rfl (zs_getR (ci := 5) (j := 4) (T := TX5) rfl inX5 (by decide) gw_1_120 rfl zd_X5_pour_53 (zs_iload_n zd_X5_pour_56 rfl (zs_iconst zd_X5_pour_57 (by decide) (zs_isub zd_X5_pour_58 (zs_iald zd_X5_pour_59 (zs_iast zd_X5_pour_60 (zs_iinc zd_X5_pour_61 (by decide) (by decide) (zs_goto (tgt := 27) zd_X5_pour_64 (by decide) (hJ 27 (by decide)))))))))))))))))))))))))
def zB_X5_pour (K : zKt) (J : Nat → zPP) (h : Nat) : zPP := if h = 27 then zb_X5_pour_27 K J else (fun _ _ _ => False)
theorem zBs_X5_pour {X : zCt} (hR : zRX X = { frames := 1, cells := 0, slots := 0, locals := 22 }) : ∀ J : Nat → zPP, (∀ h ∈ ([27] : List Nat), zSd X RX5 "pour" cX5_pour 4 none h (J h)) → ∀ h ∈ ([27] : List Nat), zSd X RX5 "pour" cX5_pour 4 none h (zB_X5_pour (zKX X) J h) := by
  intro J hJ h hh
  unfold zB_X5_pour
  simp only [List.mem_cons, List.not_mem_nil, or_false] at hh
  subst hh
  exact zbs_X5_pour_27 hR J hJ
theorem zdn_X5_pour : yX5_pour.cls ≠ "java/lang/invoke/MethodHandle" ∧ yX5_pour.cls ≠ "java/lang/invoke/VarHandle" ∧ (parseMethodDescriptor yX5_pour.desc).map (fun d => d.parameters.length) = some 2 := by decide +kernel
/-! WATER: the three ways to share -/
theorem zn_ge {a b : Nat} (h : ¬ nI b ≤ nI a) (ha : a < 2 ^ 31) (hb : b < 2 ^ 31) : a < b := by
  rcases Nat.lt_or_ge a b with q | q
  · exact q
  · exact absurd (nI_le q ha) h
theorem zn_ge' {a b : Nat} (h : nI b ≤ nI a) (ha : a < 2 ^ 31) (hb : b < 2 ^ 31) : b ≤ a := (nI_leI hb ha).mp h
def zc_X5_shareToLowest (a : List Value) (M : zMm) (K : zKt) : Prop := match a with
  | [.ref k, .int x] => k = 10 ∧ zxw M ∧ ∃ n, n ≤ 4 ∧ M.2.1 10 10 = nI n ∧ ∀ M', zsm [18] M M' → (∀ i, i < n → M'.2.1 18 i = if i = zfg (M.2.1 17) n then x else 0) → K none M'
  | _ => False
theorem zm_X5_shareToLowest (l : Launch) (D : va_G) (Y : Nat → ClassId) : zMt l D Y yX5_shareToLowest cX5_shareToLowest 4 none 1 23 0 0 zc_X5_shareToLowest := by
  refine zwhile1 (h0 := 11) (by decide) (fun K J _ _ => zb_X5_shareToLowest_0 K J) (fun K _ _ J => zb_X5_shareToLowest_11 K J) (fun X hR J hJ => zbs_X5_shareToLowest_0 hR J hJ) (fun X hR J hJ => zbs_X5_shareToLowest_11 hR J hJ) (fun avs M K h => ?_)
  unfold zc_X5_shareToLowest at h
  split at h
  · next k x =>
    obtain ⟨rfl, hx, n, hn, hw, h⟩ := h
    have hfg := zfg_le (M.2.1 17) n
    refine ⟨by simp [zent], fun q M' ls st => ∃ i, q = 4 - i ∧ i ≤ n ∧ ls = [some (.ref 10), some (.int x), some (.int (nI (zfg (M.2.1 17) n))), some (.int (nI i))] ∧ st = [] ∧ zsm [18] M M' ∧ (∀ j, j < i → M'.2.1 18 j = if j = zfg (M.2.1 17) n then x else 0), ?_, ?_⟩
    · rintro q J hJ M' ls st ⟨i, rfl, hi, rfl, rfl, hs, hc⟩
      have h10 : M'.2.1 10 = M.2.1 10 := hs.2.2 10 (by simp)
      obtain ⟨x0, x1, x2, x3, x4, x5, x6, x7, x8⟩ := hx.to hs
      simp only [zb_X5_shareToLowest_11, zsh_10, x7, h10, hw, zT_push, zT_bin, zT_div, zT_bil, zT_shl, zT_un, zT_i2l, zT_l2i, zT_lcmp, zT_ild, zT_lld, zT_ald, zT_ist, zT_lst, zT_ast, zT_iinc, zT_dup, zT_dup2, zT_pop, zT_if1, zT_if2, zT_ifn, zT_getI, zT_getJ, zT_getR, zT_putI, zT_putZ, zT_putJ, zT_putR, zT_ald0, zT_lald, zT_aald, zT_iast, zT_zast, zT_bast, zT_last, zT_aast, zT_iret, zT_nret, zT_aret, zT_vret, zT_oi, zT_mm, zT_ialX, zT_S1, zT_S2, zT_S3, zT_V0, zT_V1, zT_V2, zT_V3, zT_V4, zT_V5, zT_V6, zT_I0, zT_I1, zT_I2, zlg, zlset, zlpr, zent, zok, va_rf, List.length_cons, List.length_nil, List.replicate, List.cons_append, List.nil_append, List.append_nil, Option.toList_some, Option.toList_none, Option.toList, Nat.reduceAdd, Nat.reduceSub, Nat.reduceLeDiff, Nat.zero_add, Nat.zero_le, true_and, and_true, Nat.le_refl, ge_iff_le, Nat.reduceEqDiff]
      refine ⟨fun h1 => ?_, fun h1 => ?_⟩
      · have := zn_ge' h1 (by omega) (by omega)
        have e : i = n := by omega
        subst e
        exact h M' hs hc
      · have hlt := zn_ge h1 (by omega) (by omega)
        have key : ∀ v, v = (if i = zfg (M.2.1 17) n then x else 0) → zb_X5_shareToLowest_34 K J M' [some (.ref 10), some (.int x), some (.int (nI (zfg (M.2.1 17) n))), some (.int (nI i))] [.int v, .int (nI i), .ref 18] := by
          intro v hv
          simp only [zb_X5_shareToLowest_34, zsh_18, zT_push, zT_bin, zT_div, zT_bil, zT_shl, zT_un, zT_i2l, zT_l2i, zT_lcmp, zT_ild, zT_lld, zT_ald, zT_ist, zT_lst, zT_ast, zT_iinc, zT_dup, zT_dup2, zT_pop, zT_if1, zT_if2, zT_ifn, zT_getI, zT_getJ, zT_getR, zT_putI, zT_putZ, zT_putJ, zT_putR, zT_ald0, zT_lald, zT_aald, zT_iast, zT_zast, zT_bast, zT_last, zT_aast, zT_iret, zT_nret, zT_aret, zT_vret, zT_oi, zT_mm, zT_ialX, zT_S1, zT_S2, zT_S3, zT_V0, zT_V1, zT_V2, zT_V3, zT_V4, zT_V5, zT_V6, zT_I0, zT_I1, zT_I2, zlg, zlset, zlpr, zent, zok, va_rf, List.length_cons, List.length_nil, List.replicate, List.cons_append, List.nil_append, List.append_nil, Option.toList_some, Option.toList_none, Option.toList, Nat.reduceAdd, Nat.reduceSub, Nat.reduceLeDiff, Nat.zero_add, Nat.zero_le, true_and, and_true, Nat.le_refl, ge_iff_le, Nat.reduceEqDiff]
          refine ⟨vp_in_nI (by omega) (by decide), hJ (4 - (i + 1)) _ _ _ (by omega) ⟨i + 1, rfl, hlt, by rw [nI_1], rfl, hs.w (by simp), fun j hj => ?_⟩⟩
          rw [nI_clamp (by omega)]
          simp only [zwI_L, zwI_I, zwI_J, zwI_R, zwJ_L, zwJ_I, zwJ_J, zwJ_R, zwR_L, zwR_I, zwR_J, zwR_R, zw2_s, zw2_n, ne_eq, not_false_eq_true, reduceCtorEq, not_true_eq_false, Nat.reduceEqDiff, zup_at]
          by_cases e : j = i
          · rw [if_pos e, e, hv]
          · rw [if_neg e]
            exact hc j (by omega)
        refine ⟨fun h2 => key _ ?_, fun h2 => key _ ?_⟩
        · rw [if_pos ((nI_eq (by omega) (by omega)).mp h2)]
        · rw [if_neg (fun e => h2 (by rw [e]))]
    · intro J hJ
      obtain ⟨x0, x1, x2, x3, x4, x5, x6, x7, x8⟩ := hx
      simp only [zb_X5_shareToLowest_0, zsh_10, x6, zT_push, zT_bin, zT_div, zT_bil, zT_shl, zT_un, zT_i2l, zT_l2i, zT_lcmp, zT_ild, zT_lld, zT_ald, zT_ist, zT_lst, zT_ast, zT_iinc, zT_dup, zT_dup2, zT_pop, zT_if1, zT_if2, zT_ifn, zT_getI, zT_getJ, zT_getR, zT_putI, zT_putZ, zT_putJ, zT_putR, zT_ald0, zT_lald, zT_aald, zT_iast, zT_zast, zT_bast, zT_last, zT_aast, zT_iret, zT_nret, zT_aret, zT_vret, zT_oi, zT_mm, zT_ialX, zT_S1, zT_S2, zT_S3, zT_V0, zT_V1, zT_V2, zT_V3, zT_V4, zT_V5, zT_V6, zT_I0, zT_I1, zT_I2, zlg, zlset, zlpr, zent, zok, va_rf, List.length_cons, List.length_nil, List.replicate, List.cons_append, List.nil_append, List.append_nil, Option.toList_some, Option.toList_none, Option.toList, Nat.reduceAdd, Nat.reduceSub, Nat.reduceLeDiff, Nat.zero_add, Nat.zero_le, true_and, and_true, Nat.le_refl, ge_iff_le, Nat.reduceEqDiff]
      unfold zc_X5_firstGreatest
      dsimp only
      refine ⟨rfl, Or.inl rfl, n, hn, hw, ?_⟩
      try simp only [zT_push, zT_bin, zT_div, zT_bil, zT_shl, zT_un, zT_i2l, zT_l2i, zT_lcmp, zT_ild, zT_lld, zT_ald, zT_ist, zT_lst, zT_ast, zT_iinc, zT_dup, zT_dup2, zT_pop, zT_if1, zT_if2, zT_ifn, zT_getI, zT_getJ, zT_getR, zT_putI, zT_putZ, zT_putJ, zT_putR, zT_ald0, zT_lald, zT_aald, zT_iast, zT_zast, zT_bast, zT_last, zT_aast, zT_iret, zT_nret, zT_aret, zT_vret, zT_oi, zT_mm, zT_ialX, zT_S1, zT_S2, zT_S3, zT_V0, zT_V1, zT_V2, zT_V3, zT_V4, zT_V5, zT_V6, zT_I0, zT_I1, zT_I2, zlg, zlset, zlpr, zent, zok, va_rf, List.length_cons, List.length_nil, List.replicate, List.cons_append, List.nil_append, List.append_nil, Option.toList_some, Option.toList_none, Option.toList, Nat.reduceAdd, Nat.reduceSub, Nat.reduceLeDiff, Nat.zero_add, Nat.zero_le, true_and, and_true, Nat.le_refl, ge_iff_le, Nat.reduceEqDiff]
      exact hJ 4 _ _ _ ⟨0, rfl, Nat.zero_le _, rfl, rfl, zsm.rf, fun j hj => absurd hj (Nat.not_lt_zero _)⟩
  · exact h.elim
def zc_X5_shareEvenly (a : List Value) (M : zMm) (K : zKt) : Prop := match a with
  | [.ref k, .int x] => k = 10 ∧ zxw M ∧ ∃ n f, n ≤ 4 ∧ M.2.1 10 10 = nI n ∧ x = nI f ∧ f < 100000 ∧ ∀ M', zsm [18] M M' → (∀ i, i < n → M'.2.1 18 i = nI (f / n + if i < f % n then 1 else 0)) → K none M'
  | _ => False
theorem zm_X5_shareEvenly (l : Launch) (D : va_G) (Y : Nat → ClassId) : zMt l D Y yX5_shareEvenly cX5_shareEvenly 3 none 0 0 0 0 zc_X5_shareEvenly := by
  refine zwhile1 (h0 := 9) (by decide) (fun K J _ _ => zb_X5_shareEvenly_0 K J) (fun K _ _ J => zb_X5_shareEvenly_9 K J) (fun X hR J hJ => zbs_X5_shareEvenly_0 hR J hJ) (fun X hR J hJ => zbs_X5_shareEvenly_9 hR J hJ) (fun avs M K h => ?_)
  unfold zc_X5_shareEvenly at h
  split at h
  · next k x =>
    obtain ⟨rfl, hx, n, f, hn, hw, rfl, hf, h⟩ := h
    refine ⟨by simp [zent], fun q M' ls st => ∃ i, q = 4 - i ∧ 0 < n ∧ i ≤ n ∧ ls = [some (.ref 10), some (.int (nI f)), some (.int (nI i))] ∧ st = [] ∧ zsm [18] M M' ∧ (∀ j, j < i → M'.2.1 18 j = nI (f / n + if j < f % n then 1 else 0)), ?_, ?_⟩
    · rintro q J hJ M' ls st ⟨i, rfl, hn0, hi, rfl, rfl, hs, hc⟩
      have h10 : M'.2.1 10 = M.2.1 10 := hs.2.2 10 (by simp)
      have hdiv : f / n ≤ f := Nat.div_le_self _ _
      have hmod : f % n < n := Nat.mod_lt _ hn0
      obtain ⟨x0, x1, x2, x3, x4, x5, x6, x7, x8⟩ := hx.to hs
      simp only [zb_X5_shareEvenly_9, zsh_10, x7, h10, hw, zT_push, zT_bin, zT_div, zT_bil, zT_shl, zT_un, zT_i2l, zT_l2i, zT_lcmp, zT_ild, zT_lld, zT_ald, zT_ist, zT_lst, zT_ast, zT_iinc, zT_dup, zT_dup2, zT_pop, zT_if1, zT_if2, zT_ifn, zT_getI, zT_getJ, zT_getR, zT_putI, zT_putZ, zT_putJ, zT_putR, zT_ald0, zT_lald, zT_aald, zT_iast, zT_zast, zT_bast, zT_last, zT_aast, zT_iret, zT_nret, zT_aret, zT_vret, zT_oi, zT_mm, zT_ialX, zT_S1, zT_S2, zT_S3, zT_V0, zT_V1, zT_V2, zT_V3, zT_V4, zT_V5, zT_V6, zT_I0, zT_I1, zT_I2, zlg, zlset, zlpr, zent, zok, va_rf, List.length_cons, List.length_nil, List.replicate, List.cons_append, List.nil_append, List.append_nil, Option.toList_some, Option.toList_none, Option.toList, Nat.reduceAdd, Nat.reduceSub, Nat.reduceLeDiff, Nat.zero_add, Nat.zero_le, true_and, and_true, Nat.le_refl, ge_iff_le, Nat.reduceEqDiff]
      rw [pk_rem (a := f) (by omega) hn0 (by omega), pk_div (by omega) hn0 (by omega)]
      refine ⟨fun h1 => ?_, fun h1 => ?_⟩
      · have := zn_ge' h1 (by omega) (by omega)
        have e : i = n := by omega
        subst e
        simp only [zb_X5_shareEvenly_51, zT_push, zT_bin, zT_div, zT_bil, zT_shl, zT_un, zT_i2l, zT_l2i, zT_lcmp, zT_ild, zT_lld, zT_ald, zT_ist, zT_lst, zT_ast, zT_iinc, zT_dup, zT_dup2, zT_pop, zT_if1, zT_if2, zT_ifn, zT_getI, zT_getJ, zT_getR, zT_putI, zT_putZ, zT_putJ, zT_putR, zT_ald0, zT_lald, zT_aald, zT_iast, zT_zast, zT_bast, zT_last, zT_aast, zT_iret, zT_nret, zT_aret, zT_vret, zT_oi, zT_mm, zT_ialX, zT_S1, zT_S2, zT_S3, zT_V0, zT_V1, zT_V2, zT_V3, zT_V4, zT_V5, zT_V6, zT_I0, zT_I1, zT_I2, zlg, zlset, zlpr, zent, zok, va_rf, List.length_cons, List.length_nil, List.replicate, List.cons_append, List.nil_append, List.append_nil, Option.toList_some, Option.toList_none, Option.toList, Nat.reduceAdd, Nat.reduceSub, Nat.reduceLeDiff, Nat.zero_add, Nat.zero_le, true_and, and_true, Nat.le_refl, ge_iff_le, Nat.reduceEqDiff]
        exact h M' hs hc
      · have hlt := zn_ge h1 (by omega) (by omega)
        have hne : ¬ nI n = 0 := nI_ne0 hn0 (by omega)
        have key : ∀ v, nI (f / n) + v = nI (f / n + if i < f % n then 1 else 0) → zb_X5_shareEvenly_43 K J M' [some (.ref 10), some (.int (nI f)), some (.int (nI i))] [.int v, .int (nI (f / n)), .int (nI i), .ref 18] := by
          intro v hv
          simp only [zb_X5_shareEvenly_43, zsh_18, zT_push, zT_bin, zT_div, zT_bil, zT_shl, zT_un, zT_i2l, zT_l2i, zT_lcmp, zT_ild, zT_lld, zT_ald, zT_ist, zT_lst, zT_ast, zT_iinc, zT_dup, zT_dup2, zT_pop, zT_if1, zT_if2, zT_ifn, zT_getI, zT_getJ, zT_getR, zT_putI, zT_putZ, zT_putJ, zT_putR, zT_ald0, zT_lald, zT_aald, zT_iast, zT_zast, zT_bast, zT_last, zT_aast, zT_iret, zT_nret, zT_aret, zT_vret, zT_oi, zT_mm, zT_ialX, zT_S1, zT_S2, zT_S3, zT_V0, zT_V1, zT_V2, zT_V3, zT_V4, zT_V5, zT_V6, zT_I0, zT_I1, zT_I2, zlg, zlset, zlpr, zent, zok, va_rf, List.length_cons, List.length_nil, List.replicate, List.cons_append, List.nil_append, List.append_nil, Option.toList_some, Option.toList_none, Option.toList, Nat.reduceAdd, Nat.reduceSub, Nat.reduceLeDiff, Nat.zero_add, Nat.zero_le, true_and, and_true, Nat.le_refl, ge_iff_le, Nat.reduceEqDiff]
          refine ⟨vp_in_nI (by omega) (by decide), hJ (4 - (i + 1)) _ _ _ (by omega) ⟨i + 1, rfl, hn0, hlt, by rw [nI_1], rfl, hs.w (by simp), fun j hj => ?_⟩⟩
          rw [nI_clamp (by omega)]
          simp only [zwI_L, zwI_I, zwI_J, zwI_R, zwJ_L, zwJ_I, zwJ_J, zwJ_R, zwR_L, zwR_I, zwR_J, zwR_R, zw2_s, zw2_n, ne_eq, not_false_eq_true, reduceCtorEq, not_true_eq_false, Nat.reduceEqDiff, zup_at]
          by_cases e : j = i
          · rw [if_pos e, e, hv]
          · rw [if_neg e]
            exact hc j (by omega)
        refine ⟨hne, hne, fun h2 => key _ ?_, fun h2 => key _ ?_⟩
        · have := zn_ge' h2 (by omega) (by omega)
          rw [if_neg (by omega)]
          exact (nI_add _ 0)
        · have := zn_ge h2 (by omega) (by omega)
          rw [if_pos this]
          exact (nI_add _ 1)
    · intro J hJ
      simp only [zb_X5_shareEvenly_0, zsh_10, hw, zT_push, zT_bin, zT_div, zT_bil, zT_shl, zT_un, zT_i2l, zT_l2i, zT_lcmp, zT_ild, zT_lld, zT_ald, zT_ist, zT_lst, zT_ast, zT_iinc, zT_dup, zT_dup2, zT_pop, zT_if1, zT_if2, zT_ifn, zT_getI, zT_getJ, zT_getR, zT_putI, zT_putZ, zT_putJ, zT_putR, zT_ald0, zT_lald, zT_aald, zT_iast, zT_zast, zT_bast, zT_last, zT_aast, zT_iret, zT_nret, zT_aret, zT_vret, zT_oi, zT_mm, zT_ialX, zT_S1, zT_S2, zT_S3, zT_V0, zT_V1, zT_V2, zT_V3, zT_V4, zT_V5, zT_V6, zT_I0, zT_I1, zT_I2, zlg, zlset, zlpr, zent, zok, va_rf, List.length_cons, List.length_nil, List.replicate, List.cons_append, List.nil_append, List.append_nil, Option.toList_some, Option.toList_none, Option.toList, Nat.reduceAdd, Nat.reduceSub, Nat.reduceLeDiff, Nat.zero_add, Nat.zero_le, true_and, and_true, Nat.le_refl, ge_iff_le, Nat.reduceEqDiff]
      refine ⟨fun h1 => ?_, fun h1 => ?_⟩
      · have := zn_ge' (a := 0) h1 (by omega) (by omega)
        simp only [zb_X5_shareEvenly_51, zT_push, zT_bin, zT_div, zT_bil, zT_shl, zT_un, zT_i2l, zT_l2i, zT_lcmp, zT_ild, zT_lld, zT_ald, zT_ist, zT_lst, zT_ast, zT_iinc, zT_dup, zT_dup2, zT_pop, zT_if1, zT_if2, zT_ifn, zT_getI, zT_getJ, zT_getR, zT_putI, zT_putZ, zT_putJ, zT_putR, zT_ald0, zT_lald, zT_aald, zT_iast, zT_zast, zT_bast, zT_last, zT_aast, zT_iret, zT_nret, zT_aret, zT_vret, zT_oi, zT_mm, zT_ialX, zT_S1, zT_S2, zT_S3, zT_V0, zT_V1, zT_V2, zT_V3, zT_V4, zT_V5, zT_V6, zT_I0, zT_I1, zT_I2, zlg, zlset, zlpr, zent, zok, va_rf, List.length_cons, List.length_nil, List.replicate, List.cons_append, List.nil_append, List.append_nil, Option.toList_some, Option.toList_none, Option.toList, Nat.reduceAdd, Nat.reduceSub, Nat.reduceLeDiff, Nat.zero_add, Nat.zero_le, true_and, and_true, Nat.le_refl, ge_iff_le, Nat.reduceEqDiff]
        exact h M zsm.rf (fun i hi => by omega)
      · have := zn_ge (a := 0) h1 (by omega) (by omega)
        exact hJ 4 _ _ _ ⟨0, rfl, by omega, Nat.zero_le _, rfl, rfl, zsm.rf, fun j hj => absurd hj (Nat.not_lt_zero _)⟩
  · exact h.elim
/-- i goes ahead of j among the rests g -/
def wah (g : Nat → Nat) (j : Nat) (i : Nat) : Bool := decide (g j < g i ∨ (g i = g j ∧ i < j))
/-- the share by drops: D are the drops of n ways, f flows -/
def wsd (D : Nat → Nat) (n f i : Nat) : Nat := f * D i / wsm D n + if wct (wah (fun j => f * D j % wsm D n) i) n < f - wsm (fun j => f * D j / wsm D n) n then 1 else 0
theorem zfg_max (f : Nat → Int32) : ∀ n i, i < n → f i ≤ f (zfg f n) ∧ (i < zfg f n → f i < f (zfg f n))
  | 0, i, h => absurd h (Nat.not_lt_zero _)
  | n + 1, i, h => by
    unfold zfg
    by_cases e : n = 0
    · subst e
      have : i = 0 := by omega
      subst this
      simp
    · rw [if_neg e]
      have hl := zfg_le f n
      by_cases hq : f (zfg f n) < f n
      · rw [if_pos hq]
        by_cases ei : i = n
        · subst ei; simp
        · have := (zfg_max f n i (by omega)).1
          exact ⟨Int32.le_of_lt (Int32.lt_of_le_of_lt this hq), fun _ => Int32.lt_of_le_of_lt this hq⟩
      · rw [if_neg hq]
        by_cases ei : i = n
        · subst ei
          exact ⟨Int32.not_lt.mp hq, fun z => by omega⟩
        · exact zfg_max f n i (by omega)
