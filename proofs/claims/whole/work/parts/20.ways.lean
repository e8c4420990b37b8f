/-! DeltaRuns$Water findWays -/
theorem zd_X5_findWays_0 : decode cX5_findWays 0 = .ok (.aload_n 0, 1) := by decide +kernel
theorem zd_X5_findWays_1 : decode cX5_findWays 1 = .ok (.iconst 0, 1) := by decide +kernel
theorem zd_X5_findWays_2 : decode cX5_findWays 2 = .ok (.putfield 76, 3) := by decide +kernel
theorem zd_X5_findWays_5 : decode cX5_findWays 5 = .ok (.iconst 0, 1) := by decide +kernel
theorem zd_X5_findWays_6 : decode cX5_findWays 6 = .ok (.istore_n 3, 1) := by decide +kernel
theorem zd_X5_findWays_7 : decode cX5_findWays 7 = .ok (.iload_n 3, 1) := by decide +kernel
theorem zd_X5_findWays_8 : decode cX5_findWays 8 = .ok (.iconst 4, 1) := by decide +kernel
theorem zd_X5_findWays_9 : decode cX5_findWays 9 = .ok (.if_icmp .ge 123, 3) := by decide +kernel
theorem zd_X5_findWays_12 : decode cX5_findWays 12 = .ok (.iload_n 2, 1) := by decide +kernel
theorem zd_X5_findWays_13 : decode cX5_findWays 13 = .ok (.bipush 12, 2) := by decide +kernel
theorem zd_X5_findWays_15 : decode cX5_findWays 15 = .ok (.irem, 1) := by decide +kernel
theorem zd_X5_findWays_16 : decode cX5_findWays 16 = .ok (.getstatic 89, 3) := by decide +kernel
theorem zd_X5_findWays_19 : decode cX5_findWays 19 = .ok (.iload_n 3, 1) := by decide +kernel
theorem zd_X5_findWays_20 : decode cX5_findWays 20 = .ok (.iaload, 1) := by decide +kernel
theorem zd_X5_findWays_21 : decode cX5_findWays 21 = .ok (.iadd, 1) := by decide +kernel
theorem zd_X5_findWays_22 : decode cX5_findWays 22 = .ok (.istore 4, 2) := by decide +kernel
theorem zd_X5_findWays_24 : decode cX5_findWays 24 = .ok (.iload_n 2, 1) := by decide +kernel
theorem zd_X5_findWays_25 : decode cX5_findWays 25 = .ok (.bipush 12, 2) := by decide +kernel
theorem zd_X5_findWays_27 : decode cX5_findWays 27 = .ok (.idiv, 1) := by decide +kernel
theorem zd_X5_findWays_28 : decode cX5_findWays 28 = .ok (.getstatic 92, 3) := by decide +kernel
theorem zd_X5_findWays_31 : decode cX5_findWays 31 = .ok (.iload_n 3, 1) := by decide +kernel
theorem zd_X5_findWays_32 : decode cX5_findWays 32 = .ok (.iaload, 1) := by decide +kernel
theorem zd_X5_findWays_33 : decode cX5_findWays 33 = .ok (.iadd, 1) := by decide +kernel
theorem zd_X5_findWays_34 : decode cX5_findWays 34 = .ok (.istore 5, 2) := by decide +kernel
theorem zd_X5_findWays_36 : decode cX5_findWays 36 = .ok (.aload_n 1, 1) := by decide +kernel
theorem zd_X5_findWays_37 : decode cX5_findWays 37 = .ok (.iload 4, 2) := by decide +kernel
theorem zd_X5_findWays_39 : decode cX5_findWays 39 = .ok (.iload 5, 2) := by decide +kernel
theorem zd_X5_findWays_41 : decode cX5_findWays 41 = .ok (.invokevirtual 95, 3) := by decide +kernel
theorem zd_X5_findWays_44 : decode cX5_findWays 44 = .ok (.ifCond .eq 82, 3) := by decide +kernel
theorem zd_X5_findWays_47 : decode cX5_findWays 47 = .ok (.iload 4, 2) := by decide +kernel
theorem zd_X5_findWays_49 : decode cX5_findWays 49 = .ok (.iload 5, 2) := by decide +kernel
theorem zd_X5_findWays_51 : decode cX5_findWays 51 = .ok (.invokestatic 99, 3) := by decide +kernel
theorem zd_X5_findWays_54 : decode cX5_findWays 54 = .ok (.istore 6, 2) := by decide +kernel
theorem zd_X5_findWays_56 : decode cX5_findWays 56 = .ok (.aload_n 0, 1) := by decide +kernel
theorem zd_X5_findWays_57 : decode cX5_findWays 57 = .ok (.getfield 9, 3) := by decide +kernel
theorem zd_X5_findWays_60 : decode cX5_findWays 60 = .ok (.iload 6, 2) := by decide +kernel
theorem zd_X5_findWays_62 : decode cX5_findWays 62 = .ok (.iaload, 1) := by decide +kernel
theorem zd_X5_findWays_63 : decode cX5_findWays 63 = .ok (.aload_n 0, 1) := by decide +kernel
theorem zd_X5_findWays_64 : decode cX5_findWays 64 = .ok (.getfield 9, 3) := by decide +kernel
theorem zd_X5_findWays_67 : decode cX5_findWays 67 = .ok (.iload_n 2, 1) := by decide +kernel
theorem zd_X5_findWays_68 : decode cX5_findWays 68 = .ok (.iaload, 1) := by decide +kernel
theorem zd_X5_findWays_69 : decode cX5_findWays 69 = .ok (.if_icmp .ge 57, 3) := by decide +kernel
theorem zd_X5_findWays_72 : decode cX5_findWays 72 = .ok (.aload_n 0, 1) := by decide +kernel
theorem zd_X5_findWays_73 : decode cX5_findWays 73 = .ok (.getfield 15, 3) := by decide +kernel
theorem zd_X5_findWays_76 : decode cX5_findWays 76 = .ok (.iload 6, 2) := by decide +kernel
theorem zd_X5_findWays_78 : decode cX5_findWays 78 = .ok (.baload, 1) := by decide +kernel
theorem zd_X5_findWays_79 : decode cX5_findWays 79 = .ok (.ifCond .ne 47, 3) := by decide +kernel
theorem zd_X5_findWays_82 : decode cX5_findWays 82 = .ok (.aload_n 0, 1) := by decide +kernel
theorem zd_X5_findWays_83 : decode cX5_findWays 83 = .ok (.getfield 28, 3) := by decide +kernel
theorem zd_X5_findWays_86 : decode cX5_findWays 86 = .ok (.aload_n 0, 1) := by decide +kernel
theorem zd_X5_findWays_87 : decode cX5_findWays 87 = .ok (.getfield 76, 3) := by decide +kernel
theorem zd_X5_findWays_90 : decode cX5_findWays 90 = .ok (.iload 6, 2) := by decide +kernel
theorem zd_X5_findWays_92 : decode cX5_findWays 92 = .ok (.iastore, 1) := by decide +kernel
theorem zd_X5_findWays_93 : decode cX5_findWays 93 = .ok (.aload_n 0, 1) := by decide +kernel
theorem zd_X5_findWays_94 : decode cX5_findWays 94 = .ok (.getfield 31, 3) := by decide +kernel
theorem zd_X5_findWays_97 : decode cX5_findWays 97 = .ok (.aload_n 0, 1) := by decide +kernel
theorem zd_X5_findWays_98 : decode cX5_findWays 98 = .ok (.getfield 76, 3) := by decide +kernel
theorem zd_X5_findWays_101 : decode cX5_findWays 101 = .ok (.aload_n 0, 1) := by decide +kernel
theorem zd_X5_findWays_102 : decode cX5_findWays 102 = .ok (.getfield 9, 3) := by decide +kernel
theorem zd_X5_findWays_105 : decode cX5_findWays 105 = .ok (.iload_n 2, 1) := by decide +kernel
theorem zd_X5_findWays_106 : decode cX5_findWays 106 = .ok (.iaload, 1) := by decide +kernel
theorem zd_X5_findWays_107 : decode cX5_findWays 107 = .ok (.aload_n 0, 1) := by decide +kernel
theorem zd_X5_findWays_108 : decode cX5_findWays 108 = .ok (.getfield 9, 3) := by decide +kernel
theorem zd_X5_findWays_111 : decode cX5_findWays 111 = .ok (.iload 6, 2) := by decide +kernel
theorem zd_X5_findWays_113 : decode cX5_findWays 113 = .ok (.iaload, 1) := by decide +kernel
theorem zd_X5_findWays_114 : decode cX5_findWays 114 = .ok (.isub, 1) := by decide +kernel
theorem zd_X5_findWays_115 : decode cX5_findWays 115 = .ok (.iastore, 1) := by decide +kernel
theorem zd_X5_findWays_116 : decode cX5_findWays 116 = .ok (.aload_n 0, 1) := by decide +kernel
theorem zd_X5_findWays_117 : decode cX5_findWays 117 = .ok (.dup, 1) := by decide +kernel
theorem zd_X5_findWays_118 : decode cX5_findWays 118 = .ok (.getfield 76, 3) := by decide +kernel
theorem zd_X5_findWays_121 : decode cX5_findWays 121 = .ok (.iconst 1, 1) := by decide +kernel
theorem zd_X5_findWays_122 : decode cX5_findWays 122 = .ok (.iadd, 1) := by decide +kernel
theorem zd_X5_findWays_123 : decode cX5_findWays 123 = .ok (.putfield 76, 3) := by decide +kernel
theorem zd_X5_findWays_126 : decode cX5_findWays 126 = .ok (.iinc 3 1, 3) := by decide +kernel
theorem zd_X5_findWays_129 : decode cX5_findWays 129 = .ok (.goto (-122), 3) := by decide +kernel
theorem zd_X5_findWays_132 : decode cX5_findWays 132 = .ok (.return_, 1) := by decide +kernel
def zb_X5_findWays_0 (K : zKt) (J : Nat → zPP) : zPP := zT_ald 0 (zT_push (.int 0) (zT_putI 5 10 11 (zT_push (.int 0) (zT_ist 3 (J 7)))))
theorem zbs_X5_findWays_0 {X : zCt} (hR : zRX X = { frames := 1, cells := 0, slots := 0, locals := 22 }) (J : Nat → zPP) (hJ : ∀ h ∈ ([7] : List Nat), zSd X RX5 "findWays" cX5_findWays 7 none h (J h)) : zSd X RX5 "findWays" cX5_findWays 7 none 0 (zb_X5_findWays_0 (zKX X) J) := zs_aload_n zd_X5_findWays_0 rfl (zs_iconst zd_X5_findWays_1 (by decide) (zs_putI (ci := 5) (j := 10) (T := TX5) rfl inX5 tyX5_ok nmX5 (by decide) gw_1_126 rfl rfl rfl zd_X5_findWays_2 (zs_iconst zd_X5_findWays_5 (by decide) (zs_istore_n zd_X5_findWays_6 rfl (by decide) (hJ 7 (by decide))))))
def zb_X5_findWays_126 (K : zKt) (J : Nat → zPP) : zPP := zT_iinc 3 1 (J 7)
theorem zbs_X5_findWays_126 {X : zCt} (hR : zRX X = { frames := 1, cells := 0, slots := 0, locals := 22 }) (J : Nat → zPP) (hJ : ∀ h ∈ ([7] : List Nat), zSd X RX5 "findWays" cX5_findWays 7 none h (J h)) : zSd X RX5 "findWays" cX5_findWays 7 none 126 (zb_X5_findWays_126 (zKX X) J) := zs_iinc zd_X5_findWays_126 (by decide) (by decide) (zs_goto (tgt := 7) zd_X5_findWays_129 (by decide) (hJ 7 (by decide)))
def zb_X5_findWays_7 (K : zKt) (J : Nat → zPP) : zPP := zT_ild 3 (zT_push (.int 4) (zT_if2 (fun x y => y ≤ x) (zT_vret K) (zT_ild 2 (zT_push (.int 12) (zT_div (fun x y => x - x / y * y) (zT_push (.ref 2001) (zT_ild 3 (zT_ialX 2001 zXs (zT_bin (fun x y => x + y) (zT_ist 4 (zT_ild 2 (zT_push (.int 12) (zT_div (fun x y => x / y) (zT_push (.ref 2002) (zT_ild 3 (zT_ialX 2002 zYs (zT_bin (fun x y => x + y) (zT_ist 5 (zT_ald 1 (zT_ild 4 (zT_ild 5 (zT_V2 zok 1 6 zc_X1_has (zT_if1 (fun x => x = 0) (zb_X5_findWays_126 K J) (zT_ild 4 (zT_ild 5 (zT_S2 zok zc_X7_cellAt (zT_ist 6 (zT_ald 0 (zT_getR 5 0 11 (zT_ild 6 (zT_ald0 0 (zT_ald 0 (zT_getR 5 0 11 (zT_ild 2 (zT_ald0 0 (zT_if2 (fun x y => y ≤ x) (zb_X5_findWays_126 K J) (zT_ald 0 (zT_getR 5 1 11 (zT_ild 6 (zT_ald0 1 (zT_if1 (fun x => x = 0) (zT_ald 0 (zT_getR 5 6 11 (zT_ald 0 (zT_getI 5 10 11 (zT_ild 6 (zT_iast (zT_ald 0 (zT_getR 5 7 11 (zT_ald 0 (zT_getI 5 10 11 (zT_ald 0 (zT_getR 5 0 11 (zT_ild 2 (zT_ald0 0 (zT_ald 0 (zT_getR 5 0 11 (zT_ild 6 (zT_ald0 0 (zT_bin (fun x y => x - y) (zT_iast (zT_ald 0 (zT_dup (zT_getI 5 10 11 (zT_push (.int 1) (zT_bin (fun x y => x + y) (zT_putI 5 10 11 (zb_X5_findWays_126 K J))))))))))))))))))))))))))) (zb_X5_findWays_126 K J))))))))))))))))))))))))))))))))))))))))))
theorem zbs_X5_findWays_7 {X : zCt} (hR : zRX X = { frames := 1, cells := 0, slots := 0, locals := 22 }) (J : Nat → zPP) (hJ : ∀ h ∈ ([7] : List Nat), zSd X RX5 "findWays" cX5_findWays 7 none h (J h)) : zSd X RX5 "findWays" cX5_findWays 7 none 7 (zb_X5_findWays_7 (zKX X) J) := zs_iload_n zd_X5_findWays_7 rfl (zs_iconst zd_X5_findWays_8 (by decide) (zs_icmp_ge (tgt := 132) zd_X5_findWays_9 (by decide) (zs_vret rfl zd_X5_findWays_132) (zs_iload_n zd_X5_findWays_12 rfl (zs_bipush zd_X5_findWays_13 (by decide) (zs_irem zd_X5_findWays_15 (zs_sx rfl zd_X5_findWays_16 (zs_iload_n zd_X5_findWays_19 rfl (zs_ialX zd_X5_findWays_20 (zs_iadd zd_X5_findWays_21 (zs_istore zd_X5_findWays_22 (by decide) (zs_iload_n zd_X5_findWays_24 rfl (zs_bipush zd_X5_findWays_25 (by decide) (zs_idiv zd_X5_findWays_27 (zs_sy rfl zd_X5_findWays_28 (zs_iload_n zd_X5_findWays_31 rfl (zs_ialY zd_X5_findWays_32 (zs_iadd zd_X5_findWays_33 (zs_istore zd_X5_findWays_34 (by decide) (zs_aload_n zd_X5_findWays_36 rfl (zs_iload zd_X5_findWays_37 (zs_iload zd_X5_findWays_39 (zs_V (ci := 1) rfl rfl (zm_X1_has _ _ _) gw_2_0 gw_2_237 gw_1_238 gw_1_239 gw_1_2 zdn_X1_has (zrm hR (by decide) (by decide)) zd_X5_findWays_41 (zCl_V2 zok_l) (zs_if_eq (tgt := 126) zd_X5_findWays_44 (by decide) (zbs_X5_findWays_126 hR J hJ) (zs_iload zd_X5_findWays_47 (zs_iload zd_X5_findWays_49 (zs_SN (zm_X7_cellAt _ _ _) gw_2_7 (List.mem_of_getElem? (i := 8) rfl) gw_2_6 gw_1_1 zdn_X7_cellAt (zrm hR (by decide) (by decide)) zd_X5_findWays_51 (zCl_S2 zok_l) (zs_istore zd_X5_findWays_54 (by decide) (zs_aload_n zd_X5_findWays_56 rfl (zs_getR (ci := 5) (j := 0) (T := TX5) rfl inX5 (by decide) gw_1_111 rfl zd_X5_findWays_57 (zs_iload zd_X5_findWays_60 (zs_iald zd_X5_findWays_62 (zs_aload_n zd_X5_findWays_63 rfl (zs_getR (ci := 5) (j := 0) (T := TX5) rfl inX5 (by decide) gw_1_111 rfl zd_X5_findWays_64 (zs_iload_n zd_X5_findWays_67 rfl (zs_iald zd_X5_findWays_68 (zs_icmp_ge (tgt := 126) zd_X5_findWays_69 (by decide) (zbs_X5_findWays_126 hR J hJ) (zs_aload_n zd_X5_findWays_72 rfl (zs_getR (ci := 5) (j := 1) (T := TX5) rfl inX5 (by decide) gw_1_114 rfl zd_X5_findWays_73 (zs_iload zd_X5_findWays_76 (zs_zald zd_X5_findWays_78 (zs_if_ne (tgt := 126) zd_X5_findWays_79 (by decide) (zbs_X5_findWays_126 hR J hJ) (zs_aload_n zd_X5_findWays_82 rfl (zs_getR (ci := 5) (j := 6) (T := TX5) rfl inX5 (by decide) gw_1_122 rfl zd_X5_findWays_83 (zs_aload_n zd_X5_findWays_86 rfl (zs_getI (ci := 5) (j := 10) (T := TX5) rfl inX5 (by decide) gw_1_126 rfl zd_X5_findWays_87 (zs_iload zd_X5_findWays_90 (zs_iast zd_X5_findWays_92 (zs_aload_n zd_X5_findWays_93 rfl (zs_getR (ci := 5) (j := 7) (T := TX5) rfl inX5 (by decide) gw_1_123 rfl zd_X5_findWays_94 (zs_aload_n zd_X5_findWays_97 rfl (zs_getI (ci := 5) (j := 10) (T := TX5) rfl inX5 (by decide) gw_1_126 rfl zd_X5_findWays_98 (zs_aload_n zd_X5_findWays_101 rfl (zs_getR (ci := 5) (j := 0) (T := TX5) rfl inX5 (by decide) gw_1_111 rfl zd_X5_findWays_102 (zs_iload_n zd_X5_findWays_105 rfl (zs_iald zd_X5_findWays_106 (zs_aload_n zd_X5_findWays_107 rfl (zs_getR (ci := 5) (j := 0) (T := TX5) rfl inX5 (by decide) gw_1_111 rfl zd_X5_findWays_108 (zs_iload zd_X5_findWays_111 (zs_iald zd_X5_findWays_113 (zs_isub zd_X5_findWays_114 (zs_iast zd_X5_findWays_115 (zs_aload_n zd_X5_findWays_116 rfl (zs_dup zd_X5_findWays_117 (zs_getI (ci := 5) (j := 10) (T := TX5) rfl inX5 (by decide) gw_1_126 rfl zd_X5_findWays_118 (zs_iconst zd_X5_findWays_121 (by decide) (zs_iadd zd_X5_findWays_122 (zs_putI (ci := 5) (j := 10) (T := TX5) rfl inX5 tyX5_ok nmX5 (by decide) gw_1_126 rfl rfl rfl zd_X5_findWays_123 (zbs_X5_findWays_126 hR J hJ))))))))))))))))))))))))))))))))))))))))))))))))))))))))))))))))))))
def zB_X5_findWays (K : zKt) (J : Nat → zPP) (h : Nat) : zPP := if h = 7 then zb_X5_findWays_7 K J else (fun _ _ _ => False)
theorem zBs_X5_findWays {X : zCt} (hR : zRX X = { frames := 1, cells := 0, slots := 0, locals := 22 }) : ∀ J : Nat → zPP, (∀ h ∈ ([7] : List Nat), zSd X RX5 "findWays" cX5_findWays 7 none h (J h)) → ∀ h ∈ ([7] : List Nat), zSd X RX5 "findWays" cX5_findWays 7 none h (zB_X5_findWays (zKX X) J h) := by
  intro J hJ h hh
  unfold zB_X5_findWays
  simp only [List.mem_cons, List.not_mem_nil, or_false] at hh
  subst hh
  exact zbs_X5_findWays_7 hR J hJ
theorem zdn_X5_findWays : yX5_findWays.cls ≠ "java/lang/invoke/MethodHandle" ∧ yX5_findWays.cls ≠ "java/lang/invoke/VarHandle" ∧ (parseMethodDescriptor yX5_findWays.desc).map (fun d => d.parameters.length) = some 2 := by decide +kernel
/-! WATER: the ways down from a cell. Cells are numbered 12 y + x -/
def wnb (w h c d : Nat) : Option Nat := match d with
  | 0 => if c % 12 + 1 < w then some (c + 1) else none
  | 1 => if c / 12 + 1 < h then some (c + 12) else none
  | 2 => if 0 < c % 12 then some (c - 1) else none
  | _ => if 0 < c / 12 then some (c - 12) else none
/-- the drop to a side, 0 where there is no way -/
def wdr (w h : Nat) (H : Nat → Nat) (D : Nat → Bool) (c d : Nat) : Nat := match wnb w h c d with
  | some x => if D x = true then 0 else H c - H x
  | none => 0
def wpo (r : Nat → Nat) (d : Nat) : Bool := decide (0 < r d)
/-- the sides that are ways, among the first m -/
def wds (r : Nat → Nat) (m : Nat) : List Nat := (List.range m).filter (wpo r)
theorem wds_s (r : Nat → Nat) (m : Nat) : wds r (m + 1) = wds r m ++ (if wpo r m = true then [m] else []) := by
  unfold wds
  rw [List.range_succ, List.filter_append]
  congr 1
  cases h : wpo r m <;> simp [List.filter, h]
theorem wds_len (r : Nat → Nat) : ∀ m, (wds r m).length = wct (wpo r) m
  | 0 => rfl
  | m + 1 => by
    rw [wds_s, List.length_append, wds_len r m]
    show _ = wct (wpo r) m + _
    cases wpo r m <;> rfl
theorem wds_get (r : Nat → Nat) : ∀ m i d, (wds r m)[i]? = some d → d < m ∧ wpo r d = true ∧ i = wct (wpo r) d
  | 0, i, d, h => by simp [wds] at h
  | m + 1, i, d, h => by
    rw [wds_s] at h
    by_cases hi : i < (wds r m).length
    · rw [List.getElem?_append_left hi] at h
      obtain ⟨h1, h2, h3⟩ := wds_get r m i d h
      exact ⟨by omega, h2, h3⟩
    · rw [List.getElem?_append_right (by omega)] at h
      by_cases hp : wpo r m = true
      · rw [if_pos hp] at h
        have hz : i - (wds r m).length < 1 := (List.getElem?_eq_some_iff.mp h).1
        have e : i = (wds r m).length := by omega
        subst e
        rw [Nat.sub_self] at h
        cases h
        exact ⟨by omega, hp, wds_len r m⟩
      · rw [if_neg hp] at h
        cases h
theorem wds_at (r : Nat → Nat) {m d : Nat} (hd : d < m) (hp : wpo r d = true) : (wds r m)[wct (wpo r) d]? = some d := by
  have hm : d ∈ wds r m := List.mem_filter.mpr ⟨List.mem_range.mpr hd, hp⟩
  obtain ⟨i, hi⟩ := List.getElem?_of_mem hm
  rw [← (wds_get r m i d hi).2.2]
  exact hi
theorem wct_lt {p : Nat → Bool} {a b : Nat} (h : a < b) (ha : p a = true) : wct p a < wct p b := by
  have h1 : wct p (a + 1) ≤ wct p b := by
    have : ∀ m, a + 1 ≤ m → wct p (a + 1) ≤ wct p m := by
      intro m
      induction m with
      | zero => intro z; omega
      | succ m ih =>
        intro z
        rcases Nat.lt_or_ge (a + 1) (m + 1) with q | q
        · have := ih (by omega)
          show _ ≤ wct p m + _
          omega
        · have : m = a := by omega
          subst this; exact Nat.le_refl _
    exact this b h
  have h2 : wct p (a + 1) = wct p a + 1 := by
    show wct p a + _ = _
    rw [if_pos ha]
  omega
/-- what a water's world is: the land's size, the heights, the dykes -/
def zld (M : zMm) (w h : Nat) (H : Nat → Nat) (D : Nat → Bool) : Prop := M.2.1 1 1 = nI w ∧ M.2.1 1 2 = nI h ∧ w ≤ 12 ∧ h ≤ 10 ∧ (∀ e, e < 120 → M.2.1 11 e = nI (H e) ∧ H e ≤ 200) ∧ ∀ e, e < 120 → M.2.1 12 e = if D e = true then 1 else 0
theorem zld.to {M M' : zMm} {w h : Nat} {H : Nat → Nat} {D : Nat → Bool} {ks : List Nat} (hl : zld M w h H D) (hs : zsm ks M M') (h1 : 1 ∉ ks) (h2 : 11 ∉ ks) (h3 : 12 ∉ ks) : zld M' w h H D := by
  unfold zld
  rw [hs.2.2 1 h1, hs.2.2 11 h2, hs.2.2 12 h3]
  exact hl
def wil (w h c : Nat) : Prop := c % 12 < w ∧ c / 12 < h
theorem zn_m1 {n : Nat} (h : 0 < n) : nI n + (-1) = nI (n - 1) := sb_m1 h
theorem wside {w h c : Nat} (hw : w ≤ 12) (hh : h ≤ 10) (hc : wil w h c) {d : Nat} (hd : d < 4) : match wnb w h c d with
    | none => ¬ (0 ≤ nI (c % 12) + zXs d ∧ nI (c % 12) + zXs d < nI w ∧ 0 ≤ nI (c / 12) + zYs d ∧ nI (c / 12) + zYs d < nI h)
    | some e => (0 ≤ nI (c % 12) + zXs d ∧ nI (c % 12) + zXs d < nI w ∧ 0 ≤ nI (c / 12) + zYs d ∧ nI (c / 12) + zYs d < nI h) ∧ (nI (c / 12) + zYs d) * 12 + (nI (c % 12) + zXs d) = nI e ∧ e < 120 ∧ wil w h e := by
  obtain ⟨hx, hy⟩ := hc
  have hneg : ¬ (0 : Int32) ≤ nI 0 + (-1) := by decide
  have e12 : (12 : Int32) = nI 12 := rfl
  have z0 : ∀ n, nI n + 0 = nI n := fun n => nI_add n 0
  have pos : ∀ n, n < 2 ^ 31 → (0 : Int32) ≤ nI n := fun n h => nI_pos' h
  unfold wil
  match d, hd with
  | 0, _ =>
    simp only [wnb, zXs, zYs]
    by_cases q : c % 12 + 1 < w
    · rw [if_pos q]
      dsimp only
      rw [z0, nI_1, e12, pk_mul, nI_add]
      exact ⟨⟨pos _ (by omega), (nI_ltI (by omega) (by omega)).mpr q, pos _ (by omega), (nI_ltI (by omega) (by omega)).mpr hy⟩, congrArg nI (by omega), by omega, by omega, by omega⟩
    · rw [if_neg q]
      dsimp only
      rw [nI_1]
      exact fun z => q ((nI_ltI (by omega) (by omega)).mp z.2.1)
  | 1, _ =>
    simp only [wnb, zXs, zYs]
    by_cases q : c / 12 + 1 < h
    · rw [if_pos q]
      dsimp only
      rw [z0, nI_1, e12, pk_mul, nI_add]
      exact ⟨⟨pos _ (by omega), (nI_ltI (by omega) (by omega)).mpr hx, pos _ (by omega), (nI_ltI (by omega) (by omega)).mpr q⟩, congrArg nI (by omega), by omega, by omega, by omega⟩
    · rw [if_neg q]
      dsimp only
      rw [nI_1]
      exact fun z => q ((nI_ltI (by omega) (by omega)).mp z.2.2.2)
  | 2, _ =>
    simp only [wnb, zXs, zYs]
    by_cases q : 0 < c % 12
    · rw [if_pos q]
      dsimp only
      rw [z0, zn_m1 q, e12, pk_mul, nI_add]
      exact ⟨⟨pos _ (by omega), (nI_ltI (by omega) (by omega)).mpr (by omega), pos _ (by omega), (nI_ltI (by omega) (by omega)).mpr hy⟩, congrArg nI (by omega), by omega, by omega, by omega⟩
    · rw [if_neg q]
      dsimp only
      rw [show c % 12 = 0 from by omega]
      exact fun z => hneg z.1
  | 3, _ =>
    simp only [wnb, zXs, zYs]
    by_cases q : 0 < c / 12
    · rw [if_pos q]
      dsimp only
      rw [z0, zn_m1 q, e12, pk_mul, nI_add]
      exact ⟨⟨pos _ (by omega), (nI_ltI (by omega) (by omega)).mpr hx, pos _ (by omega), (nI_ltI (by omega) (by omega)).mpr (by omega)⟩, congrArg nI (by omega), by omega, by omega, by omega⟩
    · rw [if_neg q]
      dsimp only
      rw [show c / 12 = 0 from by omega]
      exact fun z => hneg z.2.2.1
def zc_X5_findWays (a : List Value) (M : zMm) (K : zKt) : Prop := match a with
  | [.ref k, .ref k', .int x] => k = 10 ∧ k' = 1 ∧ zxw M ∧ ∃ w h H D c, zld M w h H D ∧ x = nI c ∧ c < 120 ∧ wil w h c ∧ ∀ M', zsm [10, 16, 17] M M' → (∀ j, j ≠ 10 → M'.2.1 10 j = M.2.1 10 j) → M'.2.1 10 10 = nI (wct (wpo (wdr w h H D c)) 4) → (∀ i d, (wds (wdr w h H D c) 4)[i]? = some d → (∃ e, wnb w h c d = some e ∧ M'.2.1 16 i = nI e) ∧ M'.2.1 17 i = nI (wdr w h H D c d)) → K none M'
  | _ => False
set_option maxHeartbeats 1000000 in
theorem zm_X5_findWays (l : Launch) (D : va_G) (Y : Nat → ClassId) : zMt l D Y yX5_findWays cX5_findWays 7 none 1 22 0 0 zc_X5_findWays := by
  refine zwhile1 (h0 := 7) (by decide) (fun K J _ _ => zb_X5_findWays_0 K J) (fun K _ _ J => zb_X5_findWays_7 K J) (fun X hR J hJ => zbs_X5_findWays_0 hR J hJ) (fun X hR J hJ => zbs_X5_findWays_7 hR J hJ) (fun avs M K h => ?_)
  unfold zc_X5_findWays at h
  split at h
  · next k k' x =>
    obtain ⟨rfl, rfl, hx, w, h', H, D, c, hld, rfl, hc, hil, h⟩ := h
    refine ⟨by simp [zent], fun q M' ls st => ∃ d o1 o2 o3, q = 4 - d ∧ d ≤ 4 ∧ ls = [some (.ref 10), some (.ref 1), some (.int (nI c)), some (.int (nI d)), o1, o2, o3] ∧ st = [] ∧ zsm [10, 16, 17] M M' ∧ (∀ j, j ≠ 10 → M'.2.1 10 j = M.2.1 10 j) ∧ M'.2.1 10 10 = nI (wct (wpo (wdr w h' H D c)) d) ∧ (∀ i e, (wds (wdr w h' H D c) d)[i]? = some e → (∃ x, wnb w h' c e = some x ∧ M'.2.1 16 i = nI x) ∧ M'.2.1 17 i = nI (wdr w h' H D c e)), ?_, ?_⟩
    · rintro q J hJ M' ls st ⟨d, o1, o2, o3, rfl, hd, rfl, rfl, hs, h10, hn, hc'⟩
      obtain ⟨hw1, hh1, hw, hh, hH, hD⟩ := hld.to hs (by simp) (by simp) (by simp)
      obtain ⟨x0, x1, x2, x3, x4, x5, x6, x7, x8⟩ := hx.to hs
      have hct := wct_le (wpo (wdr w h' H D c)) d
      simp only [zb_X5_findWays_7, zT_push, zT_bin, zT_div, zT_bil, zT_shl, zT_un, zT_i2l, zT_l2i, zT_lcmp, zT_ild, zT_lld, zT_ald, zT_ist, zT_lst, zT_ast, zT_iinc, zT_dup, zT_dup2, zT_pop, zT_if1, zT_if2, zT_ifn, zT_getI, zT_getJ, zT_getR, zT_putI, zT_putZ, zT_putJ, zT_putR, zT_ald0, zT_lald, zT_aald, zT_iast, zT_zast, zT_bast, zT_last, zT_aast, zT_iret, zT_nret, zT_aret, zT_vret, zT_oi, zT_mm, zT_ialX, zT_S1, zT_S2, zT_S3, zT_V0, zT_V1, zT_V2, zT_V3, zT_V4, zT_V5, zT_V6, zT_I0, zT_I1, zT_I2, zlg, zlset, zlpr, zent, zok, va_rf, List.length_cons, List.length_nil, List.replicate, List.cons_append, List.nil_append, List.append_nil, Option.toList_some, Option.toList_none, Option.toList, Nat.reduceAdd, Nat.reduceSub, Nat.reduceLeDiff, Nat.zero_add, Nat.zero_le, true_and, and_true, Nat.le_refl, ge_iff_le, Nat.reduceEqDiff]
      refine ⟨fun h1 => ?_, fun h1 => ?_⟩
      · have := zn_ge' (b := 4) h1 (by omega) (by omega)
        have e : d = 4 := by omega
        subst e
        exact h M' hs h10 hn hc'
      · have hlt := zn_ge (b := 4) h1 (by omega) (by omega)
        rw [show (12 : Int32) = nI 12 from rfl, pk_rem (by omega) (by omega) (by omega), pk_div (by omega) (by omega) (by omega), nI_clamp (n := d) (by omega)]
        refine ⟨by decide, vp_in_nI hlt (by decide), by decide, vp_in_nI hlt (by decide), rfl, ?_⟩
        have ws := wside hw hh hil hlt
        have hHc := hH c hc
        have skip : wpo (wdr w h' H D c) d = false → ∀ o1 o2 o3, zb_X5_findWays_126 K J M' [some (.ref 10), some (.ref 1), some (.int (nI c)), some (.int (nI d)), o1, o2, o3] [] := by
          intro hp o1 o2 o3
          simp only [zb_X5_findWays_126, zT_push, zT_bin, zT_div, zT_bil, zT_shl, zT_un, zT_i2l, zT_l2i, zT_lcmp, zT_ild, zT_lld, zT_ald, zT_ist, zT_lst, zT_ast, zT_iinc, zT_dup, zT_dup2, zT_pop, zT_if1, zT_if2, zT_ifn, zT_getI, zT_getJ, zT_getR, zT_putI, zT_putZ, zT_putJ, zT_putR, zT_ald0, zT_lald, zT_aald, zT_iast, zT_zast, zT_bast, zT_last, zT_aast, zT_iret, zT_nret, zT_aret, zT_vret, zT_oi, zT_mm, zT_ialX, zT_S1, zT_S2, zT_S3, zT_V0, zT_V1, zT_V2, zT_V3, zT_V4, zT_V5, zT_V6, zT_I0, zT_I1, zT_I2, zlg, zlset, zlpr, zent, zok, va_rf, List.length_cons, List.length_nil, List.replicate, List.cons_append, List.nil_append, List.append_nil, Option.toList_some, Option.toList_none, Option.toList, Nat.reduceAdd, Nat.reduceSub, Nat.reduceLeDiff, Nat.zero_add, Nat.zero_le, true_and, and_true, Nat.le_refl, ge_iff_le, Nat.reduceEqDiff]
          refine hJ (4 - (d + 1)) _ _ _ (by omega) ⟨d + 1, o1, o2, o3, rfl, hlt, by rw [nI_1], rfl, hs, h10, ?_, fun i e he => ?_⟩
          · rw [hn]
            show _ = nI (wct _ d + if wpo _ d = true then 1 else 0)
            rw [hp]
            rfl
          · rw [wds_s, hp] at he
            simp only [Bool.false_eq_true, if_false, List.append_nil] at he
            exact hc' i e he
        unfold zc_X1_has
        dsimp only
        refine ⟨rfl, ?_⟩
        rw [hw1, hh1]
        simp only [zbI_0, x0, x1, x5, x6, zsh_10, zsh_11, zsh_12, zsh_16, zsh_17, zT_push, zT_bin, zT_div, zT_bil, zT_shl, zT_un, zT_i2l, zT_l2i, zT_lcmp, zT_ild, zT_lld, zT_ald, zT_ist, zT_lst, zT_ast, zT_iinc, zT_dup, zT_dup2, zT_pop, zT_if1, zT_if2, zT_ifn, zT_getI, zT_getJ, zT_getR, zT_putI, zT_putZ, zT_putJ, zT_putR, zT_ald0, zT_lald, zT_aald, zT_iast, zT_zast, zT_bast, zT_last, zT_aast, zT_iret, zT_nret, zT_aret, zT_vret, zT_oi, zT_mm, zT_ialX, zT_S1, zT_S2, zT_S3, zT_V0, zT_V1, zT_V2, zT_V3, zT_V4, zT_V5, zT_V6, zT_I0, zT_I1, zT_I2, zlg, zlset, zlpr, zent, zok, va_rf, List.length_cons, List.length_nil, List.replicate, List.cons_append, List.nil_append, List.append_nil, Option.toList_some, Option.toList_none, Option.toList, Nat.reduceAdd, Nat.reduceSub, Nat.reduceLeDiff, Nat.zero_add, Nat.zero_le, true_and, and_true, Nat.le_refl, ge_iff_le, Nat.reduceEqDiff]
        cases hnb : wnb w h' c d with
        | none =>
          rw [hnb] at ws
          refine ⟨fun _ => skip ?_ _ _ _, fun z => absurd ws z⟩
          unfold wpo wdr
          rw [hnb]
          rfl
        | some e =>
          rw [hnb] at ws
          dsimp only at ws
          obtain ⟨w1, w2, w3, w4⟩ := ws
          have hHe := hH e w3
          refine ⟨fun z => absurd w1 z, fun _ => ?_⟩
          unfold zc_X7_cellAt
          dsimp only
          rw [w2]
          simp only [x0, x1, x5, x6, zsh_10, zsh_11, zsh_12, zsh_16, zsh_17, zT_push, zT_bin, zT_div, zT_bil, zT_shl, zT_un, zT_i2l, zT_l2i, zT_lcmp, zT_ild, zT_lld, zT_ald, zT_ist, zT_lst, zT_ast, zT_iinc, zT_dup, zT_dup2, zT_pop, zT_if1, zT_if2, zT_ifn, zT_getI, zT_getJ, zT_getR, zT_putI, zT_putZ, zT_putJ, zT_putR, zT_ald0, zT_lald, zT_aald, zT_iast, zT_zast, zT_bast, zT_last, zT_aast, zT_iret, zT_nret, zT_aret, zT_vret, zT_oi, zT_mm, zT_ialX, zT_S1, zT_S2, zT_S3, zT_V0, zT_V1, zT_V2, zT_V3, zT_V4, zT_V5, zT_V6, zT_I0, zT_I1, zT_I2, zlg, zlset, zlpr, zent, zok, va_rf, List.length_cons, List.length_nil, List.replicate, List.cons_append, List.nil_append, List.append_nil, Option.toList_some, Option.toList_none, Option.toList, Nat.reduceAdd, Nat.reduceSub, Nat.reduceLeDiff, Nat.zero_add, Nat.zero_le, true_and, and_true, Nat.le_refl, ge_iff_le, Nat.reduceEqDiff, zwI_L, zwI_I, zwI_J, zwI_R, zwJ_L, zwJ_I, zwJ_J, zwJ_R, zwR_L, zwR_I, zwR_J, zwR_R, zw2_s, zw2_n, ne_eq, not_false_eq_true, reduceCtorEq, not_true_eq_false, Nat.reduceEqDiff]
          rw [nI_clamp (n := e) (by omega), nI_clamp (n := c) (by omega), hHe.1, hHc.1, hD e w3]
          have hwdr : wdr w h' H D c d = if D e = true then 0 else H c - H e := by
            unfold wdr
            rw [hnb]
          refine ⟨vp_in_nI w3 (by decide), vp_in_nI hc (by decide), fun h2 => skip ?_ _ _ _, fun h2 => ⟨vp_in_nI w3 (by decide), fun h3 => ?_, fun h3 => skip ?_ _ _ _⟩⟩
          · have := zn_ge' h2 (by omega) (by omega)
            unfold wpo
            rw [hwdr]
            split <;> simp
            omega
          · have h4 := zn_ge h2 (by omega) (by omega)
            have hDe : D e = false := by
              cases hq : D e with
              | false => rfl
              | true => rw [hq] at h3; exact absurd h3 (by decide)
            have hp : wpo (wdr w h' H D c) d = true := by
              unfold wpo
              rw [hwdr, hDe]
              simp
              omega
            have hdr : wdr w h' H D c d = H c - H e := by
              rw [hwdr, hDe]
              rfl
            rw [hn, nI_clamp (by omega), pk_sub (by omega), nI_1]
            simp only [zb_X5_findWays_126, zT_push, zT_bin, zT_div, zT_bil, zT_shl, zT_un, zT_i2l, zT_l2i, zT_lcmp, zT_ild, zT_lld, zT_ald, zT_ist, zT_lst, zT_ast, zT_iinc, zT_dup, zT_dup2, zT_pop, zT_if1, zT_if2, zT_ifn, zT_getI, zT_getJ, zT_getR, zT_putI, zT_putZ, zT_putJ, zT_putR, zT_ald0, zT_lald, zT_aald, zT_iast, zT_zast, zT_bast, zT_last, zT_aast, zT_iret, zT_nret, zT_aret, zT_vret, zT_oi, zT_mm, zT_ialX, zT_S1, zT_S2, zT_S3, zT_V0, zT_V1, zT_V2, zT_V3, zT_V4, zT_V5, zT_V6, zT_I0, zT_I1, zT_I2, zlg, zlset, zlpr, zent, zok, va_rf, List.length_cons, List.length_nil, List.replicate, List.cons_append, List.nil_append, List.append_nil, Option.toList_some, Option.toList_none, Option.toList, Nat.reduceAdd, Nat.reduceSub, Nat.reduceLeDiff, Nat.zero_add, Nat.zero_le, true_and, and_true, Nat.le_refl, ge_iff_le, Nat.reduceEqDiff]
            refine ⟨vp_in_nI (by omega) (by decide), vp_in_nI hc (by decide), vp_in_nI w3 (by decide), vp_in_nI (by omega) (by decide), hJ (4 - (d + 1)) _ _ _ (by omega) ⟨d + 1, _, _, _, rfl, hlt, by rw [nI_1], rfl, ((hs.w (by simp)).w (by simp)).w (by simp), fun j hj => ?_, ?_, fun i e' he => ?_⟩⟩
            · simp only [zwI_L, zwI_I, zwI_J, zwI_R, zwJ_L, zwJ_I, zwJ_J, zwJ_R, zwR_L, zwR_I, zwR_J, zwR_R, zw2_s, zw2_n, ne_eq, not_false_eq_true, reduceCtorEq, not_true_eq_false, Nat.reduceEqDiff]
              rw [zup_n hj]
              exact h10 j hj
            · simp only [zwI_L, zwI_I, zwI_J, zwI_R, zwJ_L, zwJ_I, zwJ_J, zwJ_R, zwR_L, zwR_I, zwR_J, zwR_R, zw2_s, zw2_n, ne_eq, not_false_eq_true, reduceCtorEq, not_true_eq_false, Nat.reduceEqDiff, zup_s]
              show _ = nI (wct _ d + if wpo _ d = true then 1 else 0)
              rw [hp]
              rfl
            · rw [wds_s, hp] at he
              simp only [if_true] at he
              simp only [zwI_L, zwI_I, zwI_J, zwI_R, zwJ_L, zwJ_I, zwJ_J, zwJ_R, zwR_L, zwR_I, zwR_J, zwR_R, zw2_s, zw2_n, ne_eq, not_false_eq_true, reduceCtorEq, not_true_eq_false, Nat.reduceEqDiff]
              by_cases hi : i < (wds (wdr w h' H D c) d).length
              · rw [List.getElem?_append_left hi] at he
                rw [wds_len] at hi
                rw [zup_n (by omega), zup_n (by omega)]
                exact hc' i e' he
              · rw [List.getElem?_append_right (by omega)] at he
                have hz : i - (wds (wdr w h' H D c) d).length < 1 := (List.getElem?_eq_some_iff.mp he).1
                have ei : i = (wds (wdr w h' H D c) d).length := by omega
                rw [ei, Nat.sub_self] at he
                cases he
                rw [wds_len] at ei
                subst ei
                rw [zup_s, zup_s, hdr]
                exact ⟨⟨e, hnb, rfl⟩, rfl⟩
          · have hDe : D e = true := by
              cases hq : D e with
              | true => rfl
              | false => rw [hq] at h3; exact absurd rfl h3
            unfold wpo
            rw [hwdr, hDe]
            rfl
    · intro J hJ
      simp only [zb_X5_findWays_0, zsh_10, zT_push, zT_bin, zT_div, zT_bil, zT_shl, zT_un, zT_i2l, zT_l2i, zT_lcmp, zT_ild, zT_lld, zT_ald, zT_ist, zT_lst, zT_ast, zT_iinc, zT_dup, zT_dup2, zT_pop, zT_if1, zT_if2, zT_ifn, zT_getI, zT_getJ, zT_getR, zT_putI, zT_putZ, zT_putJ, zT_putR, zT_ald0, zT_lald, zT_aald, zT_iast, zT_zast, zT_bast, zT_last, zT_aast, zT_iret, zT_nret, zT_aret, zT_vret, zT_oi, zT_mm, zT_ialX, zT_S1, zT_S2, zT_S3, zT_V0, zT_V1, zT_V2, zT_V3, zT_V4, zT_V5, zT_V6, zT_I0, zT_I1, zT_I2, zlg, zlset, zlpr, zent, zok, va_rf, List.length_cons, List.length_nil, List.replicate, List.cons_append, List.nil_append, List.append_nil, Option.toList_some, Option.toList_none, Option.toList, Nat.reduceAdd, Nat.reduceSub, Nat.reduceLeDiff, Nat.zero_add, Nat.zero_le, true_and, and_true, Nat.le_refl, ge_iff_le, Nat.reduceEqDiff]
      exact hJ 4 _ _ _ ⟨0, none, none, none, rfl, by omega, rfl, rfl, zsm.rf.w (by simp), fun j hj => by simp only [zwI_L, zwI_I, zwI_J, zwI_R, zwJ_L, zwJ_I, zwJ_J, zwJ_R, zwR_L, zwR_I, zwR_J, zwR_R, zw2_s, zw2_n, ne_eq, not_false_eq_true, reduceCtorEq, not_true_eq_false, Nat.reduceEqDiff]; rw [zup_n hj], by simp only [zwI_L, zwI_I, zwI_J, zwI_R, zwJ_L, zwJ_I, zwJ_J, zwJ_R, zwR_L, zwR_I, zwR_J, zwR_R, zw2_s, zw2_n, ne_eq, not_false_eq_true, reduceCtorEq, not_true_eq_false, Nat.reduceEqDiff, zup_s]; rfl, fun i e he => by simp [wds] at he⟩
  · exact h.elim
