/-! DeltaRunsModel restsAhead -/
theorem zd_X8_restsAhead_0 : decode cX8_restsAhead 0 = .ok (.aload_n 0, 1) := by decide +kernel
theorem zd_X8_restsAhead_1 : decode cX8_restsAhead 1 = .ok (.getfield 57, 3) := by decide +kernel
theorem zd_X8_restsAhead_4 : decode cX8_restsAhead 4 = .ok (.iload_n 1, 1) := by decide +kernel
theorem zd_X8_restsAhead_5 : decode cX8_restsAhead 5 = .ok (.iaload, 1) := by decide +kernel
theorem zd_X8_restsAhead_6 : decode cX8_restsAhead 6 = .ok (.aload_n 0, 1) := by decide +kernel
theorem zd_X8_restsAhead_7 : decode cX8_restsAhead 7 = .ok (.getfield 50, 3) := by decide +kernel
theorem zd_X8_restsAhead_10 : decode cX8_restsAhead 10 = .ok (.iload_n 1, 1) := by decide +kernel
theorem zd_X8_restsAhead_11 : decode cX8_restsAhead 11 = .ok (.iaload, 1) := by decide +kernel
theorem zd_X8_restsAhead_12 : decode cX8_restsAhead 12 = .ok (.aload_n 0, 1) := by decide +kernel
theorem zd_X8_restsAhead_13 : decode cX8_restsAhead 13 = .ok (.getfield 50, 3) := by decide +kernel
theorem zd_X8_restsAhead_16 : decode cX8_restsAhead 16 = .ok (.aload_n 0, 1) := by decide +kernel
theorem zd_X8_restsAhead_17 : decode cX8_restsAhead 17 = .ok (.getfield 66, 3) := by decide +kernel
theorem zd_X8_restsAhead_20 : decode cX8_restsAhead 20 = .ok (.iload_n 2, 1) := by decide +kernel
theorem zd_X8_restsAhead_21 : decode cX8_restsAhead 21 = .ok (.iaload, 1) := by decide +kernel
theorem zd_X8_restsAhead_22 : decode cX8_restsAhead 22 = .ok (.iaload, 1) := by decide +kernel
theorem zd_X8_restsAhead_23 : decode cX8_restsAhead 23 = .ok (.isub, 1) := by decide +kernel
theorem zd_X8_restsAhead_24 : decode cX8_restsAhead 24 = .ok (.imul, 1) := by decide +kernel
theorem zd_X8_restsAhead_25 : decode cX8_restsAhead 25 = .ok (.iload_n 3, 1) := by decide +kernel
theorem zd_X8_restsAhead_26 : decode cX8_restsAhead 26 = .ok (.irem, 1) := by decide +kernel
theorem zd_X8_restsAhead_27 : decode cX8_restsAhead 27 = .ok (.istore 4, 2) := by decide +kernel
theorem zd_X8_restsAhead_29 : decode cX8_restsAhead 29 = .ok (.iconst 0, 1) := by decide +kernel
theorem zd_X8_restsAhead_30 : decode cX8_restsAhead 30 = .ok (.istore 5, 2) := by decide +kernel
theorem zd_X8_restsAhead_32 : decode cX8_restsAhead 32 = .ok (.iconst 0, 1) := by decide +kernel
theorem zd_X8_restsAhead_33 : decode cX8_restsAhead 33 = .ok (.istore 6, 2) := by decide +kernel
theorem zd_X8_restsAhead_35 : decode cX8_restsAhead 35 = .ok (.iload 6, 2) := by decide +kernel
theorem zd_X8_restsAhead_37 : decode cX8_restsAhead 37 = .ok (.iconst 4, 1) := by decide +kernel
theorem zd_X8_restsAhead_38 : decode cX8_restsAhead 38 = .ok (.if_icmp .ge 80, 3) := by decide +kernel
theorem zd_X8_restsAhead_41 : decode cX8_restsAhead 41 = .ok (.aload_n 0, 1) := by decide +kernel
theorem zd_X8_restsAhead_42 : decode cX8_restsAhead 42 = .ok (.getfield 66, 3) := by decide +kernel
theorem zd_X8_restsAhead_45 : decode cX8_restsAhead 45 = .ok (.iload 6, 2) := by decide +kernel
theorem zd_X8_restsAhead_47 : decode cX8_restsAhead 47 = .ok (.iaload, 1) := by decide +kernel
theorem zd_X8_restsAhead_48 : decode cX8_restsAhead 48 = .ok (.iconst (-1), 1) := by decide +kernel
theorem zd_X8_restsAhead_49 : decode cX8_restsAhead 49 = .ok (.if_icmp .eq 63, 3) := by decide +kernel
theorem zd_X8_restsAhead_52 : decode cX8_restsAhead 52 = .ok (.aload_n 0, 1) := by decide +kernel
theorem zd_X8_restsAhead_53 : decode cX8_restsAhead 53 = .ok (.getfield 57, 3) := by decide +kernel
theorem zd_X8_restsAhead_56 : decode cX8_restsAhead 56 = .ok (.iload_n 1, 1) := by decide +kernel
theorem zd_X8_restsAhead_57 : decode cX8_restsAhead 57 = .ok (.iaload, 1) := by decide +kernel
theorem zd_X8_restsAhead_58 : decode cX8_restsAhead 58 = .ok (.aload_n 0, 1) := by decide +kernel
theorem zd_X8_restsAhead_59 : decode cX8_restsAhead 59 = .ok (.getfield 50, 3) := by decide +kernel
theorem zd_X8_restsAhead_62 : decode cX8_restsAhead 62 = .ok (.iload_n 1, 1) := by decide +kernel
theorem zd_X8_restsAhead_63 : decode cX8_restsAhead 63 = .ok (.iaload, 1) := by decide +kernel
theorem zd_X8_restsAhead_64 : decode cX8_restsAhead 64 = .ok (.aload_n 0, 1) := by decide +kernel
theorem zd_X8_restsAhead_65 : decode cX8_restsAhead 65 = .ok (.getfield 50, 3) := by decide +kernel
theorem zd_X8_restsAhead_68 : decode cX8_restsAhead 68 = .ok (.aload_n 0, 1) := by decide +kernel
theorem zd_X8_restsAhead_69 : decode cX8_restsAhead 69 = .ok (.getfield 66, 3) := by decide +kernel
theorem zd_X8_restsAhead_72 : decode cX8_restsAhead 72 = .ok (.iload 6, 2) := by decide +kernel
theorem zd_X8_restsAhead_74 : decode cX8_restsAhead 74 = .ok (.iaload, 1) := by decide +kernel
theorem zd_X8_restsAhead_75 : decode cX8_restsAhead 75 = .ok (.iaload, 1) := by decide +kernel
theorem zd_X8_restsAhead_76 : decode cX8_restsAhead 76 = .ok (.isub, 1) := by decide +kernel
theorem zd_X8_restsAhead_77 : decode cX8_restsAhead 77 = .ok (.imul, 1) := by decide +kernel
theorem zd_X8_restsAhead_78 : decode cX8_restsAhead 78 = .ok (.iload_n 3, 1) := by decide +kernel
theorem zd_X8_restsAhead_79 : decode cX8_restsAhead 79 = .ok (.irem, 1) := by decide +kernel
theorem zd_X8_restsAhead_80 : decode cX8_restsAhead 80 = .ok (.istore 7, 2) := by decide +kernel
theorem zd_X8_restsAhead_82 : decode cX8_restsAhead 82 = .ok (.iload 5, 2) := by decide +kernel
theorem zd_X8_restsAhead_84 : decode cX8_restsAhead 84 = .ok (.iload 7, 2) := by decide +kernel
theorem zd_X8_restsAhead_86 : decode cX8_restsAhead 86 = .ok (.iload 4, 2) := by decide +kernel
theorem zd_X8_restsAhead_88 : decode cX8_restsAhead 88 = .ok (.if_icmp .gt 16, 3) := by decide +kernel
theorem zd_X8_restsAhead_91 : decode cX8_restsAhead 91 = .ok (.iload 7, 2) := by decide +kernel
theorem zd_X8_restsAhead_93 : decode cX8_restsAhead 93 = .ok (.iload 4, 2) := by decide +kernel
theorem zd_X8_restsAhead_95 : decode cX8_restsAhead 95 = .ok (.if_icmp .ne 13, 3) := by decide +kernel
theorem zd_X8_restsAhead_98 : decode cX8_restsAhead 98 = .ok (.iload 6, 2) := by decide +kernel
theorem zd_X8_restsAhead_100 : decode cX8_restsAhead 100 = .ok (.iload_n 2, 1) := by decide +kernel
theorem zd_X8_restsAhead_101 : decode cX8_restsAhead 101 = .ok (.if_icmp .ge 7, 3) := by decide +kernel
theorem zd_X8_restsAhead_104 : decode cX8_restsAhead 104 = .ok (.iconst 1, 1) := by decide +kernel
theorem zd_X8_restsAhead_105 : decode cX8_restsAhead 105 = .ok (.goto 4, 3) := by decide +kernel
theorem zd_X8_restsAhead_108 : decode cX8_restsAhead 108 = .ok (.iconst 0, 1) := by decide +kernel
theorem zd_X8_restsAhead_109 : decode cX8_restsAhead 109 = .ok (.iadd, 1) := by decide +kernel
theorem zd_X8_restsAhead_110 : decode cX8_restsAhead 110 = .ok (.istore 5, 2) := by decide +kernel
theorem zd_X8_restsAhead_112 : decode cX8_restsAhead 112 = .ok (.iinc 6 1, 3) := by decide +kernel
theorem zd_X8_restsAhead_115 : decode cX8_restsAhead 115 = .ok (.goto (-80), 3) := by decide +kernel
theorem zd_X8_restsAhead_118 : decode cX8_restsAhead 118 = .ok (.iload 5, 2) := by decide +kernel
theorem zd_X8_restsAhead_120 : decode cX8_restsAhead 120 = .ok (.ireturn, 1) := by decide +kernel
def zb_X8_restsAhead_0 (K : zKt) (J : Nat → zPP) : zPP := zT_ald 0 (zT_getR 8 26 38 (zT_ild 1 (zT_ald0 0 (zT_ald 0 (zT_getR 8 24 38 (zT_ild 1 (zT_ald0 0 (zT_ald 0 (zT_getR 8 24 38 (zT_ald 0 (zT_getR 8 29 38 (zT_ild 2 (zT_ald0 0 (zT_ald0 0 (zT_bin (fun x y => x - y) (zT_bin (fun x y => x * y) (zT_ild 3 (zT_div (fun x y => x - x / y * y) (zT_ist 4 (zT_push (.int 0) (zT_ist 5 (zT_push (.int 0) (zT_ist 6 (J 35))))))))))))))))))))))))
theorem zbs_X8_restsAhead_0 {X : zCt} (hR : zRX X = { frames := 0, cells := 0, slots := 0, locals := 0 }) (J : Nat → zPP) (hJ : ∀ h ∈ ([35] : List Nat), zSd X RX8 "restsAhead" cX8_restsAhead 8 (some .int) h (J h)) : zSd X RX8 "restsAhead" cX8_restsAhead 8 (some .int) 0 (zb_X8_restsAhead_0 (zKX X) J) := zs_aload_n zd_X8_restsAhead_0 rfl (zs_getR (ci := 8) (j := 26) (T := TX8) rfl inX8 (by decide) gw_3_115 rfl zd_X8_restsAhead_1 (zs_iload_n zd_X8_restsAhead_4 rfl (zs_iald zd_X8_restsAhead_5 (zs_aload_n zd_X8_restsAhead_6 rfl (zs_getR (ci := 8) (j := 24) (T := TX8) rfl inX8 (by decide) gw_3_113 rfl zd_X8_restsAhead_7 (zs_iload_n zd_X8_restsAhead_10 rfl (zs_iald zd_X8_restsAhead_11 (zs_aload_n zd_X8_restsAhead_12 rfl (zs_getR (ci := 8) (j := 24) (T := TX8) rfl inX8 (by decide) gw_3_113 rfl zd_X8_restsAhead_13 (zs_aload_n zd_X8_restsAhead_16 rfl (zs_getR (ci := 8) (j := 29) (T := TX8) rfl inX8 (by decide) gw_3_118 rfl zd_X8_restsAhead_17 (zs_iload_n zd_X8_restsAhead_20 rfl (zs_iald zd_X8_restsAhead_21 (zs_iald zd_X8_restsAhead_22 (zs_isub zd_X8_restsAhead_23 (zs_imul zd_X8_restsAhead_24 (zs_iload_n zd_X8_restsAhead_25 rfl (zs_irem zd_X8_restsAhead_26 (zs_istore zd_X8_restsAhead_27 (by decide) (zs_iconst zd_X8_restsAhead_29 (by decide) (zs_istore zd_X8_restsAhead_30 (by decide) (zs_iconst zd_X8_restsAhead_32 (by decide) (zs_istore zd_X8_restsAhead_33 (by decide) (hJ 35 (by decide)))))))))))))))))))))))))
def zb_X8_restsAhead_112 (K : zKt) (J : Nat → zPP) : zPP := zT_iinc 6 1 (J 35)
theorem zbs_X8_restsAhead_112 {X : zCt} (hR : zRX X = { frames := 0, cells := 0, slots := 0, locals := 0 }) (J : Nat → zPP) (hJ : ∀ h ∈ ([35] : List Nat), zSd X RX8 "restsAhead" cX8_restsAhead 8 (some .int) h (J h)) : zSd X RX8 "restsAhead" cX8_restsAhead 8 (some .int) 112 (zb_X8_restsAhead_112 (zKX X) J) := zs_iinc zd_X8_restsAhead_112 (by decide) (by decide) (zs_goto (tgt := 35) zd_X8_restsAhead_115 (by decide) (hJ 35 (by decide)))
def zb_X8_restsAhead_109 (K : zKt) (J : Nat → zPP) : zPP := zT_bin (fun x y => x + y) (zT_ist 5 (zb_X8_restsAhead_112 K J))
theorem zbs_X8_restsAhead_109 {X : zCt} (hR : zRX X = { frames := 0, cells := 0, slots := 0, locals := 0 }) (J : Nat → zPP) (hJ : ∀ h ∈ ([35] : List Nat), zSd X RX8 "restsAhead" cX8_restsAhead 8 (some .int) h (J h)) : zSd X RX8 "restsAhead" cX8_restsAhead 8 (some .int) 109 (zb_X8_restsAhead_109 (zKX X) J) := zs_iadd zd_X8_restsAhead_109 (zs_istore zd_X8_restsAhead_110 (by decide) (zbs_X8_restsAhead_112 hR J hJ))
def zb_X8_restsAhead_104 (K : zKt) (J : Nat → zPP) : zPP := zT_push (.int 1) (zb_X8_restsAhead_109 K J)
theorem zbs_X8_restsAhead_104 {X : zCt} (hR : zRX X = { frames := 0, cells := 0, slots := 0, locals := 0 }) (J : Nat → zPP) (hJ : ∀ h ∈ ([35] : List Nat), zSd X RX8 "restsAhead" cX8_restsAhead 8 (some .int) h (J h)) : zSd X RX8 "restsAhead" cX8_restsAhead 8 (some .int) 104 (zb_X8_restsAhead_104 (zKX X) J) := zs_iconst zd_X8_restsAhead_104 (by decide) (zs_goto (tgt := 109) zd_X8_restsAhead_105 (by decide) (zbs_X8_restsAhead_109 hR J hJ))
def zb_X8_restsAhead_108 (K : zKt) (J : Nat → zPP) : zPP := zT_push (.int 0) (zb_X8_restsAhead_109 K J)
theorem zbs_X8_restsAhead_108 {X : zCt} (hR : zRX X = { frames := 0, cells := 0, slots := 0, locals := 0 }) (J : Nat → zPP) (hJ : ∀ h ∈ ([35] : List Nat), zSd X RX8 "restsAhead" cX8_restsAhead 8 (some .int) h (J h)) : zSd X RX8 "restsAhead" cX8_restsAhead 8 (some .int) 108 (zb_X8_restsAhead_108 (zKX X) J) := zs_iconst zd_X8_restsAhead_108 (by decide) (zbs_X8_restsAhead_109 hR J hJ)
def zb_X8_restsAhead_35 (K : zKt) (J : Nat → zPP) : zPP := zT_ild 6 (zT_push (.int 4) (zT_if2 (fun x y => y ≤ x) (zT_ild 5 (zT_iret K)) (zT_ald 0 (zT_getR 8 29 38 (zT_ild 6 (zT_ald0 0 (zT_push (.int (-1)) (zT_if2 (fun x y => x = y) (zb_X8_restsAhead_112 K J) (zT_ald 0 (zT_getR 8 26 38 (zT_ild 1 (zT_ald0 0 (zT_ald 0 (zT_getR 8 24 38 (zT_ild 1 (zT_ald0 0 (zT_ald 0 (zT_getR 8 24 38 (zT_ald 0 (zT_getR 8 29 38 (zT_ild 6 (zT_ald0 0 (zT_ald0 0 (zT_bin (fun x y => x - y) (zT_bin (fun x y => x * y) (zT_ild 3 (zT_div (fun x y => x - x / y * y) (zT_ist 7 (zT_ild 5 (zT_ild 7 (zT_ild 4 (zT_if2 (fun x y => y < x) (zb_X8_restsAhead_104 K J) (zT_ild 7 (zT_ild 4 (zT_if2 (fun x y => x = y) (zT_ild 6 (zT_ild 2 (zT_if2 (fun x y => y ≤ x) (zb_X8_restsAhead_108 K J) (zb_X8_restsAhead_104 K J)))) (zb_X8_restsAhead_108 K J))))))))))))))))))))))))))))))))))))
theorem zbs_X8_restsAhead_35 {X : zCt} (hR : zRX X = { frames := 0, cells := 0, slots := 0, locals := 0 }) (J : Nat → zPP) (hJ : ∀ h ∈ ([35] : List Nat), zSd X RX8 "restsAhead" cX8_restsAhead 8 (some .int) h (J h)) : zSd X RX8 "restsAhead" cX8_restsAhead 8 (some .int) 35 (zb_X8_restsAhead_35 (zKX X) J) := zs_iload zd_X8_restsAhead_35 (zs_iconst zd_X8_restsAhead_37 (by decide) (zs_icmp_ge (tgt := 118) zd_X8_restsAhead_38 (by decide) (zs_iload zd_X8_restsAhead_118 (zs_iret rfl zd_X8_restsAhead_120)) (zs_aload_n zd_X8_restsAhead_41 rfl (zs_getR (ci := 8) (j := 29) (T := TX8) rfl inX8 (by decide) gw_3_118 rfl zd_X8_restsAhead_42 (zs_iload zd_X8_restsAhead_45 (zs_iald zd_X8_restsAhead_47 (zs_iconst zd_X8_restsAhead_48 (by decide) (zs_icmp_eq (tgt := 112) zd_X8_restsAhead_49 (by decide) (zbs_X8_restsAhead_112 hR J hJ) (zs_aload_n zd_X8_restsAhead_52 rfl (zs_getR (ci := 8) (j := 26) (T := TX8) rfl inX8 (by decide) gw_3_115 rfl zd_X8_restsAhead_53 (zs_iload_n zd_X8_restsAhead_56 rfl (zs_iald zd_X8_restsAhead_57 (zs_aload_n zd_X8_restsAhead_58 rfl (zs_getR (ci := 8) (j := 24) (T := TX8) rfl inX8 (by decide) gw_3_113 rfl zd_X8_restsAhead_59 (zs_iload_n zd_X8_restsAhead_62 rfl (zs_iald zd_X8_restsAhead_63 (zs_aload_n zd_X8_restsAhead_64 rfl (zs_getR (ci := 8) (j := 24) (T := TX8) rfl inX8 (by decide) gw_3_113 rfl zd_X8_restsAhead_65 (zs_aload_n zd_X8_restsAhead_68 rfl (zs_getR (ci := 8) (j := 29) (T := TX8) rfl inX8 (by decide) gw_3_118 rfl zd_X8_restsAhead_69 (zs_iload zd_X8_restsAhead_72 (zs_iald zd_X8_restsAhead_74 (zs_iald zd_X8_restsAhead_75 (zs_isub zd_X8_restsAhead_76 (zs_imul zd_X8_restsAhead_77 (zs_iload_n zd_X8_restsAhead_78 rfl (zs_irem zd_X8_restsAhead_79 (zs_istore zd_X8_restsAhead_80 (by decide) (zs_iload zd_X8_restsAhead_82 (zs_iload zd_X8_restsAhead_84 (zs_iload zd_X8_restsAhead_86 (zs_icmp_gt (tgt := 104) zd_X8_restsAhead_88 (by decide) (zbs_X8_restsAhead_104 hR J hJ) (zs_iload zd_X8_restsAhead_91 (zs_iload zd_X8_restsAhead_93 (zs_icmp_ne (tgt := 108) zd_X8_restsAhead_95 (by decide) (zbs_X8_restsAhead_108 hR J hJ) (zs_iload zd_X8_restsAhead_98 (zs_iload_n zd_X8_restsAhead_100 rfl (zs_icmp_ge (tgt := 108) zd_X8_restsAhead_101 (by decide) (zbs_X8_restsAhead_108 hR J hJ) (zbs_X8_restsAhead_104 hR J hJ)))))))))))))))))))))))))))))))))))))))
def zB_X8_restsAhead (K : zKt) (J : Nat → zPP) (h : Nat) : zPP := if h = 35 then zb_X8_restsAhead_35 K J else (fun _ _ _ => False)
theorem zBs_X8_restsAhead {X : zCt} (hR : zRX X = { frames := 0, cells := 0, slots := 0, locals := 0 }) : ∀ J : Nat → zPP, (∀ h ∈ ([35] : List Nat), zSd X RX8 "restsAhead" cX8_restsAhead 8 (some .int) h (J h)) → ∀ h ∈ ([35] : List Nat), zSd X RX8 "restsAhead" cX8_restsAhead 8 (some .int) h (zB_X8_restsAhead (zKX X) J h) := by
  intro J hJ h hh
  unfold zB_X8_restsAhead
  simp only [List.mem_cons, List.not_mem_nil, or_false] at hh
  subst hh
  exact zbs_X8_restsAhead_35 hR J hJ
theorem zdn_X8_restsAhead : yX8_restsAhead.cls ≠ "java/lang/invoke/MethodHandle" ∧ yX8_restsAhead.cls ≠ "java/lang/invoke/VarHandle" ∧ (parseMethodDescriptor yX8_restsAhead.desc).map (fun d => d.parameters.length) = some 3 := by decide +kernel
/-- a way down from c -/
theorem wdr_way {w h : Nat} {H : Nat → Nat} {D : Nat → Bool} {c d : Nat} (hw : w ≤ 12) (hc : wil w h c) (hd : d < 4) (h0 : 0 < wdr w h H D c d) : wnb w h c d = some (wnx w h c d) ∧ wil w h (wnx w h c d) ∧ D (wnx w h c d) = false ∧ H (wnx w h c d) < H c ∧ wdr w h H D c d = H c - H (wnx w h c d) := by
  unfold wdr at h0 ⊢
  cases hnb : wnb w h c d with
  | none => rw [hnb] at h0; exact absurd h0 (Nat.lt_irrefl _)
  | some y =>
    rw [hnb] at h0
    dsimp only at h0 ⊢
    have ey : wnx w h c d = y := by unfold wnx; rw [hnb]; rfl
    rw [ey]
    cases hD : D y with
    | true => rw [hD, if_pos rfl] at h0; exact absurd h0 (Nat.lt_irrefl _)
    | false =>
      rw [hD, if_neg (by decide)] at h0
      rw [if_neg (by decide)]
      exact ⟨rfl, (wnb_sym hw hd hc hnb).2, rfl, by omega, rfl⟩
/-- the Model's sides: the ways down among the first m sides -/
def msd (M : zMm) (w h : Nat) (H : Nat → Nat) (D : Nat → Bool) (c m : Nat) : Prop := ∀ d, d < m → M.2.1 214 d = if 0 < wdr w h H D c d then nI (mI w (wnx w h c d)) else -1
theorem nI_nm1 {n : Nat} (h : n < 2 ^ 31) : ¬ nI n = -1 := fun z => by
  have := zneg1 h
  rw [z] at this
  exact absurd this (by decide)
def zc_X8_restsAhead (a : List Value) (M : zMm) (K : zKt) : Prop := match a with
  | [.ref k, .int cc, .int d', .int dr] => k = 200 ∧ zMr M ∧ ∃ w h H D c d f, w ≤ 12 ∧ h ≤ 10 ∧ wil w h c ∧ zmh M w h H ∧ msd M w h H D c 4 ∧ M.2.1 211 (mI w c) = nI f ∧ f ≤ 1000 ∧ cc = nI (mI w c) ∧ d' = nI d ∧ d < 4 ∧ 0 < wdr w h H D c d ∧ dr = nI (wsm (wdr w h H D c) 4) ∧ K (some (.int (nI (wct (fun o => wpo (wdr w h H D c) o && wah (fun j => f * wdr w h H D c j % wsm (wdr w h H D c) 4) d o) 4)))) M
  | _ => False
set_option maxHeartbeats 2000000 in
theorem zm_X8_restsAhead (l : Launch) (D : va_G) (Y : Nat → ClassId) : zMt l D Y yX8_restsAhead cX8_restsAhead 8 (some .int) 0 0 0 0 zc_X8_restsAhead := by
  refine zwhile1 (h0 := 35) (by decide) (fun K J _ _ => zb_X8_restsAhead_0 K J) (fun K _ _ J => zb_X8_restsAhead_35 K J) (fun X hR J hJ => zbs_X8_restsAhead_0 hR J hJ) (fun X hR J hJ => zbs_X8_restsAhead_35 hR J hJ) (fun avs M K h => ?_)
  unfold zc_X8_restsAhead at h
  split at h
  · next k cc d' dr =>
    obtain ⟨rfl, g1, w, h', H, D, c, d, f, b2, b4, hc, hH, hsd, hf, hf1, rfl, rfl, hd, hdp, rfl, h⟩ := h
    obtain ⟨r7, -, -, -, -, -, -, -, r24, r25, r26, r27, r28, r29, -⟩ := id g1
    have hc120 := mI_120 b2 b4 hc
    obtain ⟨hHc, hHc2⟩ := hH c hc
    have hSle : wsm (wdr w h' H D c) 4 ≤ 4 * 200 := wsm_bd fun i _ => wdr_le hHc2
    have hSpos : 0 < wsm (wdr w h' H D c) 4 := Nat.lt_of_lt_of_le hdp (wsm_mem hd)
    have hS0 : ¬ nI (wsm (wdr w h' H D c) 4) = 0 := nI_ne0 hSpos (by omega)
    have way : ∀ o, o < 4 → 0 < wdr w h' H D c o → M.2.1 214 o = nI (mI w (wnx w h' c o)) ∧ mI w (wnx w h' c o) < 120 ∧ M.2.1 209 (mI w (wnx w h' c o)) = nI (H (wnx w h' c o)) ∧ nI (H c) - nI (H (wnx w h' c o)) = nI (wdr w h' H D c o) ∧ f * wdr w h' H D c o ≤ 1000 * 200 := by
      intro o ho hp
      obtain ⟨q1, q2, q3, q4, q5⟩ := wdr_way b2 hc ho hp
      have e1 := hsd o ho
      rw [if_pos hp] at e1
      refine ⟨e1, mI_120 b2 b4 q2, (hH _ q2).1, ?_, Nat.mul_le_mul hf1 (wdr_le hHc2)⟩
      rw [q5]
      exact pk_sub (Nat.le_of_lt q4)
    have hmd : ∀ o, f * wdr w h' H D c o % wsm (wdr w h' H D c) 4 < 800 + 1 := fun o => Nat.lt_of_lt_of_le (Nat.mod_lt _ hSpos) (by omega)
    refine ⟨by simp [zent], fun q M' ls st => ∃ o t, q = 4 - o ∧ o ≤ 4 ∧ ls = [some (.ref 200), some (.int (nI (mI w c))), some (.int (nI d)), some (.int (nI (wsm (wdr w h' H D c) 4))), some (.int (nI (f * wdr w h' H D c d % wsm (wdr w h' H D c) 4))), some (.int (nI (wct (fun o => wpo (wdr w h' H D c) o && wah (fun j => f * wdr w h' H D c j % wsm (wdr w h' H D c) 4) d o) o))), some (.int (nI o)), t] ∧ st = [] ∧ M' = M, ?_, ?_⟩
    · rintro q J hJ M' ls st ⟨o, t, rfl, ho, rfl, rfl, rfl⟩
      simp only [zb_X8_restsAhead_35, zsh_200, zsh_209, zsh_211, zsh_214, r24, r26, r29, zT_push, zT_bin, zT_div, zT_bil, zT_shl, zT_un, zT_i2l, zT_l2i, zT_lcmp, zT_ild, zT_lld, zT_ald, zT_ist, zT_lst, zT_ast, zT_iinc, zT_dup, zT_dup2, zT_pop, zT_if1, zT_if2, zT_ifn, zT_getI, zT_getJ, zT_getR, zT_putI, zT_putZ, zT_putJ, zT_putR, zT_ald0, zT_lald, zT_aald, zT_iast, zT_zast, zT_bast, zT_last, zT_aast, zT_iret, zT_nret, zT_aret, zT_vret, zT_oi, zT_mm, zT_ialX, zT_S1, zT_S2, zT_S3, zT_V0, zT_V1, zT_V2, zT_V3, zT_V4, zT_V5, zT_V6, zT_I0, zT_I1, zT_I2, zlg, zlset, zlpr, zent, zok, va_rf, List.length_cons, List.length_nil, List.replicate, List.cons_append, List.nil_append, List.append_nil, Option.toList_some, Option.toList_none, Option.toList, Nat.reduceAdd, Nat.reduceSub, Nat.reduceLeDiff, Nat.zero_add, Nat.zero_le, true_and, and_true, Nat.le_refl, ge_iff_le, Nat.reduceEqDiff]
      refine ⟨fun h1 => ?_, fun h1 => ?_⟩
      · have := zn_ge' (b := 4) h1 (by omega) (by omega)
        have e : o = 4 := by omega
        subst e
        exact h
      · have hlt := zn_ge (b := 4) h1 (by omega) (by omega)
        have hin : vp_in (nI o) 4 := vp_in_nI hlt (by decide)
        have hwl := wct_le (fun o => wpo (wdr w h' H D c) o && wah (fun j => f * wdr w h' H D c j % wsm (wdr w h' H D c) 4) d o) o
        have hP : ∀ b : Bool, (wpo (wdr w h' H D c) o && wah (fun j => f * wdr w h' H D c j % wsm (wdr w h' H D c) 4) d o) = b → wct (fun o => wpo (wdr w h' H D c) o && wah (fun j => f * wdr w h' H D c j % wsm (wdr w h' H D c) 4) d o) (o + 1) = wct (fun o => wpo (wdr w h' H D c) o && wah (fun j => f * wdr w h' H D c j % wsm (wdr w h' H D c) 4) d o) o + if b = true then 1 else 0 := fun b hb => by
          rw [← hb]
          rfl
        have S112 : ∀ v t', v = nI (wct (fun o => wpo (wdr w h' H D c) o && wah (fun j => f * wdr w h' H D c j % wsm (wdr w h' H D c) 4) d o) (o + 1)) → zb_X8_restsAhead_112 K J M' [some (.ref 200), some (.int (nI (mI w c))), some (.int (nI d)), some (.int (nI (wsm (wdr w h' H D c) 4))), some (.int (nI (f * wdr w h' H D c d % wsm (wdr w h' H D c) 4))), some (.int v), some (.int (nI o)), t'] [] := by
          intro v t' hv
          simp only [zb_X8_restsAhead_112, zT_push, zT_bin, zT_div, zT_bil, zT_shl, zT_un, zT_i2l, zT_l2i, zT_lcmp, zT_ild, zT_lld, zT_ald, zT_ist, zT_lst, zT_ast, zT_iinc, zT_dup, zT_dup2, zT_pop, zT_if1, zT_if2, zT_ifn, zT_getI, zT_getJ, zT_getR, zT_putI, zT_putZ, zT_putJ, zT_putR, zT_ald0, zT_lald, zT_aald, zT_iast, zT_zast, zT_bast, zT_last, zT_aast, zT_iret, zT_nret, zT_aret, zT_vret, zT_oi, zT_mm, zT_ialX, zT_S1, zT_S2, zT_S3, zT_V0, zT_V1, zT_V2, zT_V3, zT_V4, zT_V5, zT_V6, zT_I0, zT_I1, zT_I2, zlg, zlset, zlpr, zent, zok, va_rf, List.length_cons, List.length_nil, List.replicate, List.cons_append, List.nil_append, List.append_nil, Option.toList_some, Option.toList_none, Option.toList, Nat.reduceAdd, Nat.reduceSub, Nat.reduceLeDiff, Nat.zero_add, Nat.zero_le, true_and, and_true, Nat.le_refl, ge_iff_le, Nat.reduceEqDiff]
          exact hJ (4 - (o + 1)) _ _ _ (by omega) ⟨o + 1, t', rfl, hlt, by rw [nI_1, hv], rfl, rfl⟩
        rw [nI_clamp (n := o) (by omega)]
        refine ⟨hin, fun h2 => S112 _ _ ?_, fun h2 => ?_⟩
        · have hz : ¬ 0 < wdr w h' H D c o := by
            intro hp
            rw [(way o hlt hp).1] at h2
            exact nI_nm1 (Nat.lt_trans (way o hlt hp).2.1 (by decide)) h2
          have hp : wpo (wdr w h' H D c) o = false := by
            cases q : wpo (wdr w h' H D c) o with
            | false => rfl
            | true => exact absurd (wpo_t.mp q) hz
          rw [hP false (by rw [hp, Bool.false_and])]
          rfl
        · have hp : 0 < wdr w h' H D c o := by
            rcases Nat.eq_zero_or_pos (wdr w h' H D c o) with z | z
            · have := hsd o hlt
              rw [if_neg (by omega)] at this
              exact absurd this h2
            · exact z
          obtain ⟨y1, y2, y3, y4, y5⟩ := way o hlt hp
          have hpt := wpo_t.mpr hp
          rw [y1, nI_clamp (n := mI w c) (by omega), nI_clamp (n := mI w (wnx w h' c o)) (by omega), hHc, y3, y4, hf, pk_mul, pk_rem (by omega) hSpos (by omega)]
          have m1 := hmd o
          have m2 := hmd d
          have S108 : (¬ (f * wdr w h' H D c d % wsm (wdr w h' H D c) 4 < f * wdr w h' H D c o % wsm (wdr w h' H D c) 4 ∨ (f * wdr w h' H D c o % wsm (wdr w h' H D c) 4 = f * wdr w h' H D c d % wsm (wdr w h' H D c) 4 ∧ o < d))) → ∀ t', zb_X8_restsAhead_108 K J M' [some (.ref 200), some (.int (nI (mI w c))), some (.int (nI d)), some (.int (nI (wsm (wdr w h' H D c) 4))), some (.int (nI (f * wdr w h' H D c d % wsm (wdr w h' H D c) 4))), some (.int (nI (wct (fun o => wpo (wdr w h' H D c) o && wah (fun j => f * wdr w h' H D c j % wsm (wdr w h' H D c) 4) d o) o))), some (.int (nI o)), t'] [.int (nI (wct (fun o => wpo (wdr w h' H D c) o && wah (fun j => f * wdr w h' H D c j % wsm (wdr w h' H D c) 4) d o) o))] := by
            intro hn t'
            simp only [zb_X8_restsAhead_108, zb_X8_restsAhead_109, zT_push, zT_bin, zT_div, zT_bil, zT_shl, zT_un, zT_i2l, zT_l2i, zT_lcmp, zT_ild, zT_lld, zT_ald, zT_ist, zT_lst, zT_ast, zT_iinc, zT_dup, zT_dup2, zT_pop, zT_if1, zT_if2, zT_ifn, zT_getI, zT_getJ, zT_getR, zT_putI, zT_putZ, zT_putJ, zT_putR, zT_ald0, zT_lald, zT_aald, zT_iast, zT_zast, zT_bast, zT_last, zT_aast, zT_iret, zT_nret, zT_aret, zT_vret, zT_oi, zT_mm, zT_ialX, zT_S1, zT_S2, zT_S3, zT_V0, zT_V1, zT_V2, zT_V3, zT_V4, zT_V5, zT_V6, zT_I0, zT_I1, zT_I2, zlg, zlset, zlpr, zent, zok, va_rf, List.length_cons, List.length_nil, List.replicate, List.cons_append, List.nil_append, List.append_nil, Option.toList_some, Option.toList_none, Option.toList, Nat.reduceAdd, Nat.reduceSub, Nat.reduceLeDiff, Nat.zero_add, Nat.zero_le, true_and, and_true, Nat.le_refl, ge_iff_le, Nat.reduceEqDiff]
            refine S112 _ _ ?_
            rw [hP false (by rw [wah_f (g := fun j => f * wdr w h' H D c j % wsm (wdr w h' H D c) 4) |>.mpr hn, Bool.and_false])]
            exact nI_add _ 0
          have S104 : (f * wdr w h' H D c d % wsm (wdr w h' H D c) 4 < f * wdr w h' H D c o % wsm (wdr w h' H D c) 4 ∨ (f * wdr w h' H D c o % wsm (wdr w h' H D c) 4 = f * wdr w h' H D c d % wsm (wdr w h' H D c) 4 ∧ o < d)) → ∀ t', zb_X8_restsAhead_104 K J M' [some (.ref 200), some (.int (nI (mI w c))), some (.int (nI d)), some (.int (nI (wsm (wdr w h' H D c) 4))), some (.int (nI (f * wdr w h' H D c d % wsm (wdr w h' H D c) 4))), some (.int (nI (wct (fun o => wpo (wdr w h' H D c) o && wah (fun j => f * wdr w h' H D c j % wsm (wdr w h' H D c) 4) d o) o))), some (.int (nI o)), t'] [.int (nI (wct (fun o => wpo (wdr w h' H D c) o && wah (fun j => f * wdr w h' H D c j % wsm (wdr w h' H D c) 4) d o) o))] := by
            intro hn t'
            simp only [zb_X8_restsAhead_104, zb_X8_restsAhead_109, zT_push, zT_bin, zT_div, zT_bil, zT_shl, zT_un, zT_i2l, zT_l2i, zT_lcmp, zT_ild, zT_lld, zT_ald, zT_ist, zT_lst, zT_ast, zT_iinc, zT_dup, zT_dup2, zT_pop, zT_if1, zT_if2, zT_ifn, zT_getI, zT_getJ, zT_getR, zT_putI, zT_putZ, zT_putJ, zT_putR, zT_ald0, zT_lald, zT_aald, zT_iast, zT_zast, zT_bast, zT_last, zT_aast, zT_iret, zT_nret, zT_aret, zT_vret, zT_oi, zT_mm, zT_ialX, zT_S1, zT_S2, zT_S3, zT_V0, zT_V1, zT_V2, zT_V3, zT_V4, zT_V5, zT_V6, zT_I0, zT_I1, zT_I2, zlg, zlset, zlpr, zent, zok, va_rf, List.length_cons, List.length_nil, List.replicate, List.cons_append, List.nil_append, List.append_nil, Option.toList_some, Option.toList_none, Option.toList, Nat.reduceAdd, Nat.reduceSub, Nat.reduceLeDiff, Nat.zero_add, Nat.zero_le, true_and, and_true, Nat.le_refl, ge_iff_le, Nat.reduceEqDiff]
            refine S112 _ _ ?_
            rw [hP true (by rw [wah_t (g := fun j => f * wdr w h' H D c j % wsm (wdr w h' H D c) 4) |>.mpr hn, hpt]; rfl)]
            exact nI_add _ 1
          have hinc : vp_in (nI (mI w c)) 120 := vp_in_nI hc120 (by decide)
          have hinx : vp_in (nI (mI w (wnx w h' c o))) 120 := vp_in_nI y2 (by decide)
          refine ⟨hinc, hinc, hin, hinx, hS0, fun h3 => S104 (Or.inl ?_) _, fun h3 => ⟨fun h4 => ⟨fun h5 => S108 ?_ _, fun h5 => S104 (Or.inr ⟨?_, ?_⟩) _⟩, fun h4 => S108 ?_ _⟩⟩
          · exact (nI_ltI (by omega) (by omega)).mp h3
          · have := zn_ge' h5 (by omega) (by omega)
            have := (nI_eq (by omega) (by omega)).mp h4
            omega
          · exact (nI_eq (by omega) (by omega)).mp h4
          · exact zn_ge h5 (by omega) (by omega)
          · have a1 := fun z => h3 ((nI_ltI (show f * wdr w h' H D c d % wsm (wdr w h' H D c) 4 < 2 ^ 31 by omega) (show f * wdr w h' H D c o % wsm (wdr w h' H D c) 4 < 2 ^ 31 by omega)).mpr z)
            have a2 : ¬ f * wdr w h' H D c o % wsm (wdr w h' H D c) 4 = f * wdr w h' H D c d % wsm (wdr w h' H D c) 4 := fun z => h4 (by rw [z])
            rintro (z | z)
            · exact a1 z
            · exact a2 z.1
    · intro J hJ
      obtain ⟨y1, y2, y3, y4, y5⟩ := way d hd hdp
      simp only [zb_X8_restsAhead_0, zsh_200, zsh_209, zsh_211, zsh_214, r24, r26, r29, zT_push, zT_bin, zT_div, zT_bil, zT_shl, zT_un, zT_i2l, zT_l2i, zT_lcmp, zT_ild, zT_lld, zT_ald, zT_ist, zT_lst, zT_ast, zT_iinc, zT_dup, zT_dup2, zT_pop, zT_if1, zT_if2, zT_ifn, zT_getI, zT_getJ, zT_getR, zT_putI, zT_putZ, zT_putJ, zT_putR, zT_ald0, zT_lald, zT_aald, zT_iast, zT_zast, zT_bast, zT_last, zT_aast, zT_iret, zT_nret, zT_aret, zT_vret, zT_oi, zT_mm, zT_ialX, zT_S1, zT_S2, zT_S3, zT_V0, zT_V1, zT_V2, zT_V3, zT_V4, zT_V5, zT_V6, zT_I0, zT_I1, zT_I2, zlg, zlset, zlpr, zent, zok, va_rf, List.length_cons, List.length_nil, List.replicate, List.cons_append, List.nil_append, List.append_nil, Option.toList_some, Option.toList_none, Option.toList, Nat.reduceAdd, Nat.reduceSub, Nat.reduceLeDiff, Nat.zero_add, Nat.zero_le, true_and, and_true, Nat.le_refl, ge_iff_le, Nat.reduceEqDiff]
      rw [nI_clamp (n := d) (by omega), y1, nI_clamp (n := mI w c) (by omega), nI_clamp (n := mI w (wnx w h' c d)) (by omega), hHc, y3, y4, hf, pk_mul, pk_rem (by omega) hSpos (by omega)]
      have hinc : vp_in (nI (mI w c)) 120 := vp_in_nI hc120 (by decide)
      exact ⟨hinc, hinc, vp_in_nI hd (by decide), vp_in_nI y2 (by decide), hS0, hJ 4 _ _ _ ⟨0, none, rfl, by omega, rfl, rfl, rfl⟩⟩
  · exact h.elim
