/-! DeltaRuns within -/
theorem zd_X7_within_0 : decode cX7_within 0 = .ok (.iload_n 0, 1) := by decide +kernel
theorem zd_X7_within_1 : decode cX7_within 1 = .ok (.iload_n 1, 1) := by decide +kernel
theorem zd_X7_within_2 : decode cX7_within 2 = .ok (.if_icmp .lt 12, 3) := by decide +kernel
theorem zd_X7_within_5 : decode cX7_within 5 = .ok (.iload_n 0, 1) := by decide +kernel
theorem zd_X7_within_6 : decode cX7_within 6 = .ok (.iload_n 2, 1) := by decide +kernel
theorem zd_X7_within_7 : decode cX7_within 7 = .ok (.if_icmp .gt 7, 3) := by decide +kernel
theorem zd_X7_within_10 : decode cX7_within 10 = .ok (.iconst 1, 1) := by decide +kernel
theorem zd_X7_within_11 : decode cX7_within 11 = .ok (.goto 4, 3) := by decide +kernel
theorem zd_X7_within_14 : decode cX7_within 14 = .ok (.iconst 0, 1) := by decide +kernel
theorem zd_X7_within_15 : decode cX7_within 15 = .ok (.ireturn, 1) := by decide +kernel
def zb_X7_within_15 (K : zKt) (J : Nat → zPP) : zPP := zT_nret .boolean K
theorem zbs_X7_within_15 {X : zCt} (hR : zRX X = { frames := 0, cells := 0, slots := 0, locals := 0 }) (J : Nat → zPP) (hJ : ∀ h ∈ ([] : List Nat), zSd X RX7 "within" cX7_within 3 (some .boolean) h (J h)) : zSd X RX7 "within" cX7_within 3 (some .boolean) 15 (zb_X7_within_15 (zKX X) J) := zs_nret rfl zd_X7_within_15
def zb_X7_within_14 (K : zKt) (J : Nat → zPP) : zPP := zT_push (.int 0) (zb_X7_within_15 K J)
theorem zbs_X7_within_14 {X : zCt} (hR : zRX X = { frames := 0, cells := 0, slots := 0, locals := 0 }) (J : Nat → zPP) (hJ : ∀ h ∈ ([] : List Nat), zSd X RX7 "within" cX7_within 3 (some .boolean) h (J h)) : zSd X RX7 "within" cX7_within 3 (some .boolean) 14 (zb_X7_within_14 (zKX X) J) := zs_iconst zd_X7_within_14 (by decide) (zbs_X7_within_15 hR J hJ)
def zb_X7_within_0 (K : zKt) (J : Nat → zPP) : zPP := zT_ild 0 (zT_ild 1 (zT_if2 (fun x y => x < y) (zb_X7_within_14 K J) (zT_ild 0 (zT_ild 2 (zT_if2 (fun x y => y < x) (zb_X7_within_14 K J) (zT_push (.int 1) (zb_X7_within_15 K J)))))))
theorem zbs_X7_within_0 {X : zCt} (hR : zRX X = { frames := 0, cells := 0, slots := 0, locals := 0 }) (J : Nat → zPP) (hJ : ∀ h ∈ ([] : List Nat), zSd X RX7 "within" cX7_within 3 (some .boolean) h (J h)) : zSd X RX7 "within" cX7_within 3 (some .boolean) 0 (zb_X7_within_0 (zKX X) J) := zs_iload_n zd_X7_within_0 rfl (zs_iload_n zd_X7_within_1 rfl (zs_icmp_lt (tgt := 14) zd_X7_within_2 (by decide) (zbs_X7_within_14 hR J hJ) (zs_iload_n zd_X7_within_5 rfl (zs_iload_n zd_X7_within_6 rfl (zs_icmp_gt (tgt := 14) zd_X7_within_7 (by decide) (zbs_X7_within_14 hR J hJ) (zs_iconst zd_X7_within_10 (by decide) (zs_goto (tgt := 15) zd_X7_within_11 (by decide) (zbs_X7_within_15 hR J hJ))))))))
theorem zdn_X7_within : yX7_within.cls ≠ "java/lang/invoke/MethodHandle" ∧ yX7_within.cls ≠ "java/lang/invoke/VarHandle" ∧ (parseMethodDescriptor yX7_within.desc).map (fun d => d.parameters.length) = some 3 := by decide +kernel
/-! DeltaRuns cellAt -/
theorem zd_X7_cellAt_0 : decode cX7_cellAt 0 = .ok (.iload_n 1, 1) := by decide +kernel
theorem zd_X7_cellAt_1 : decode cX7_cellAt 1 = .ok (.bipush 12, 2) := by decide +kernel
theorem zd_X7_cellAt_3 : decode cX7_cellAt 3 = .ok (.imul, 1) := by decide +kernel
theorem zd_X7_cellAt_4 : decode cX7_cellAt 4 = .ok (.iload_n 0, 1) := by decide +kernel
theorem zd_X7_cellAt_5 : decode cX7_cellAt 5 = .ok (.iadd, 1) := by decide +kernel
theorem zd_X7_cellAt_6 : decode cX7_cellAt 6 = .ok (.ireturn, 1) := by decide +kernel
def zb_X7_cellAt_0 (K : zKt) (J : Nat → zPP) : zPP := zT_ild 1 (zT_push (.int 12) (zT_bin (fun x y => x * y) (zT_ild 0 (zT_bin (fun x y => x + y) (zT_iret K)))))
theorem zbs_X7_cellAt_0 {X : zCt} (hR : zRX X = { frames := 0, cells := 0, slots := 0, locals := 0 }) (J : Nat → zPP) (hJ : ∀ h ∈ ([] : List Nat), zSd X RX7 "cellAt" cX7_cellAt 2 (some .int) h (J h)) : zSd X RX7 "cellAt" cX7_cellAt 2 (some .int) 0 (zb_X7_cellAt_0 (zKX X) J) := zs_iload_n zd_X7_cellAt_0 rfl (zs_bipush zd_X7_cellAt_1 (by decide) (zs_imul zd_X7_cellAt_3 (zs_iload_n zd_X7_cellAt_4 rfl (zs_iadd zd_X7_cellAt_5 (zs_iret rfl zd_X7_cellAt_6)))))
theorem zdn_X7_cellAt : yX7_cellAt.cls ≠ "java/lang/invoke/MethodHandle" ∧ yX7_cellAt.cls ≠ "java/lang/invoke/VarHandle" ∧ (parseMethodDescriptor yX7_cellAt.desc).map (fun d => d.parameters.length) = some 2 := by decide +kernel
/-! DeltaRuns sortOf -/
theorem zd_X7_sortOf_0 : decode cX7_sortOf 0 = .ok (.iload_n 0, 1) := by decide +kernel
theorem zd_X7_sortOf_1 : decode cX7_sortOf 1 = .ok (.bipush 12, 2) := by decide +kernel
theorem zd_X7_sortOf_3 : decode cX7_sortOf 3 = .ok (.idiv, 1) := by decide +kernel
theorem zd_X7_sortOf_4 : decode cX7_sortOf 4 = .ok (.ireturn, 1) := by decide +kernel
def zb_X7_sortOf_0 (K : zKt) (J : Nat → zPP) : zPP := zT_ild 0 (zT_push (.int 12) (zT_div (fun x y => x / y) (zT_iret K)))
theorem zbs_X7_sortOf_0 {X : zCt} (hR : zRX X = { frames := 0, cells := 0, slots := 0, locals := 0 }) (J : Nat → zPP) (hJ : ∀ h ∈ ([] : List Nat), zSd X RX7 "sortOf" cX7_sortOf 1 (some .int) h (J h)) : zSd X RX7 "sortOf" cX7_sortOf 1 (some .int) 0 (zb_X7_sortOf_0 (zKX X) J) := zs_iload_n zd_X7_sortOf_0 rfl (zs_bipush zd_X7_sortOf_1 (by decide) (zs_idiv zd_X7_sortOf_3 (zs_iret rfl zd_X7_sortOf_4)))
theorem zdn_X7_sortOf : yX7_sortOf.cls ≠ "java/lang/invoke/MethodHandle" ∧ yX7_sortOf.cls ≠ "java/lang/invoke/VarHandle" ∧ (parseMethodDescriptor yX7_sortOf.desc).map (fun d => d.parameters.length) = some 1 := by decide +kernel
/-! DeltaRuns rateOf -/
theorem zd_X7_rateOf_0 : decode cX7_rateOf 0 = .ok (.iconst 1, 1) := by decide +kernel
theorem zd_X7_rateOf_1 : decode cX7_rateOf 1 = .ok (.iload_n 0, 1) := by decide +kernel
theorem zd_X7_rateOf_2 : decode cX7_rateOf 2 = .ok (.iconst 2, 1) := by decide +kernel
theorem zd_X7_rateOf_3 : decode cX7_rateOf 3 = .ok (.idiv, 1) := by decide +kernel
theorem zd_X7_rateOf_4 : decode cX7_rateOf 4 = .ok (.bipush 6, 2) := by decide +kernel
theorem zd_X7_rateOf_6 : decode cX7_rateOf 6 = .ok (.irem, 1) := by decide +kernel
theorem zd_X7_rateOf_7 : decode cX7_rateOf 7 = .ok (.iadd, 1) := by decide +kernel
theorem zd_X7_rateOf_8 : decode cX7_rateOf 8 = .ok (.ireturn, 1) := by decide +kernel
def zb_X7_rateOf_0 (K : zKt) (J : Nat → zPP) : zPP := zT_push (.int 1) (zT_ild 0 (zT_push (.int 2) (zT_div (fun x y => x / y) (zT_push (.int 6) (zT_div (fun x y => x - x / y * y) (zT_bin (fun x y => x + y) (zT_iret K)))))))
theorem zbs_X7_rateOf_0 {X : zCt} (hR : zRX X = { frames := 0, cells := 0, slots := 0, locals := 0 }) (J : Nat → zPP) (hJ : ∀ h ∈ ([] : List Nat), zSd X RX7 "rateOf" cX7_rateOf 1 (some .int) h (J h)) : zSd X RX7 "rateOf" cX7_rateOf 1 (some .int) 0 (zb_X7_rateOf_0 (zKX X) J) := zs_iconst zd_X7_rateOf_0 (by decide) (zs_iload_n zd_X7_rateOf_1 rfl (zs_iconst zd_X7_rateOf_2 (by decide) (zs_idiv zd_X7_rateOf_3 (zs_bipush zd_X7_rateOf_4 (by decide) (zs_irem zd_X7_rateOf_6 (zs_iadd zd_X7_rateOf_7 (zs_iret rfl zd_X7_rateOf_8)))))))
theorem zdn_X7_rateOf : yX7_rateOf.cls ≠ "java/lang/invoke/MethodHandle" ∧ yX7_rateOf.cls ≠ "java/lang/invoke/VarHandle" ∧ (parseMethodDescriptor yX7_rateOf.desc).map (fun d => d.parameters.length) = some 1 := by decide +kernel
/-! DeltaRuns wearOf -/
theorem zd_X7_wearOf_0 : decode cX7_wearOf 0 = .ok (.iload_n 0, 1) := by decide +kernel
theorem zd_X7_wearOf_1 : decode cX7_wearOf 1 = .ok (.iconst 2, 1) := by decide +kernel
theorem zd_X7_wearOf_2 : decode cX7_wearOf 2 = .ok (.irem, 1) := by decide +kernel
theorem zd_X7_wearOf_3 : decode cX7_wearOf 3 = .ok (.ireturn, 1) := by decide +kernel
def zb_X7_wearOf_0 (K : zKt) (J : Nat → zPP) : zPP := zT_ild 0 (zT_push (.int 2) (zT_div (fun x y => x - x / y * y) (zT_iret K)))
theorem zbs_X7_wearOf_0 {X : zCt} (hR : zRX X = { frames := 0, cells := 0, slots := 0, locals := 0 }) (J : Nat → zPP) (hJ : ∀ h ∈ ([] : List Nat), zSd X RX7 "wearOf" cX7_wearOf 1 (some .int) h (J h)) : zSd X RX7 "wearOf" cX7_wearOf 1 (some .int) 0 (zb_X7_wearOf_0 (zKX X) J) := zs_iload_n zd_X7_wearOf_0 rfl (zs_iconst zd_X7_wearOf_1 (by decide) (zs_irem zd_X7_wearOf_2 (zs_iret rfl zd_X7_wearOf_3)))
theorem zdn_X7_wearOf : yX7_wearOf.cls ≠ "java/lang/invoke/MethodHandle" ∧ yX7_wearOf.cls ≠ "java/lang/invoke/VarHandle" ∧ (parseMethodDescriptor yX7_wearOf.desc).map (fun d => d.parameters.length) = some 1 := by decide +kernel
/-! DeltaRuns trend -/
theorem zd_X7_trend_0 : decode cX7_trend 0 = .ok (.iload_n 1, 1) := by decide +kernel
theorem zd_X7_trend_1 : decode cX7_trend 1 = .ok (.iload_n 0, 1) := by decide +kernel
theorem zd_X7_trend_2 : decode cX7_trend 2 = .ok (.if_icmp .le 5, 3) := by decide +kernel
theorem zd_X7_trend_5 : decode cX7_trend 5 = .ok (.iconst 1, 1) := by decide +kernel
theorem zd_X7_trend_6 : decode cX7_trend 6 = .ok (.ireturn, 1) := by decide +kernel
theorem zd_X7_trend_7 : decode cX7_trend 7 = .ok (.iload_n 2, 1) := by decide +kernel
theorem zd_X7_trend_8 : decode cX7_trend 8 = .ok (.iload_n 0, 1) := by decide +kernel
theorem zd_X7_trend_9 : decode cX7_trend 9 = .ok (.if_icmp .ge 7, 3) := by decide +kernel
theorem zd_X7_trend_12 : decode cX7_trend 12 = .ok (.iconst (-1), 1) := by decide +kernel
theorem zd_X7_trend_13 : decode cX7_trend 13 = .ok (.goto 4, 3) := by decide +kernel
theorem zd_X7_trend_16 : decode cX7_trend 16 = .ok (.iconst 0, 1) := by decide +kernel
theorem zd_X7_trend_17 : decode cX7_trend 17 = .ok (.ireturn, 1) := by decide +kernel
def zb_X7_trend_17 (K : zKt) (J : Nat → zPP) : zPP := zT_iret K
theorem zbs_X7_trend_17 {X : zCt} (hR : zRX X = { frames := 0, cells := 0, slots := 0, locals := 0 }) (J : Nat → zPP) (hJ : ∀ h ∈ ([] : List Nat), zSd X RX7 "trend" cX7_trend 3 (some .int) h (J h)) : zSd X RX7 "trend" cX7_trend 3 (some .int) 17 (zb_X7_trend_17 (zKX X) J) := zs_iret rfl zd_X7_trend_17
def zb_X7_trend_0 (K : zKt) (J : Nat → zPP) : zPP := zT_ild 1 (zT_ild 0 (zT_if2 (fun x y => x ≤ y) (zT_ild 2 (zT_ild 0 (zT_if2 (fun x y => y ≤ x) (zT_push (.int 0) (zb_X7_trend_17 K J)) (zT_push (.int (-1)) (zb_X7_trend_17 K J))))) (zT_push (.int 1) (zT_iret K))))
theorem zbs_X7_trend_0 {X : zCt} (hR : zRX X = { frames := 0, cells := 0, slots := 0, locals := 0 }) (J : Nat → zPP) (hJ : ∀ h ∈ ([] : List Nat), zSd X RX7 "trend" cX7_trend 3 (some .int) h (J h)) : zSd X RX7 "trend" cX7_trend 3 (some .int) 0 (zb_X7_trend_0 (zKX X) J) := zs_iload_n zd_X7_trend_0 rfl (zs_iload_n zd_X7_trend_1 rfl (zs_icmp_le (tgt := 7) zd_X7_trend_2 (by decide) (zs_iload_n zd_X7_trend_7 rfl (zs_iload_n zd_X7_trend_8 rfl (zs_icmp_ge (tgt := 16) zd_X7_trend_9 (by decide) (zs_iconst zd_X7_trend_16 (by decide) (zbs_X7_trend_17 hR J hJ)) (zs_iconst zd_X7_trend_12 (by decide) (zs_goto (tgt := 17) zd_X7_trend_13 (by decide) (zbs_X7_trend_17 hR J hJ)))))) (zs_iconst zd_X7_trend_5 (by decide) (zs_iret rfl zd_X7_trend_6))))
theorem zdn_X7_trend : yX7_trend.cls ≠ "java/lang/invoke/MethodHandle" ∧ yX7_trend.cls ≠ "java/lang/invoke/VarHandle" ∧ (parseMethodDescriptor yX7_trend.desc).map (fun d => d.parameters.length) = some 3 := by decide +kernel
/-! DeltaRuns refuse -/
theorem zd_X7_refuse_0 : decode cX7_refuse 0 = .ok (.aload_n 0, 1) := by decide +kernel
theorem zd_X7_refuse_1 : decode cX7_refuse 1 = .ok (.iload_n 1, 1) := by decide +kernel
theorem zd_X7_refuse_2 : decode cX7_refuse 2 = .ok (.putfield 57, 3) := by decide +kernel
theorem zd_X7_refuse_5 : decode cX7_refuse 5 = .ok (.iload_n 1, 1) := by decide +kernel
theorem zd_X7_refuse_6 : decode cX7_refuse 6 = .ok (.ireturn, 1) := by decide +kernel
def zb_X7_refuse_0 (K : zKt) (J : Nat → zPP) : zPP := zT_ald 0 (zT_ild 1 (zT_putI 7 8 9 (zT_ild 1 (zT_iret K))))
theorem zbs_X7_refuse_0 {X : zCt} (hR : zRX X = { frames := 0, cells := 0, slots := 0, locals := 0 }) (J : Nat → zPP) (hJ : ∀ h ∈ ([] : List Nat), zSd X RX7 "refuse" cX7_refuse 2 (some .int) h (J h)) : zSd X RX7 "refuse" cX7_refuse 2 (some .int) 0 (zb_X7_refuse_0 (zKX X) J) := zs_aload_n zd_X7_refuse_0 rfl (zs_iload_n zd_X7_refuse_1 rfl (zs_putI (ci := 7) (j := 8) (T := TX7) rfl inX7 tyX7_ok nmX7 (by decide) gw_1_193 rfl rfl rfl zd_X7_refuse_2 (zs_iload_n zd_X7_refuse_5 rfl (zs_iret rfl zd_X7_refuse_6))))
theorem zdn_X7_refuse : yX7_refuse.cls ≠ "java/lang/invoke/MethodHandle" ∧ yX7_refuse.cls ≠ "java/lang/invoke/VarHandle" ∧ (parseMethodDescriptor yX7_refuse.desc).map (fun d => d.parameters.length) = some 1 := by decide +kernel
/-! DeltaRuns accept -/
theorem zd_X7_accept_0 : decode cX7_accept 0 = .ok (.aload_n 0, 1) := by decide +kernel
theorem zd_X7_accept_1 : decode cX7_accept 1 = .ok (.iconst 0, 1) := by decide +kernel
theorem zd_X7_accept_2 : decode cX7_accept 2 = .ok (.putfield 57, 3) := by decide +kernel
theorem zd_X7_accept_5 : decode cX7_accept 5 = .ok (.iload_n 1, 1) := by decide +kernel
theorem zd_X7_accept_6 : decode cX7_accept 6 = .ok (.ireturn, 1) := by decide +kernel
def zb_X7_accept_0 (K : zKt) (J : Nat → zPP) : zPP := zT_ald 0 (zT_push (.int 0) (zT_putI 7 8 9 (zT_ild 1 (zT_iret K))))
theorem zbs_X7_accept_0 {X : zCt} (hR : zRX X = { frames := 0, cells := 0, slots := 0, locals := 0 }) (J : Nat → zPP) (hJ : ∀ h ∈ ([] : List Nat), zSd X RX7 "accept" cX7_accept 2 (some .int) h (J h)) : zSd X RX7 "accept" cX7_accept 2 (some .int) 0 (zb_X7_accept_0 (zKX X) J) := zs_aload_n zd_X7_accept_0 rfl (zs_iconst zd_X7_accept_1 (by decide) (zs_putI (ci := 7) (j := 8) (T := TX7) rfl inX7 tyX7_ok nmX7 (by decide) gw_1_193 rfl rfl rfl zd_X7_accept_2 (zs_iload_n zd_X7_accept_5 rfl (zs_iret rfl zd_X7_accept_6))))
theorem zdn_X7_accept : yX7_accept.cls ≠ "java/lang/invoke/MethodHandle" ∧ yX7_accept.cls ≠ "java/lang/invoke/VarHandle" ∧ (parseMethodDescriptor yX7_accept.desc).map (fun d => d.parameters.length) = some 1 := by decide +kernel
/-! DeltaRuns$Land has -/
theorem zd_X1_has_0 : decode cX1_has 0 = .ok (.iload_n 1, 1) := by decide +kernel
theorem zd_X1_has_1 : decode cX1_has 1 = .ok (.ifCond .lt 27, 3) := by decide +kernel
theorem zd_X1_has_4 : decode cX1_has 4 = .ok (.iload_n 1, 1) := by decide +kernel
theorem zd_X1_has_5 : decode cX1_has 5 = .ok (.aload_n 0, 1) := by decide +kernel
theorem zd_X1_has_6 : decode cX1_has 6 = .ok (.getfield 26, 3) := by decide +kernel
theorem zd_X1_has_9 : decode cX1_has 9 = .ok (.if_icmp .ge 19, 3) := by decide +kernel
theorem zd_X1_has_12 : decode cX1_has 12 = .ok (.iload_n 2, 1) := by decide +kernel
theorem zd_X1_has_13 : decode cX1_has 13 = .ok (.ifCond .lt 15, 3) := by decide +kernel
theorem zd_X1_has_16 : decode cX1_has 16 = .ok (.iload_n 2, 1) := by decide +kernel
theorem zd_X1_has_17 : decode cX1_has 17 = .ok (.aload_n 0, 1) := by decide +kernel
theorem zd_X1_has_18 : decode cX1_has 18 = .ok (.getfield 29, 3) := by decide +kernel
theorem zd_X1_has_21 : decode cX1_has 21 = .ok (.if_icmp .ge 7, 3) := by decide +kernel
theorem zd_X1_has_24 : decode cX1_has 24 = .ok (.iconst 1, 1) := by decide +kernel
theorem zd_X1_has_25 : decode cX1_has 25 = .ok (.goto 4, 3) := by decide +kernel
theorem zd_X1_has_28 : decode cX1_has 28 = .ok (.iconst 0, 1) := by decide +kernel
theorem zd_X1_has_29 : decode cX1_has 29 = .ok (.ireturn, 1) := by decide +kernel
def zb_X1_has_29 (K : zKt) (J : Nat → zPP) : zPP := zT_nret .boolean K
theorem zbs_X1_has_29 {X : zCt} (hR : zRX X = { frames := 0, cells := 0, slots := 0, locals := 0 }) (J : Nat → zPP) (hJ : ∀ h ∈ ([] : List Nat), zSd X RX1 "has" cX1_has 3 (some .boolean) h (J h)) : zSd X RX1 "has" cX1_has 3 (some .boolean) 29 (zb_X1_has_29 (zKX X) J) := zs_nret rfl zd_X1_has_29
def zb_X1_has_28 (K : zKt) (J : Nat → zPP) : zPP := zT_push (.int 0) (zb_X1_has_29 K J)
theorem zbs_X1_has_28 {X : zCt} (hR : zRX X = { frames := 0, cells := 0, slots := 0, locals := 0 }) (J : Nat → zPP) (hJ : ∀ h ∈ ([] : List Nat), zSd X RX1 "has" cX1_has 3 (some .boolean) h (J h)) : zSd X RX1 "has" cX1_has 3 (some .boolean) 28 (zb_X1_has_28 (zKX X) J) := zs_iconst zd_X1_has_28 (by decide) (zbs_X1_has_29 hR J hJ)
def zb_X1_has_0 (K : zKt) (J : Nat → zPP) : zPP := zT_ild 1 (zT_if1 (fun x => x < 0) (zb_X1_has_28 K J) (zT_ild 1 (zT_ald 0 (zT_getI 1 1 6 (zT_if2 (fun x y => y ≤ x) (zb_X1_has_28 K J) (zT_ild 2 (zT_if1 (fun x => x < 0) (zb_X1_has_28 K J) (zT_ild 2 (zT_ald 0 (zT_getI 1 2 6 (zT_if2 (fun x y => y ≤ x) (zb_X1_has_28 K J) (zT_push (.int 1) (zb_X1_has_29 K J)))))))))))))
theorem zbs_X1_has_0 {X : zCt} (hR : zRX X = { frames := 0, cells := 0, slots := 0, locals := 0 }) (J : Nat → zPP) (hJ : ∀ h ∈ ([] : List Nat), zSd X RX1 "has" cX1_has 3 (some .boolean) h (J h)) : zSd X RX1 "has" cX1_has 3 (some .boolean) 0 (zb_X1_has_0 (zKX X) J) := zs_iload_n zd_X1_has_0 rfl (zs_if_lt (tgt := 28) zd_X1_has_1 (by decide) (zbs_X1_has_28 hR J hJ) (zs_iload_n zd_X1_has_4 rfl (zs_aload_n zd_X1_has_5 rfl (zs_getI (ci := 1) (j := 1) (T := TX1) rfl inX1 (by decide) gw_1_35 rfl zd_X1_has_6 (zs_icmp_ge (tgt := 28) zd_X1_has_9 (by decide) (zbs_X1_has_28 hR J hJ) (zs_iload_n zd_X1_has_12 rfl (zs_if_lt (tgt := 28) zd_X1_has_13 (by decide) (zbs_X1_has_28 hR J hJ) (zs_iload_n zd_X1_has_16 rfl (zs_aload_n zd_X1_has_17 rfl (zs_getI (ci := 1) (j := 2) (T := TX1) rfl inX1 (by decide) gw_1_37 rfl zd_X1_has_18 (zs_icmp_ge (tgt := 28) zd_X1_has_21 (by decide) (zbs_X1_has_28 hR J hJ) (zs_iconst zd_X1_has_24 (by decide) (zs_goto (tgt := 29) zd_X1_has_25 (by decide) (zbs_X1_has_29 hR J hJ))))))))))))))
theorem zdn_X1_has : yX1_has.cls ≠ "java/lang/invoke/MethodHandle" ∧ yX1_has.cls ≠ "java/lang/invoke/VarHandle" ∧ (parseMethodDescriptor yX1_has.desc).map (fun d => d.parameters.length) = some 2 := by decide +kernel
/-! DeltaRuns$Water firstGreatest -/
theorem zd_X5_firstGreatest_0 : decode cX5_firstGreatest 0 = .ok (.iconst 0, 1) := by decide +kernel
theorem zd_X5_firstGreatest_1 : decode cX5_firstGreatest 1 = .ok (.istore_n 2, 1) := by decide +kernel
theorem zd_X5_firstGreatest_2 : decode cX5_firstGreatest 2 = .ok (.iconst 1, 1) := by decide +kernel
theorem zd_X5_firstGreatest_3 : decode cX5_firstGreatest 3 = .ok (.istore_n 3, 1) := by decide +kernel
theorem zd_X5_firstGreatest_4 : decode cX5_firstGreatest 4 = .ok (.iload_n 3, 1) := by decide +kernel
theorem zd_X5_firstGreatest_5 : decode cX5_firstGreatest 5 = .ok (.aload_n 0, 1) := by decide +kernel
theorem zd_X5_firstGreatest_6 : decode cX5_firstGreatest 6 = .ok (.getfield 76, 3) := by decide +kernel
theorem zd_X5_firstGreatest_9 : decode cX5_firstGreatest 9 = .ok (.if_icmp .ge 20, 3) := by decide +kernel
theorem zd_X5_firstGreatest_12 : decode cX5_firstGreatest 12 = .ok (.aload_n 1, 1) := by decide +kernel
theorem zd_X5_firstGreatest_13 : decode cX5_firstGreatest 13 = .ok (.iload_n 3, 1) := by decide +kernel
theorem zd_X5_firstGreatest_14 : decode cX5_firstGreatest 14 = .ok (.iaload, 1) := by decide +kernel
theorem zd_X5_firstGreatest_15 : decode cX5_firstGreatest 15 = .ok (.aload_n 1, 1) := by decide +kernel
theorem zd_X5_firstGreatest_16 : decode cX5_firstGreatest 16 = .ok (.iload_n 2, 1) := by decide +kernel
theorem zd_X5_firstGreatest_17 : decode cX5_firstGreatest 17 = .ok (.iaload, 1) := by decide +kernel
theorem zd_X5_firstGreatest_18 : decode cX5_firstGreatest 18 = .ok (.if_icmp .le 5, 3) := by decide +kernel
theorem zd_X5_firstGreatest_21 : decode cX5_firstGreatest 21 = .ok (.iload_n 3, 1) := by decide +kernel
theorem zd_X5_firstGreatest_22 : decode cX5_firstGreatest 22 = .ok (.istore_n 2, 1) := by decide +kernel
theorem zd_X5_firstGreatest_23 : decode cX5_firstGreatest 23 = .ok (.iinc 3 1, 3) := by decide +kernel
theorem zd_X5_firstGreatest_26 : decode cX5_firstGreatest 26 = .ok (.goto (-22), 3) := by decide +kernel
theorem zd_X5_firstGreatest_29 : decode cX5_firstGreatest 29 = .ok (.iload_n 2, 1) := by decide +kernel
theorem zd_X5_firstGreatest_30 : decode cX5_firstGreatest 30 = .ok (.ireturn, 1) := by decide +kernel
def zb_X5_firstGreatest_0 (K : zKt) (J : Nat → zPP) : zPP := zT_push (.int 0) (zT_ist 2 (zT_push (.int 1) (zT_ist 3 (J 4))))
theorem zbs_X5_firstGreatest_0 {X : zCt} (hR : zRX X = { frames := 0, cells := 0, slots := 0, locals := 0 }) (J : Nat → zPP) (hJ : ∀ h ∈ ([4] : List Nat), zSd X RX5 "firstGreatest" cX5_firstGreatest 4 (some .int) h (J h)) : zSd X RX5 "firstGreatest" cX5_firstGreatest 4 (some .int) 0 (zb_X5_firstGreatest_0 (zKX X) J) := zs_iconst zd_X5_firstGreatest_0 (by decide) (zs_istore_n zd_X5_firstGreatest_1 rfl (by decide) (zs_iconst zd_X5_firstGreatest_2 (by decide) (zs_istore_n zd_X5_firstGreatest_3 rfl (by decide) (hJ 4 (by decide)))))
def zb_X5_firstGreatest_23 (K : zKt) (J : Nat → zPP) : zPP := zT_iinc 3 1 (J 4)
theorem zbs_X5_firstGreatest_23 {X : zCt} (hR : zRX X = { frames := 0, cells := 0, slots := 0, locals := 0 }) (J : Nat → zPP) (hJ : ∀ h ∈ ([4] : List Nat), zSd X RX5 "firstGreatest" cX5_firstGreatest 4 (some .int) h (J h)) : zSd X RX5 "firstGreatest" cX5_firstGreatest 4 (some .int) 23 (zb_X5_firstGreatest_23 (zKX X) J) := zs_iinc zd_X5_firstGreatest_23 (by decide) (by decide) (zs_goto (tgt := 4) zd_X5_firstGreatest_26 (by decide) (hJ 4 (by decide)))
def zb_X5_firstGreatest_4 (K : zKt) (J : Nat → zPP) : zPP := zT_ild 3 (zT_ald 0 (zT_getI 5 10 11 (zT_if2 (fun x y => y ≤ x) (zT_ild 2 (zT_iret K)) (zT_ald 1 (zT_ild 3 (zT_ald0 0 (zT_ald 1 (zT_ild 2 (zT_ald0 0 (zT_if2 (fun x y => x ≤ y) (zb_X5_firstGreatest_23 K J) (zT_ild 3 (zT_ist 2 (zb_X5_firstGreatest_23 K J)))))))))))))
theorem zbs_X5_firstGreatest_4 {X : zCt} (hR : zRX X = { frames := 0, cells := 0, slots := 0, locals := 0 }) (J : Nat → zPP) (hJ : ∀ h ∈ ([4] : List Nat), zSd X RX5 "firstGreatest" cX5_firstGreatest 4 (some .int) h (J h)) : zSd X RX5 "firstGreatest" cX5_firstGreatest 4 (some .int) 4 (zb_X5_firstGreatest_4 (zKX X) J) := zs_iload_n zd_X5_firstGreatest_4 rfl (zs_aload_n zd_X5_firstGreatest_5 rfl (zs_getI (ci := 5) (j := 10) (T := TX5) rfl inX5 (by decide) gw_1_126 rfl zd_X5_firstGreatest_6 (zs_icmp_ge (tgt := 29) zd_X5_firstGreatest_9 (by decide) (zs_iload_n zd_X5_firstGreatest_29 rfl (zs_iret rfl zd_X5_firstGreatest_30)) (zs_aload_n zd_X5_firstGreatest_12 rfl (zs_iload_n zd_X5_firstGreatest_13 rfl (zs_iald zd_X5_firstGreatest_14 (zs_aload_n zd_X5_firstGreatest_15 rfl (zs_iload_n zd_X5_firstGreatest_16 rfl (zs_iald zd_X5_firstGreatest_17 (zs_icmp_le (tgt := 23) zd_X5_firstGreatest_18 (by decide) (zbs_X5_firstGreatest_23 hR J hJ) (zs_iload_n zd_X5_firstGreatest_21 rfl (zs_istore_n zd_X5_firstGreatest_22 rfl (by decide) (zbs_X5_firstGreatest_23 hR J hJ)))))))))))))
def zB_X5_firstGreatest (K : zKt) (J : Nat → zPP) (h : Nat) : zPP := if h = 4 then zb_X5_firstGreatest_4 K J else (fun _ _ _ => False)
theorem zBs_X5_firstGreatest {X : zCt} (hR : zRX X = { frames := 0, cells := 0, slots := 0, locals := 0 }) : ∀ J : Nat → zPP, (∀ h ∈ ([4] : List Nat), zSd X RX5 "firstGreatest" cX5_firstGreatest 4 (some .int) h (J h)) → ∀ h ∈ ([4] : List Nat), zSd X RX5 "firstGreatest" cX5_firstGreatest 4 (some .int) h (zB_X5_firstGreatest (zKX X) J h) := by
  intro J hJ h hh
  unfold zB_X5_firstGreatest
  simp only [List.mem_cons, List.not_mem_nil, or_false] at hh
  subst hh
  exact zbs_X5_firstGreatest_4 hR J hJ
theorem zdn_X5_firstGreatest : yX5_firstGreatest.cls ≠ "java/lang/invoke/MethodHandle" ∧ yX5_firstGreatest.cls ≠ "java/lang/invoke/VarHandle" ∧ (parseMethodDescriptor yX5_firstGreatest.desc).map (fun d => d.parameters.length) = some 1 := by decide +kernel
/-! DeltaRuns$Water goesAhead -/
theorem zd_X5_goesAhead_0 : decode cX5_goesAhead 0 = .ok (.aload_n 0, 1) := by decide +kernel
theorem zd_X5_goesAhead_1 : decode cX5_goesAhead 1 = .ok (.getfield 9, 3) := by decide +kernel
theorem zd_X5_goesAhead_4 : decode cX5_goesAhead 4 = .ok (.iload_n 1, 1) := by decide +kernel
theorem zd_X5_goesAhead_5 : decode cX5_goesAhead 5 = .ok (.iaload, 1) := by decide +kernel
theorem zd_X5_goesAhead_6 : decode cX5_goesAhead 6 = .ok (.aload_n 0, 1) := by decide +kernel
theorem zd_X5_goesAhead_7 : decode cX5_goesAhead 7 = .ok (.getfield 9, 3) := by decide +kernel
theorem zd_X5_goesAhead_10 : decode cX5_goesAhead 10 = .ok (.iload_n 2, 1) := by decide +kernel
theorem zd_X5_goesAhead_11 : decode cX5_goesAhead 11 = .ok (.iaload, 1) := by decide +kernel
theorem zd_X5_goesAhead_12 : decode cX5_goesAhead 12 = .ok (.if_icmp .eq 24, 3) := by decide +kernel
theorem zd_X5_goesAhead_15 : decode cX5_goesAhead 15 = .ok (.aload_n 0, 1) := by decide +kernel
theorem zd_X5_goesAhead_16 : decode cX5_goesAhead 16 = .ok (.getfield 9, 3) := by decide +kernel
theorem zd_X5_goesAhead_19 : decode cX5_goesAhead 19 = .ok (.iload_n 1, 1) := by decide +kernel
theorem zd_X5_goesAhead_20 : decode cX5_goesAhead 20 = .ok (.iaload, 1) := by decide +kernel
theorem zd_X5_goesAhead_21 : decode cX5_goesAhead 21 = .ok (.aload_n 0, 1) := by decide +kernel
theorem zd_X5_goesAhead_22 : decode cX5_goesAhead 22 = .ok (.getfield 9, 3) := by decide +kernel
theorem zd_X5_goesAhead_25 : decode cX5_goesAhead 25 = .ok (.iload_n 2, 1) := by decide +kernel
theorem zd_X5_goesAhead_26 : decode cX5_goesAhead 26 = .ok (.iaload, 1) := by decide +kernel
theorem zd_X5_goesAhead_27 : decode cX5_goesAhead 27 = .ok (.if_icmp .le 7, 3) := by decide +kernel
theorem zd_X5_goesAhead_30 : decode cX5_goesAhead 30 = .ok (.iconst 1, 1) := by decide +kernel
theorem zd_X5_goesAhead_31 : decode cX5_goesAhead 31 = .ok (.goto 4, 3) := by decide +kernel
theorem zd_X5_goesAhead_34 : decode cX5_goesAhead 34 = .ok (.iconst 0, 1) := by decide +kernel
theorem zd_X5_goesAhead_35 : decode cX5_goesAhead 35 = .ok (.ireturn, 1) := by decide +kernel
theorem zd_X5_goesAhead_36 : decode cX5_goesAhead 36 = .ok (.iload_n 1, 1) := by decide +kernel
theorem zd_X5_goesAhead_37 : decode cX5_goesAhead 37 = .ok (.iload_n 2, 1) := by decide +kernel
theorem zd_X5_goesAhead_38 : decode cX5_goesAhead 38 = .ok (.if_icmp .ge 7, 3) := by decide +kernel
theorem zd_X5_goesAhead_41 : decode cX5_goesAhead 41 = .ok (.iconst 1, 1) := by decide +kernel
theorem zd_X5_goesAhead_42 : decode cX5_goesAhead 42 = .ok (.goto 4, 3) := by decide +kernel
theorem zd_X5_goesAhead_45 : decode cX5_goesAhead 45 = .ok (.iconst 0, 1) := by decide +kernel
theorem zd_X5_goesAhead_46 : decode cX5_goesAhead 46 = .ok (.ireturn, 1) := by decide +kernel
def zb_X5_goesAhead_35 (K : zKt) (J : Nat → zPP) : zPP := zT_nret .boolean K
theorem zbs_X5_goesAhead_35 {X : zCt} (hR : zRX X = { frames := 0, cells := 0, slots := 0, locals := 0 }) (J : Nat → zPP) (hJ : ∀ h ∈ ([] : List Nat), zSd X RX5 "goesAhead" cX5_goesAhead 3 (some .boolean) h (J h)) : zSd X RX5 "goesAhead" cX5_goesAhead 3 (some .boolean) 35 (zb_X5_goesAhead_35 (zKX X) J) := zs_nret rfl zd_X5_goesAhead_35
def zb_X5_goesAhead_46 (K : zKt) (J : Nat → zPP) : zPP := zT_nret .boolean K
theorem zbs_X5_goesAhead_46 {X : zCt} (hR : zRX X = { frames := 0, cells := 0, slots := 0, locals := 0 }) (J : Nat → zPP) (hJ : ∀ h ∈ ([] : List Nat), zSd X RX5 "goesAhead" cX5_goesAhead 3 (some .boolean) h (J h)) : zSd X RX5 "goesAhead" cX5_goesAhead 3 (some .boolean) 46 (zb_X5_goesAhead_46 (zKX X) J) := zs_nret rfl zd_X5_goesAhead_46
def zb_X5_goesAhead_0 (K : zKt) (J : Nat → zPP) : zPP := zT_ald 0 (zT_getR 5 0 11 (zT_ild 1 (zT_ald0 0 (zT_ald 0 (zT_getR 5 0 11 (zT_ild 2 (zT_ald0 0 (zT_if2 (fun x y => x = y) (zT_ild 1 (zT_ild 2 (zT_if2 (fun x y => y ≤ x) (zT_push (.int 0) (zb_X5_goesAhead_46 K J)) (zT_push (.int 1) (zb_X5_goesAhead_46 K J))))) (zT_ald 0 (zT_getR 5 0 11 (zT_ild 1 (zT_ald0 0 (zT_ald 0 (zT_getR 5 0 11 (zT_ild 2 (zT_ald0 0 (zT_if2 (fun x y => x ≤ y) (zT_push (.int 0) (zb_X5_goesAhead_35 K J)) (zT_push (.int 1) (zb_X5_goesAhead_35 K J)))))))))))))))))))
theorem zbs_X5_goesAhead_0 {X : zCt} (hR : zRX X = { frames := 0, cells := 0, slots := 0, locals := 0 }) (J : Nat → zPP) (hJ : ∀ h ∈ ([] : List Nat), zSd X RX5 "goesAhead" cX5_goesAhead 3 (some .boolean) h (J h)) : zSd X RX5 "goesAhead" cX5_goesAhead 3 (some .boolean) 0 (zb_X5_goesAhead_0 (zKX X) J) := zs_aload_n zd_X5_goesAhead_0 rfl (zs_getR (ci := 5) (j := 0) (T := TX5) rfl inX5 (by decide) gw_1_111 rfl zd_X5_goesAhead_1 (zs_iload_n zd_X5_goesAhead_4 rfl (zs_iald zd_X5_goesAhead_5 (zs_aload_n zd_X5_goesAhead_6 rfl (zs_getR (ci := 5) (j := 0) (T := TX5) rfl inX5 (by decide) gw_1_111 rfl zd_X5_goesAhead_7 (zs_iload_n zd_X5_goesAhead_10 rfl (zs_iald zd_X5_goesAhead_11 (zs_icmp_eq (tgt := 36) zd_X5_goesAhead_12 (by decide) (zs_iload_n zd_X5_goesAhead_36 rfl (zs_iload_n zd_X5_goesAhead_37 rfl (zs_icmp_ge (tgt := 45) zd_X5_goesAhead_38 (by decide) (zs_iconst zd_X5_goesAhead_45 (by decide) (zbs_X5_goesAhead_46 hR J hJ)) (zs_iconst zd_X5_goesAhead_41 (by decide) (zs_goto (tgt := 46) zd_X5_goesAhead_42 (by decide) (zbs_X5_goesAhead_46 hR J hJ)))))) (zs_aload_n zd_X5_goesAhead_15 rfl (zs_getR (ci := 5) (j := 0) (T := TX5) rfl inX5 (by decide) gw_1_111 rfl zd_X5_goesAhead_16 (zs_iload_n zd_X5_goesAhead_19 rfl (zs_iald zd_X5_goesAhead_20 (zs_aload_n zd_X5_goesAhead_21 rfl (zs_getR (ci := 5) (j := 0) (T := TX5) rfl inX5 (by decide) gw_1_111 rfl zd_X5_goesAhead_22 (zs_iload_n zd_X5_goesAhead_25 rfl (zs_iald zd_X5_goesAhead_26 (zs_icmp_le (tgt := 34) zd_X5_goesAhead_27 (by decide) (zs_iconst zd_X5_goesAhead_34 (by decide) (zbs_X5_goesAhead_35 hR J hJ)) (zs_iconst zd_X5_goesAhead_30 (by decide) (zs_goto (tgt := 35) zd_X5_goesAhead_31 (by decide) (zbs_X5_goesAhead_35 hR J hJ))))))))))))))))))))
theorem zdn_X5_goesAhead : yX5_goesAhead.cls ≠ "java/lang/invoke/MethodHandle" ∧ yX5_goesAhead.cls ≠ "java/lang/invoke/VarHandle" ∧ (parseMethodDescriptor yX5_goesAhead.desc).map (fun d => d.parameters.length) = some 2 := by decide +kernel
/-! DeltaRuns$Tape addFour -/
theorem zd_X4_addFour_0 : decode cX4_addFour 0 = .ok (.bipush 24, 2) := by decide +kernel
theorem zd_X4_addFour_2 : decode cX4_addFour 2 = .ok (.istore_n 2, 1) := by decide +kernel
theorem zd_X4_addFour_3 : decode cX4_addFour 3 = .ok (.iload_n 2, 1) := by decide +kernel
theorem zd_X4_addFour_4 : decode cX4_addFour 4 = .ok (.ifCond .lt 42, 3) := by decide +kernel
theorem zd_X4_addFour_7 : decode cX4_addFour 7 = .ok (.aload_n 0, 1) := by decide +kernel
theorem zd_X4_addFour_8 : decode cX4_addFour 8 = .ok (.getfield 15, 3) := by decide +kernel
theorem zd_X4_addFour_11 : decode cX4_addFour 11 = .ok (.sipush 300, 3) := by decide +kernel
theorem zd_X4_addFour_14 : decode cX4_addFour 14 = .ok (.if_icmp .ge 32, 3) := by decide +kernel
theorem zd_X4_addFour_17 : decode cX4_addFour 17 = .ok (.aload_n 0, 1) := by decide +kernel
theorem zd_X4_addFour_18 : decode cX4_addFour 18 = .ok (.getfield 9, 3) := by decide +kernel
theorem zd_X4_addFour_21 : decode cX4_addFour 21 = .ok (.aload_n 0, 1) := by decide +kernel
theorem zd_X4_addFour_22 : decode cX4_addFour 22 = .ok (.getfield 15, 3) := by decide +kernel
theorem zd_X4_addFour_25 : decode cX4_addFour 25 = .ok (.iload_n 1, 1) := by decide +kernel
theorem zd_X4_addFour_26 : decode cX4_addFour 26 = .ok (.iload_n 2, 1) := by decide +kernel
theorem zd_X4_addFour_27 : decode cX4_addFour 27 = .ok (.ishr, 1) := by decide +kernel
theorem zd_X4_addFour_28 : decode cX4_addFour 28 = .ok (.i2b, 1) := by decide +kernel
theorem zd_X4_addFour_29 : decode cX4_addFour 29 = .ok (.bastore, 1) := by decide +kernel
theorem zd_X4_addFour_30 : decode cX4_addFour 30 = .ok (.aload_n 0, 1) := by decide +kernel
theorem zd_X4_addFour_31 : decode cX4_addFour 31 = .ok (.dup, 1) := by decide +kernel
theorem zd_X4_addFour_32 : decode cX4_addFour 32 = .ok (.getfield 15, 3) := by decide +kernel
theorem zd_X4_addFour_35 : decode cX4_addFour 35 = .ok (.iconst 1, 1) := by decide +kernel
theorem zd_X4_addFour_36 : decode cX4_addFour 36 = .ok (.iadd, 1) := by decide +kernel
theorem zd_X4_addFour_37 : decode cX4_addFour 37 = .ok (.putfield 15, 3) := by decide +kernel
theorem zd_X4_addFour_40 : decode cX4_addFour 40 = .ok (.iinc 2 (-8), 3) := by decide +kernel
theorem zd_X4_addFour_43 : decode cX4_addFour 43 = .ok (.goto (-40), 3) := by decide +kernel
theorem zd_X4_addFour_46 : decode cX4_addFour 46 = .ok (.return_, 1) := by decide +kernel
def zb_X4_addFour_0 (K : zKt) (J : Nat → zPP) : zPP := zT_push (.int 24) (zT_ist 2 (J 3))
theorem zbs_X4_addFour_0 {X : zCt} (hR : zRX X = { frames := 0, cells := 0, slots := 0, locals := 0 }) (J : Nat → zPP) (hJ : ∀ h ∈ ([3] : List Nat), zSd X RX4 "addFour" cX4_addFour 3 none h (J h)) : zSd X RX4 "addFour" cX4_addFour 3 none 0 (zb_X4_addFour_0 (zKX X) J) := zs_bipush zd_X4_addFour_0 (by decide) (zs_istore_n zd_X4_addFour_2 rfl (by decide) (hJ 3 (by decide)))
def zb_X4_addFour_46 (K : zKt) (J : Nat → zPP) : zPP := zT_vret K
theorem zbs_X4_addFour_46 {X : zCt} (hR : zRX X = { frames := 0, cells := 0, slots := 0, locals := 0 }) (J : Nat → zPP) (hJ : ∀ h ∈ ([3] : List Nat), zSd X RX4 "addFour" cX4_addFour 3 none h (J h)) : zSd X RX4 "addFour" cX4_addFour 3 none 46 (zb_X4_addFour_46 (zKX X) J) := zs_vret rfl zd_X4_addFour_46
def zb_X4_addFour_3 (K : zKt) (J : Nat → zPP) : zPP := zT_ild 2 (zT_if1 (fun x => x < 0) (zb_X4_addFour_46 K J) (zT_ald 0 (zT_getI 4 1 2 (zT_push (.int 300) (zT_if2 (fun x y => y ≤ x) (zb_X4_addFour_46 K J) (zT_ald 0 (zT_getR 4 0 2 (zT_ald 0 (zT_getI 4 1 2 (zT_ild 1 (zT_ild 2 (zT_bin (fun x y => x >>> (y &&& 31)) (zT_un (fun x => x.toInt8.toInt32) (zT_bast (zT_ald 0 (zT_dup (zT_getI 4 1 2 (zT_push (.int 1) (zT_bin (fun x y => x + y) (zT_putI 4 1 2 (zT_iinc 2 (-8) (J 3))))))))))))))))))))))
theorem zbs_X4_addFour_3 {X : zCt} (hR : zRX X = { frames := 0, cells := 0, slots := 0, locals := 0 }) (J : Nat → zPP) (hJ : ∀ h ∈ ([3] : List Nat), zSd X RX4 "addFour" cX4_addFour 3 none h (J h)) : zSd X RX4 "addFour" cX4_addFour 3 none 3 (zb_X4_addFour_3 (zKX X) J) := zs_iload_n zd_X4_addFour_3 rfl (zs_if_lt (tgt := 46) zd_X4_addFour_4 (by decide) (zbs_X4_addFour_46 hR J hJ) (zs_aload_n zd_X4_addFour_7 rfl (zs_getI (ci := 4) (j := 1) (T := TX4) rfl inX4 (by decide) gw_1_69 rfl zd_X4_addFour_8 (zs_sipush zd_X4_addFour_11 (by decide) (zs_icmp_ge (tgt := 46) zd_X4_addFour_14 (by decide) (zbs_X4_addFour_46 hR J hJ) (zs_aload_n zd_X4_addFour_17 rfl (zs_getR (ci := 4) (j := 0) (T := TX4) rfl inX4 (by decide) gw_1_67 rfl zd_X4_addFour_18 (zs_aload_n zd_X4_addFour_21 rfl (zs_getI (ci := 4) (j := 1) (T := TX4) rfl inX4 (by decide) gw_1_69 rfl zd_X4_addFour_22 (zs_iload_n zd_X4_addFour_25 rfl (zs_iload_n zd_X4_addFour_26 rfl (zs_ishr zd_X4_addFour_27 (zs_i2b zd_X4_addFour_28 (zs_bast zd_X4_addFour_29 (zs_aload_n zd_X4_addFour_30 rfl (zs_dup zd_X4_addFour_31 (zs_getI (ci := 4) (j := 1) (T := TX4) rfl inX4 (by decide) gw_1_69 rfl zd_X4_addFour_32 (zs_iconst zd_X4_addFour_35 (by decide) (zs_iadd zd_X4_addFour_36 (zs_putI (ci := 4) (j := 1) (T := TX4) rfl inX4 tyX4_ok nmX4 (by decide) gw_1_69 rfl rfl rfl zd_X4_addFour_37 (zs_iinc zd_X4_addFour_40 (by decide) (by decide) (zs_goto (tgt := 3) zd_X4_addFour_43 (by decide) (hJ 3 (by decide))))))))))))))))))))))))
def zB_X4_addFour (K : zKt) (J : Nat → zPP) (h : Nat) : zPP := if h = 3 then zb_X4_addFour_3 K J else (fun _ _ _ => False)
theorem zBs_X4_addFour {X : zCt} (hR : zRX X = { frames := 0, cells := 0, slots := 0, locals := 0 }) : ∀ J : Nat → zPP, (∀ h ∈ ([3] : List Nat), zSd X RX4 "addFour" cX4_addFour 3 none h (J h)) → ∀ h ∈ ([3] : List Nat), zSd X RX4 "addFour" cX4_addFour 3 none h (zB_X4_addFour (zKX X) J h) := by
  intro J hJ h hh
  unfold zB_X4_addFour
  simp only [List.mem_cons, List.not_mem_nil, or_false] at hh
  subst hh
  exact zbs_X4_addFour_3 hR J hJ
theorem zdn_X4_addFour : yX4_addFour.cls ≠ "java/lang/invoke/MethodHandle" ∧ yX4_addFour.cls ≠ "java/lang/invoke/VarHandle" ∧ (parseMethodDescriptor yX4_addFour.desc).map (fun d => d.parameters.length) = some 1 := by decide +kernel
/-! DeltaRuns$Years keep -/
theorem zd_X6_keep_0 : decode cX6_keep 0 = .ok (.iconst 0, 1) := by decide +kernel
theorem zd_X6_keep_1 : decode cX6_keep 1 = .ok (.istore_n 3, 1) := by decide +kernel
theorem zd_X6_keep_2 : decode cX6_keep 2 = .ok (.iload_n 3, 1) := by decide +kernel
theorem zd_X6_keep_3 : decode cX6_keep 3 = .ok (.bipush 15, 2) := by decide +kernel
theorem zd_X6_keep_5 : decode cX6_keep 5 = .ok (.if_icmp .ge 58, 3) := by decide +kernel
theorem zd_X6_keep_8 : decode cX6_keep 8 = .ok (.lconst 0, 1) := by decide +kernel
theorem zd_X6_keep_9 : decode cX6_keep 9 = .ok (.lstore 4, 2) := by decide +kernel
theorem zd_X6_keep_11 : decode cX6_keep 11 = .ok (.bipush 7, 2) := by decide +kernel
theorem zd_X6_keep_13 : decode cX6_keep 13 = .ok (.istore 6, 2) := by decide +kernel
theorem zd_X6_keep_15 : decode cX6_keep 15 = .ok (.iload 6, 2) := by decide +kernel
theorem zd_X6_keep_17 : decode cX6_keep 17 = .ok (.ifCond .lt 27, 3) := by decide +kernel
theorem zd_X6_keep_20 : decode cX6_keep 20 = .ok (.lload 4, 2) := by decide +kernel
theorem zd_X6_keep_22 : decode cX6_keep 22 = .ok (.bipush 8, 2) := by decide +kernel
theorem zd_X6_keep_24 : decode cX6_keep 24 = .ok (.lshl, 1) := by decide +kernel
theorem zd_X6_keep_25 : decode cX6_keep 25 = .ok (.aload_n 2, 1) := by decide +kernel
theorem zd_X6_keep_26 : decode cX6_keep 26 = .ok (.iload_n 3, 1) := by decide +kernel
theorem zd_X6_keep_27 : decode cX6_keep 27 = .ok (.bipush 8, 2) := by decide +kernel
theorem zd_X6_keep_29 : decode cX6_keep 29 = .ok (.imul, 1) := by decide +kernel
theorem zd_X6_keep_30 : decode cX6_keep 30 = .ok (.iload 6, 2) := by decide +kernel
theorem zd_X6_keep_32 : decode cX6_keep 32 = .ok (.iadd, 1) := by decide +kernel
theorem zd_X6_keep_33 : decode cX6_keep 33 = .ok (.iaload, 1) := by decide +kernel
theorem zd_X6_keep_34 : decode cX6_keep 34 = .ok (.i2l, 1) := by decide +kernel
theorem zd_X6_keep_35 : decode cX6_keep 35 = .ok (.lor, 1) := by decide +kernel
theorem zd_X6_keep_36 : decode cX6_keep 36 = .ok (.lstore 4, 2) := by decide +kernel
theorem zd_X6_keep_38 : decode cX6_keep 38 = .ok (.iinc 6 (-1), 3) := by decide +kernel
theorem zd_X6_keep_41 : decode cX6_keep 41 = .ok (.goto (-26), 3) := by decide +kernel
theorem zd_X6_keep_44 : decode cX6_keep 44 = .ok (.aload_n 0, 1) := by decide +kernel
theorem zd_X6_keep_45 : decode cX6_keep 45 = .ok (.getfield 11, 3) := by decide +kernel
theorem zd_X6_keep_48 : decode cX6_keep 48 = .ok (.iload_n 1, 1) := by decide +kernel
theorem zd_X6_keep_49 : decode cX6_keep 49 = .ok (.bipush 15, 2) := by decide +kernel
theorem zd_X6_keep_51 : decode cX6_keep 51 = .ok (.imul, 1) := by decide +kernel
theorem zd_X6_keep_52 : decode cX6_keep 52 = .ok (.iload_n 3, 1) := by decide +kernel
theorem zd_X6_keep_53 : decode cX6_keep 53 = .ok (.iadd, 1) := by decide +kernel
theorem zd_X6_keep_54 : decode cX6_keep 54 = .ok (.lload 4, 2) := by decide +kernel
theorem zd_X6_keep_56 : decode cX6_keep 56 = .ok (.lastore, 1) := by decide +kernel
theorem zd_X6_keep_57 : decode cX6_keep 57 = .ok (.iinc 3 1, 3) := by decide +kernel
theorem zd_X6_keep_60 : decode cX6_keep 60 = .ok (.goto (-58), 3) := by decide +kernel
theorem zd_X6_keep_63 : decode cX6_keep 63 = .ok (.aload_n 0, 1) := by decide +kernel
theorem zd_X6_keep_64 : decode cX6_keep 64 = .ok (.iload_n 1, 1) := by decide +kernel
theorem zd_X6_keep_65 : decode cX6_keep 65 = .ok (.putfield 15, 3) := by decide +kernel
theorem zd_X6_keep_68 : decode cX6_keep 68 = .ok (.return_, 1) := by decide +kernel
def zb_X6_keep_0 (K : zKt) (J : Nat → zPP) : zPP := zT_push (.int 0) (zT_ist 3 (J 2))
theorem zbs_X6_keep_0 {X : zCt} (hR : zRX X = { frames := 0, cells := 0, slots := 0, locals := 0 }) (J : Nat → zPP) (hJ : ∀ h ∈ ([2, 15] : List Nat), zSd X RX6 "keep" cX6_keep 7 none h (J h)) : zSd X RX6 "keep" cX6_keep 7 none 0 (zb_X6_keep_0 (zKX X) J) := zs_iconst zd_X6_keep_0 (by decide) (zs_istore_n zd_X6_keep_1 rfl (by decide) (hJ 2 (by decide)))
def zb_X6_keep_2 (K : zKt) (J : Nat → zPP) : zPP := zT_ild 3 (zT_push (.int 15) (zT_if2 (fun x y => y ≤ x) (zT_ald 0 (zT_ild 1 (zT_putI 6 1 2 (zT_vret K)))) (zT_push (.long 0) (zT_lst 4 (zT_push (.int 7) (zT_ist 6 (J 15)))))))
theorem zbs_X6_keep_2 {X : zCt} (hR : zRX X = { frames := 0, cells := 0, slots := 0, locals := 0 }) (J : Nat → zPP) (hJ : ∀ h ∈ ([2, 15] : List Nat), zSd X RX6 "keep" cX6_keep 7 none h (J h)) : zSd X RX6 "keep" cX6_keep 7 none 2 (zb_X6_keep_2 (zKX X) J) := zs_iload_n zd_X6_keep_2 rfl (zs_bipush zd_X6_keep_3 (by decide) (zs_icmp_ge (tgt := 63) zd_X6_keep_5 (by decide) (zs_aload_n zd_X6_keep_63 rfl (zs_iload_n zd_X6_keep_64 rfl (zs_putI (ci := 6) (j := 1) (T := TX6) rfl inX6 tyX6_ok nmX6 (by decide) gw_2_171 rfl rfl rfl zd_X6_keep_65 (zs_vret rfl zd_X6_keep_68)))) (zs_lconst zd_X6_keep_8 (by decide) (zs_lstore zd_X6_keep_9 (by decide) (zs_bipush zd_X6_keep_11 (by decide) (zs_istore zd_X6_keep_13 (by decide) (hJ 15 (by decide))))))))
def zb_X6_keep_15 (K : zKt) (J : Nat → zPP) : zPP := zT_ild 6 (zT_if1 (fun x => x < 0) (zT_ald 0 (zT_getR 6 0 2 (zT_ild 1 (zT_push (.int 15) (zT_bin (fun x y => x * y) (zT_ild 3 (zT_bin (fun x y => x + y) (zT_lld 4 (zT_last (zT_iinc 3 1 (J 2))))))))))) (zT_lld 4 (zT_push (.int 8) (zT_shl (fun x y => x <<< (y.toInt64 &&& 63)) (zT_ald 2 (zT_ild 3 (zT_push (.int 8) (zT_bin (fun x y => x * y) (zT_ild 6 (zT_bin (fun x y => x + y) (zT_ald0 0 (zT_i2l (zT_bil (fun x y => x ||| y) (zT_lst 4 (zT_iinc 6 (-1) (J 15))))))))))))))))
theorem zbs_X6_keep_15 {X : zCt} (hR : zRX X = { frames := 0, cells := 0, slots := 0, locals := 0 }) (J : Nat → zPP) (hJ : ∀ h ∈ ([2, 15] : List Nat), zSd X RX6 "keep" cX6_keep 7 none h (J h)) : zSd X RX6 "keep" cX6_keep 7 none 15 (zb_X6_keep_15 (zKX X) J) := zs_iload zd_X6_keep_15 (zs_if_lt (tgt := 44) zd_X6_keep_17 (by decide) (zs_aload_n zd_X6_keep_44 rfl (zs_getR (ci := 6) (j := 0) (T := TX6) rfl inX6 (by decide) gw_2_170 rfl zd_X6_keep_45 (zs_iload_n zd_X6_keep_48 rfl (zs_bipush zd_X6_keep_49 (by decide) (zs_imul zd_X6_keep_51 (zs_iload_n zd_X6_keep_52 rfl (zs_iadd zd_X6_keep_53 (zs_lload zd_X6_keep_54 (zs_last zd_X6_keep_56 (zs_iinc zd_X6_keep_57 (by decide) (by decide) (zs_goto (tgt := 2) zd_X6_keep_60 (by decide) (hJ 2 (by decide))))))))))))) (zs_lload zd_X6_keep_20 (zs_bipush zd_X6_keep_22 (by decide) (zs_lshl zd_X6_keep_24 (zs_aload_n zd_X6_keep_25 rfl (zs_iload_n zd_X6_keep_26 rfl (zs_bipush zd_X6_keep_27 (by decide) (zs_imul zd_X6_keep_29 (zs_iload zd_X6_keep_30 (zs_iadd zd_X6_keep_32 (zs_iald zd_X6_keep_33 (zs_i2l zd_X6_keep_34 (zs_lor zd_X6_keep_35 (zs_lstore zd_X6_keep_36 (by decide) (zs_iinc zd_X6_keep_38 (by decide) (by decide) (zs_goto (tgt := 15) zd_X6_keep_41 (by decide) (hJ 15 (by decide))))))))))))))))))
def zB_X6_keep (K : zKt) (J : Nat → zPP) (h : Nat) : zPP := if h = 2 then zb_X6_keep_2 K J else if h = 15 then zb_X6_keep_15 K J else (fun _ _ _ => False)
theorem zBs_X6_keep {X : zCt} (hR : zRX X = { frames := 0, cells := 0, slots := 0, locals := 0 }) : ∀ J : Nat → zPP, (∀ h ∈ ([2, 15] : List Nat), zSd X RX6 "keep" cX6_keep 7 none h (J h)) → ∀ h ∈ ([2, 15] : List Nat), zSd X RX6 "keep" cX6_keep 7 none h (zB_X6_keep (zKX X) J h) := by
  intro J hJ h hh
  unfold zB_X6_keep
  simp only [List.mem_cons, List.not_mem_nil, or_false] at hh
  rcases hh with rfl | rfl
  · exact zbs_X6_keep_2 hR J hJ
  · exact zbs_X6_keep_15 hR J hJ
theorem zdn_X6_keep : yX6_keep.cls ≠ "java/lang/invoke/MethodHandle" ∧ yX6_keep.cls ≠ "java/lang/invoke/VarHandle" ∧ (parseMethodDescriptor yX6_keep.desc).map (fun d => d.parameters.length) = some 2 := by decide +kernel
/-! DeltaRuns$Years heightOf -/
theorem zd_X6_heightOf_0 : decode cX6_heightOf 0 = .ok (.aload_n 0, 1) := by decide +kernel
theorem zd_X6_heightOf_1 : decode cX6_heightOf 1 = .ok (.getfield 11, 3) := by decide +kernel
theorem zd_X6_heightOf_4 : decode cX6_heightOf 4 = .ok (.iload_n 1, 1) := by decide +kernel
theorem zd_X6_heightOf_5 : decode cX6_heightOf 5 = .ok (.bipush 15, 2) := by decide +kernel
theorem zd_X6_heightOf_7 : decode cX6_heightOf 7 = .ok (.imul, 1) := by decide +kernel
theorem zd_X6_heightOf_8 : decode cX6_heightOf 8 = .ok (.iload_n 2, 1) := by decide +kernel
theorem zd_X6_heightOf_9 : decode cX6_heightOf 9 = .ok (.bipush 8, 2) := by decide +kernel
theorem zd_X6_heightOf_11 : decode cX6_heightOf 11 = .ok (.idiv, 1) := by decide +kernel
theorem zd_X6_heightOf_12 : decode cX6_heightOf 12 = .ok (.iadd, 1) := by decide +kernel
theorem zd_X6_heightOf_13 : decode cX6_heightOf 13 = .ok (.laload, 1) := by decide +kernel
theorem zd_X6_heightOf_14 : decode cX6_heightOf 14 = .ok (.lstore_n 3, 1) := by decide +kernel
theorem zd_X6_heightOf_15 : decode cX6_heightOf 15 = .ok (.lload_n 3, 1) := by decide +kernel
theorem zd_X6_heightOf_16 : decode cX6_heightOf 16 = .ok (.bipush 8, 2) := by decide +kernel
theorem zd_X6_heightOf_18 : decode cX6_heightOf 18 = .ok (.iload_n 2, 1) := by decide +kernel
theorem zd_X6_heightOf_19 : decode cX6_heightOf 19 = .ok (.bipush 8, 2) := by decide +kernel
theorem zd_X6_heightOf_21 : decode cX6_heightOf 21 = .ok (.irem, 1) := by decide +kernel
theorem zd_X6_heightOf_22 : decode cX6_heightOf 22 = .ok (.imul, 1) := by decide +kernel
theorem zd_X6_heightOf_23 : decode cX6_heightOf 23 = .ok (.lushr, 1) := by decide +kernel
theorem zd_X6_heightOf_24 : decode cX6_heightOf 24 = .ok (.l2i, 1) := by decide +kernel
theorem zd_X6_heightOf_25 : decode cX6_heightOf 25 = .ok (.sipush 255, 3) := by decide +kernel
theorem zd_X6_heightOf_28 : decode cX6_heightOf 28 = .ok (.iand, 1) := by decide +kernel
theorem zd_X6_heightOf_29 : decode cX6_heightOf 29 = .ok (.ireturn, 1) := by decide +kernel
def zb_X6_heightOf_0 (K : zKt) (J : Nat → zPP) : zPP := zT_ald 0 (zT_getR 6 0 2 (zT_ild 1 (zT_push (.int 15) (zT_bin (fun x y => x * y) (zT_ild 2 (zT_push (.int 8) (zT_div (fun x y => x / y) (zT_bin (fun x y => x + y) (zT_lald (zT_lst 3 (zT_lld 3 (zT_push (.int 8) (zT_ild 2 (zT_push (.int 8) (zT_div (fun x y => x - x / y * y) (zT_bin (fun x y => x * y) (zT_shl (fun x y => (x.toUInt64 >>> (y.toInt64.toUInt64 &&& Int64.toUInt64 63)).toInt64) (zT_l2i (zT_push (.int 255) (zT_bin (fun x y => x &&& y) (zT_iret K)))))))))))))))))))))
theorem zbs_X6_heightOf_0 {X : zCt} (hR : zRX X = { frames := 0, cells := 0, slots := 0, locals := 0 }) (J : Nat → zPP) (hJ : ∀ h ∈ ([] : List Nat), zSd X RX6 "heightOf" cX6_heightOf 5 (some .int) h (J h)) : zSd X RX6 "heightOf" cX6_heightOf 5 (some .int) 0 (zb_X6_heightOf_0 (zKX X) J) := zs_aload_n zd_X6_heightOf_0 rfl (zs_getR (ci := 6) (j := 0) (T := TX6) rfl inX6 (by decide) gw_2_170 rfl zd_X6_heightOf_1 (zs_iload_n zd_X6_heightOf_4 rfl (zs_bipush zd_X6_heightOf_5 (by decide) (zs_imul zd_X6_heightOf_7 (zs_iload_n zd_X6_heightOf_8 rfl (zs_bipush zd_X6_heightOf_9 (by decide) (zs_idiv zd_X6_heightOf_11 (zs_iadd zd_X6_heightOf_12 (zs_lald zd_X6_heightOf_13 (zs_lstore_n zd_X6_heightOf_14 rfl (by decide) (zs_lload_n zd_X6_heightOf_15 rfl (zs_bipush zd_X6_heightOf_16 (by decide) (zs_iload_n zd_X6_heightOf_18 rfl (zs_bipush zd_X6_heightOf_19 (by decide) (zs_irem zd_X6_heightOf_21 (zs_imul zd_X6_heightOf_22 (zs_lushr zd_X6_heightOf_23 (zs_l2i zd_X6_heightOf_24 (zs_sipush zd_X6_heightOf_25 (by decide) (zs_iand zd_X6_heightOf_28 (zs_iret rfl zd_X6_heightOf_29)))))))))))))))))))))
theorem zdn_X6_heightOf : yX6_heightOf.cls ≠ "java/lang/invoke/MethodHandle" ∧ yX6_heightOf.cls ≠ "java/lang/invoke/VarHandle" ∧ (parseMethodDescriptor yX6_heightOf.desc).map (fun d => d.parameters.length) = some 2 := by decide +kernel
/-! DeltaRuns$Land layOut -/
theorem zd_X1_layOut_0 : decode cX1_layOut 0 = .ok (.aload_n 0, 1) := by decide +kernel
theorem zd_X1_layOut_1 : decode cX1_layOut 1 = .ok (.iload_n 1, 1) := by decide +kernel
theorem zd_X1_layOut_2 : decode cX1_layOut 2 = .ok (.putfield 26, 3) := by decide +kernel
theorem zd_X1_layOut_5 : decode cX1_layOut 5 = .ok (.aload_n 0, 1) := by decide +kernel
theorem zd_X1_layOut_6 : decode cX1_layOut 6 = .ok (.iload_n 2, 1) := by decide +kernel
theorem zd_X1_layOut_7 : decode cX1_layOut 7 = .ok (.putfield 29, 3) := by decide +kernel
theorem zd_X1_layOut_10 : decode cX1_layOut 10 = .ok (.aload_n 0, 1) := by decide +kernel
theorem zd_X1_layOut_11 : decode cX1_layOut 11 = .ok (.iconst 0, 1) := by decide +kernel
theorem zd_X1_layOut_12 : decode cX1_layOut 12 = .ok (.putfield 32, 3) := by decide +kernel
theorem zd_X1_layOut_15 : decode cX1_layOut 15 = .ok (.iconst 0, 1) := by decide +kernel
theorem zd_X1_layOut_16 : decode cX1_layOut 16 = .ok (.istore_n 3, 1) := by decide +kernel
theorem zd_X1_layOut_17 : decode cX1_layOut 17 = .ok (.iload_n 3, 1) := by decide +kernel
theorem zd_X1_layOut_18 : decode cX1_layOut 18 = .ok (.bipush 120, 2) := by decide +kernel
theorem zd_X1_layOut_20 : decode cX1_layOut 20 = .ok (.if_icmp .ge 17, 3) := by decide +kernel
theorem zd_X1_layOut_23 : decode cX1_layOut 23 = .ok (.aload_n 0, 1) := by decide +kernel
theorem zd_X1_layOut_24 : decode cX1_layOut 24 = .ok (.getfield 9, 3) := by decide +kernel
theorem zd_X1_layOut_27 : decode cX1_layOut 27 = .ok (.iload_n 3, 1) := by decide +kernel
theorem zd_X1_layOut_28 : decode cX1_layOut 28 = .ok (.bipush 50, 2) := by decide +kernel
theorem zd_X1_layOut_30 : decode cX1_layOut 30 = .ok (.iastore, 1) := by decide +kernel
theorem zd_X1_layOut_31 : decode cX1_layOut 31 = .ok (.iinc 3 1, 3) := by decide +kernel
theorem zd_X1_layOut_34 : decode cX1_layOut 34 = .ok (.goto (-17), 3) := by decide +kernel
theorem zd_X1_layOut_37 : decode cX1_layOut 37 = .ok (.return_, 1) := by decide +kernel
def zb_X1_layOut_0 (K : zKt) (J : Nat → zPP) : zPP := zT_ald 0 (zT_ild 1 (zT_putI 1 1 6 (zT_ald 0 (zT_ild 2 (zT_putI 1 2 6 (zT_ald 0 (zT_push (.int 0) (zT_putI 1 3 6 (zT_push (.int 0) (zT_ist 3 (J 17)))))))))))
theorem zbs_X1_layOut_0 {X : zCt} (hR : zRX X = { frames := 0, cells := 0, slots := 0, locals := 0 }) (J : Nat → zPP) (hJ : ∀ h ∈ ([17] : List Nat), zSd X RX1 "layOut" cX1_layOut 4 none h (J h)) : zSd X RX1 "layOut" cX1_layOut 4 none 0 (zb_X1_layOut_0 (zKX X) J) := zs_aload_n zd_X1_layOut_0 rfl (zs_iload_n zd_X1_layOut_1 rfl (zs_putI (ci := 1) (j := 1) (T := TX1) rfl inX1 tyX1_ok nmX1 (by decide) gw_1_35 rfl rfl rfl zd_X1_layOut_2 (zs_aload_n zd_X1_layOut_5 rfl (zs_iload_n zd_X1_layOut_6 rfl (zs_putI (ci := 1) (j := 2) (T := TX1) rfl inX1 tyX1_ok nmX1 (by decide) gw_1_37 rfl rfl rfl zd_X1_layOut_7 (zs_aload_n zd_X1_layOut_10 rfl (zs_iconst zd_X1_layOut_11 (by decide) (zs_putI (ci := 1) (j := 3) (T := TX1) rfl inX1 tyX1_ok nmX1 (by decide) gw_1_40 rfl rfl rfl zd_X1_layOut_12 (zs_iconst zd_X1_layOut_15 (by decide) (zs_istore_n zd_X1_layOut_16 rfl (by decide) (hJ 17 (by decide))))))))))))
def zb_X1_layOut_17 (K : zKt) (J : Nat → zPP) : zPP := zT_ild 3 (zT_push (.int 120) (zT_if2 (fun x y => y ≤ x) (zT_vret K) (zT_ald 0 (zT_getR 1 0 6 (zT_ild 3 (zT_push (.int 50) (zT_iast (zT_iinc 3 1 (J 17)))))))))
theorem zbs_X1_layOut_17 {X : zCt} (hR : zRX X = { frames := 0, cells := 0, slots := 0, locals := 0 }) (J : Nat → zPP) (hJ : ∀ h ∈ ([17] : List Nat), zSd X RX1 "layOut" cX1_layOut 4 none h (J h)) : zSd X RX1 "layOut" cX1_layOut 4 none 17 (zb_X1_layOut_17 (zKX X) J) := zs_iload_n zd_X1_layOut_17 rfl (zs_bipush zd_X1_layOut_18 (by decide) (zs_icmp_ge (tgt := 37) zd_X1_layOut_20 (by decide) (zs_vret rfl zd_X1_layOut_37) (zs_aload_n zd_X1_layOut_23 rfl (zs_getR (ci := 1) (j := 0) (T := TX1) rfl inX1 (by decide) gw_1_33 rfl zd_X1_layOut_24 (zs_iload_n zd_X1_layOut_27 rfl (zs_bipush zd_X1_layOut_28 (by decide) (zs_iast zd_X1_layOut_30 (zs_iinc zd_X1_layOut_31 (by decide) (by decide) (zs_goto (tgt := 17) zd_X1_layOut_34 (by decide) (hJ 17 (by decide)))))))))))
def zB_X1_layOut (K : zKt) (J : Nat → zPP) (h : Nat) : zPP := if h = 17 then zb_X1_layOut_17 K J else (fun _ _ _ => False)
theorem zBs_X1_layOut {X : zCt} (hR : zRX X = { frames := 0, cells := 0, slots := 0, locals := 0 }) : ∀ J : Nat → zPP, (∀ h ∈ ([17] : List Nat), zSd X RX1 "layOut" cX1_layOut 4 none h (J h)) → ∀ h ∈ ([17] : List Nat), zSd X RX1 "layOut" cX1_layOut 4 none h (zB_X1_layOut (zKX X) J h) := by
  intro J hJ h hh
  unfold zB_X1_layOut
  simp only [List.mem_cons, List.not_mem_nil, or_false] at hh
  subst hh
  exact zbs_X1_layOut_17 hR J hJ
theorem zdn_X1_layOut : yX1_layOut.cls ≠ "java/lang/invoke/MethodHandle" ∧ yX1_layOut.cls ≠ "java/lang/invoke/VarHandle" ∧ (parseMethodDescriptor yX1_layOut.desc).map (fun d => d.parameters.length) = some 2 := by decide +kernel
/-! DeltaRuns$Entries add -/
theorem zd_X0_add_0 : decode cX0_add 0 = .ok (.aload_n 0, 1) := by decide +kernel
theorem zd_X0_add_1 : decode cX0_add 1 = .ok (.getfield 24, 3) := by decide +kernel
theorem zd_X0_add_4 : decode cX0_add 4 = .ok (.sipush 200, 3) := by decide +kernel
theorem zd_X0_add_7 : decode cX0_add 7 = .ok (.if_icmp .ge 54, 3) := by decide +kernel
theorem zd_X0_add_10 : decode cX0_add 10 = .ok (.aload_n 0, 1) := by decide +kernel
theorem zd_X0_add_11 : decode cX0_add 11 = .ok (.getfield 9, 3) := by decide +kernel
theorem zd_X0_add_14 : decode cX0_add 14 = .ok (.aload_n 0, 1) := by decide +kernel
theorem zd_X0_add_15 : decode cX0_add 15 = .ok (.getfield 24, 3) := by decide +kernel
theorem zd_X0_add_18 : decode cX0_add 18 = .ok (.iload_n 1, 1) := by decide +kernel
theorem zd_X0_add_19 : decode cX0_add 19 = .ok (.iastore, 1) := by decide +kernel
theorem zd_X0_add_20 : decode cX0_add 20 = .ok (.aload_n 0, 1) := by decide +kernel
theorem zd_X0_add_21 : decode cX0_add 21 = .ok (.getfield 15, 3) := by decide +kernel
theorem zd_X0_add_24 : decode cX0_add 24 = .ok (.aload_n 0, 1) := by decide +kernel
theorem zd_X0_add_25 : decode cX0_add 25 = .ok (.getfield 24, 3) := by decide +kernel
theorem zd_X0_add_28 : decode cX0_add 28 = .ok (.iload_n 2, 1) := by decide +kernel
theorem zd_X0_add_29 : decode cX0_add 29 = .ok (.iastore, 1) := by decide +kernel
theorem zd_X0_add_30 : decode cX0_add 30 = .ok (.aload_n 0, 1) := by decide +kernel
theorem zd_X0_add_31 : decode cX0_add 31 = .ok (.getfield 18, 3) := by decide +kernel
theorem zd_X0_add_34 : decode cX0_add 34 = .ok (.aload_n 0, 1) := by decide +kernel
theorem zd_X0_add_35 : decode cX0_add 35 = .ok (.getfield 24, 3) := by decide +kernel
theorem zd_X0_add_38 : decode cX0_add 38 = .ok (.iload_n 3, 1) := by decide +kernel
theorem zd_X0_add_39 : decode cX0_add 39 = .ok (.iastore, 1) := by decide +kernel
theorem zd_X0_add_40 : decode cX0_add 40 = .ok (.aload_n 0, 1) := by decide +kernel
theorem zd_X0_add_41 : decode cX0_add 41 = .ok (.getfield 21, 3) := by decide +kernel
theorem zd_X0_add_44 : decode cX0_add 44 = .ok (.aload_n 0, 1) := by decide +kernel
theorem zd_X0_add_45 : decode cX0_add 45 = .ok (.getfield 24, 3) := by decide +kernel
theorem zd_X0_add_48 : decode cX0_add 48 = .ok (.iload 4, 2) := by decide +kernel
theorem zd_X0_add_50 : decode cX0_add 50 = .ok (.iastore, 1) := by decide +kernel
theorem zd_X0_add_51 : decode cX0_add 51 = .ok (.aload_n 0, 1) := by decide +kernel
theorem zd_X0_add_52 : decode cX0_add 52 = .ok (.dup, 1) := by decide +kernel
theorem zd_X0_add_53 : decode cX0_add 53 = .ok (.getfield 24, 3) := by decide +kernel
theorem zd_X0_add_56 : decode cX0_add 56 = .ok (.iconst 1, 1) := by decide +kernel
theorem zd_X0_add_57 : decode cX0_add 57 = .ok (.iadd, 1) := by decide +kernel
theorem zd_X0_add_58 : decode cX0_add 58 = .ok (.putfield 24, 3) := by decide +kernel
theorem zd_X0_add_61 : decode cX0_add 61 = .ok (.return_, 1) := by decide +kernel
def zb_X0_add_61 (K : zKt) (J : Nat → zPP) : zPP := zT_vret K
theorem zbs_X0_add_61 {X : zCt} (hR : zRX X = { frames := 0, cells := 0, slots := 0, locals := 0 }) (J : Nat → zPP) (hJ : ∀ h ∈ ([] : List Nat), zSd X RX0 "add" cX0_add 5 none h (J h)) : zSd X RX0 "add" cX0_add 5 none 61 (zb_X0_add_61 (zKX X) J) := zs_vret rfl zd_X0_add_61
def zb_X0_add_0 (K : zKt) (J : Nat → zPP) : zPP := zT_ald 0 (zT_getI 0 4 5 (zT_push (.int 200) (zT_if2 (fun x y => y ≤ x) (zb_X0_add_61 K J) (zT_ald 0 (zT_getR 0 0 5 (zT_ald 0 (zT_getI 0 4 5 (zT_ild 1 (zT_iast (zT_ald 0 (zT_getR 0 1 5 (zT_ald 0 (zT_getI 0 4 5 (zT_ild 2 (zT_iast (zT_ald 0 (zT_getR 0 2 5 (zT_ald 0 (zT_getI 0 4 5 (zT_ild 3 (zT_iast (zT_ald 0 (zT_getR 0 3 5 (zT_ald 0 (zT_getI 0 4 5 (zT_ild 4 (zT_iast (zT_ald 0 (zT_dup (zT_getI 0 4 5 (zT_push (.int 1) (zT_bin (fun x y => x + y) (zT_putI 0 4 5 (zb_X0_add_61 K J))))))))))))))))))))))))))))))))))
theorem zbs_X0_add_0 {X : zCt} (hR : zRX X = { frames := 0, cells := 0, slots := 0, locals := 0 }) (J : Nat → zPP) (hJ : ∀ h ∈ ([] : List Nat), zSd X RX0 "add" cX0_add 5 none h (J h)) : zSd X RX0 "add" cX0_add 5 none 0 (zb_X0_add_0 (zKX X) J) := zs_aload_n zd_X0_add_0 rfl (zs_getI (ci := 0) (j := 4) (T := TX0) rfl inX0 (by decide) gw_1_92 rfl zd_X0_add_1 (zs_sipush zd_X0_add_4 (by decide) (zs_icmp_ge (tgt := 61) zd_X0_add_7 (by decide) (zbs_X0_add_61 hR J hJ) (zs_aload_n zd_X0_add_10 rfl (zs_getR (ci := 0) (j := 0) (T := TX0) rfl inX0 (by decide) gw_1_84 rfl zd_X0_add_11 (zs_aload_n zd_X0_add_14 rfl (zs_getI (ci := 0) (j := 4) (T := TX0) rfl inX0 (by decide) gw_1_92 rfl zd_X0_add_15 (zs_iload_n zd_X0_add_18 rfl (zs_iast zd_X0_add_19 (zs_aload_n zd_X0_add_20 rfl (zs_getR (ci := 0) (j := 1) (T := TX0) rfl inX0 (by decide) gw_1_86 rfl zd_X0_add_21 (zs_aload_n zd_X0_add_24 rfl (zs_getI (ci := 0) (j := 4) (T := TX0) rfl inX0 (by decide) gw_1_92 rfl zd_X0_add_25 (zs_iload_n zd_X0_add_28 rfl (zs_iast zd_X0_add_29 (zs_aload_n zd_X0_add_30 rfl (zs_getR (ci := 0) (j := 2) (T := TX0) rfl inX0 (by decide) gw_1_88 rfl zd_X0_add_31 (zs_aload_n zd_X0_add_34 rfl (zs_getI (ci := 0) (j := 4) (T := TX0) rfl inX0 (by decide) gw_1_92 rfl zd_X0_add_35 (zs_iload_n zd_X0_add_38 rfl (zs_iast zd_X0_add_39 (zs_aload_n zd_X0_add_40 rfl (zs_getR (ci := 0) (j := 3) (T := TX0) rfl inX0 (by decide) gw_1_90 rfl zd_X0_add_41 (zs_aload_n zd_X0_add_44 rfl (zs_getI (ci := 0) (j := 4) (T := TX0) rfl inX0 (by decide) gw_1_92 rfl zd_X0_add_45 (zs_iload zd_X0_add_48 (zs_iast zd_X0_add_50 (zs_aload_n zd_X0_add_51 rfl (zs_dup zd_X0_add_52 (zs_getI (ci := 0) (j := 4) (T := TX0) rfl inX0 (by decide) gw_1_92 rfl zd_X0_add_53 (zs_iconst zd_X0_add_56 (by decide) (zs_iadd zd_X0_add_57 (zs_putI (ci := 0) (j := 4) (T := TX0) rfl inX0 tyX0_ok nmX0 (by decide) gw_1_92 rfl rfl rfl zd_X0_add_58 (zbs_X0_add_61 hR J hJ))))))))))))))))))))))))))))))))))
theorem zdn_X0_add : yX0_add.cls ≠ "java/lang/invoke/MethodHandle" ∧ yX0_add.cls ≠ "java/lang/invoke/VarHandle" ∧ (parseMethodDescriptor yX0_add.desc).map (fun d => d.parameters.length) = some 4 := by decide +kernel
/-! DeltaRuns$Water dryUp -/
theorem zd_X5_dryUp_0 : decode cX5_dryUp 0 = .ok (.iconst 0, 1) := by decide +kernel
theorem zd_X5_dryUp_1 : decode cX5_dryUp 1 = .ok (.istore_n 1, 1) := by decide +kernel
theorem zd_X5_dryUp_2 : decode cX5_dryUp 2 = .ok (.iload_n 1, 1) := by decide +kernel
theorem zd_X5_dryUp_3 : decode cX5_dryUp 3 = .ok (.aload_n 0, 1) := by decide +kernel
theorem zd_X5_dryUp_4 : decode cX5_dryUp 4 = .ok (.getfield 56, 3) := by decide +kernel
theorem zd_X5_dryUp_7 : decode cX5_dryUp 7 = .ok (.if_icmp .ge 27, 3) := by decide +kernel
theorem zd_X5_dryUp_10 : decode cX5_dryUp 10 = .ok (.iload_n 1, 1) := by decide +kernel
theorem zd_X5_dryUp_11 : decode cX5_dryUp 11 = .ok (.bipush 120, 2) := by decide +kernel
theorem zd_X5_dryUp_13 : decode cX5_dryUp 13 = .ok (.if_icmp .ge 21, 3) := by decide +kernel
theorem zd_X5_dryUp_16 : decode cX5_dryUp 16 = .ok (.aload_n 0, 1) := by decide +kernel
theorem zd_X5_dryUp_17 : decode cX5_dryUp 17 = .ok (.getfield 19, 3) := by decide +kernel
theorem zd_X5_dryUp_20 : decode cX5_dryUp 20 = .ok (.aload_n 0, 1) := by decide +kernel
theorem zd_X5_dryUp_21 : decode cX5_dryUp 21 = .ok (.getfield 25, 3) := by decide +kernel
theorem zd_X5_dryUp_24 : decode cX5_dryUp 24 = .ok (.iload_n 1, 1) := by decide +kernel
theorem zd_X5_dryUp_25 : decode cX5_dryUp 25 = .ok (.iaload, 1) := by decide +kernel
theorem zd_X5_dryUp_26 : decode cX5_dryUp 26 = .ok (.iconst 0, 1) := by decide +kernel
theorem zd_X5_dryUp_27 : decode cX5_dryUp 27 = .ok (.iastore, 1) := by decide +kernel
theorem zd_X5_dryUp_28 : decode cX5_dryUp 28 = .ok (.iinc 1 1, 3) := by decide +kernel
theorem zd_X5_dryUp_31 : decode cX5_dryUp 31 = .ok (.goto (-29), 3) := by decide +kernel
theorem zd_X5_dryUp_34 : decode cX5_dryUp 34 = .ok (.aload_n 0, 1) := by decide +kernel
theorem zd_X5_dryUp_35 : decode cX5_dryUp 35 = .ok (.iconst 0, 1) := by decide +kernel
theorem zd_X5_dryUp_36 : decode cX5_dryUp 36 = .ok (.putfield 56, 3) := by decide +kernel
theorem zd_X5_dryUp_39 : decode cX5_dryUp 39 = .ok (.return_, 1) := by decide +kernel
def zb_X5_dryUp_0 (K : zKt) (J : Nat → zPP) : zPP := zT_push (.int 0) (zT_ist 1 (J 2))
theorem zbs_X5_dryUp_0 {X : zCt} (hR : zRX X = { frames := 0, cells := 0, slots := 0, locals := 0 }) (J : Nat → zPP) (hJ : ∀ h ∈ ([2] : List Nat), zSd X RX5 "dryUp" cX5_dryUp 2 none h (J h)) : zSd X RX5 "dryUp" cX5_dryUp 2 none 0 (zb_X5_dryUp_0 (zKX X) J) := zs_iconst zd_X5_dryUp_0 (by decide) (zs_istore_n zd_X5_dryUp_1 rfl (by decide) (hJ 2 (by decide)))
def zb_X5_dryUp_34 (K : zKt) (J : Nat → zPP) : zPP := zT_ald 0 (zT_push (.int 0) (zT_putI 5 5 11 (zT_vret K)))
theorem zbs_X5_dryUp_34 {X : zCt} (hR : zRX X = { frames := 0, cells := 0, slots := 0, locals := 0 }) (J : Nat → zPP) (hJ : ∀ h ∈ ([2] : List Nat), zSd X RX5 "dryUp" cX5_dryUp 2 none h (J h)) : zSd X RX5 "dryUp" cX5_dryUp 2 none 34 (zb_X5_dryUp_34 (zKX X) J) := zs_aload_n zd_X5_dryUp_34 rfl (zs_iconst zd_X5_dryUp_35 (by decide) (zs_putI (ci := 5) (j := 5) (T := TX5) rfl inX5 tyX5_ok nmX5 (by decide) gw_1_121 rfl rfl rfl zd_X5_dryUp_36 (zs_vret rfl zd_X5_dryUp_39)))
def zb_X5_dryUp_2 (K : zKt) (J : Nat → zPP) : zPP := zT_ild 1 (zT_ald 0 (zT_getI 5 5 11 (zT_if2 (fun x y => y ≤ x) (zb_X5_dryUp_34 K J) (zT_ild 1 (zT_push (.int 120) (zT_if2 (fun x y => y ≤ x) (zb_X5_dryUp_34 K J) (zT_ald 0 (zT_getR 5 2 11 (zT_ald 0 (zT_getR 5 4 11 (zT_ild 1 (zT_ald0 0 (zT_push (.int 0) (zT_iast (zT_iinc 1 1 (J 2))))))))))))))))
theorem zbs_X5_dryUp_2 {X : zCt} (hR : zRX X = { frames := 0, cells := 0, slots := 0, locals := 0 }) (J : Nat → zPP) (hJ : ∀ h ∈ ([2] : List Nat), zSd X RX5 "dryUp" cX5_dryUp 2 none h (J h)) : zSd X RX5 "dryUp" cX5_dryUp 2 none 2 (zb_X5_dryUp_2 (zKX X) J) := zs_iload_n zd_X5_dryUp_2 rfl (zs_aload_n zd_X5_dryUp_3 rfl (zs_getI (ci := 5) (j := 5) (T := TX5) rfl inX5 (by decide) gw_1_121 rfl zd_X5_dryUp_4 (zs_icmp_ge (tgt := 34) zd_X5_dryUp_7 (by decide) (zbs_X5_dryUp_34 hR J hJ) (zs_iload_n zd_X5_dryUp_10 rfl (zs_bipush zd_X5_dryUp_11 (by decide) (zs_icmp_ge (tgt := 34) zd_X5_dryUp_13 (by decide) (zbs_X5_dryUp_34 hR J hJ) (zs_aload_n zd_X5_dryUp_16 rfl (zs_getR (ci := 5) (j := 2) (T := TX5) rfl inX5 (by decide) gw_1_117 rfl zd_X5_dryUp_17 (zs_aload_n zd_X5_dryUp_20 rfl (zs_getR (ci := 5) (j := 4) (T := TX5) rfl inX5 (by decide) gw_1_120 rfl zd_X5_dryUp_21 (zs_iload_n zd_X5_dryUp_24 rfl (zs_iald zd_X5_dryUp_25 (zs_iconst zd_X5_dryUp_26 (by decide) (zs_iast zd_X5_dryUp_27 (zs_iinc zd_X5_dryUp_28 (by decide) (by decide) (zs_goto (tgt := 2) zd_X5_dryUp_31 (by decide) (hJ 2 (by decide))))))))))))))))))
def zB_X5_dryUp (K : zKt) (J : Nat → zPP) (h : Nat) : zPP := if h = 2 then zb_X5_dryUp_2 K J else (fun _ _ _ => False)
theorem zBs_X5_dryUp {X : zCt} (hR : zRX X = { frames := 0, cells := 0, slots := 0, locals := 0 }) : ∀ J : Nat → zPP, (∀ h ∈ ([2] : List Nat), zSd X RX5 "dryUp" cX5_dryUp 2 none h (J h)) → ∀ h ∈ ([2] : List Nat), zSd X RX5 "dryUp" cX5_dryUp 2 none h (zB_X5_dryUp (zKX X) J h) := by
  intro J hJ h hh
  unfold zB_X5_dryUp
  simp only [List.mem_cons, List.not_mem_nil, or_false] at hh
  subst hh
  exact zbs_X5_dryUp_2 hR J hJ
theorem zdn_X5_dryUp : yX5_dryUp.cls ≠ "java/lang/invoke/MethodHandle" ∧ yX5_dryUp.cls ≠ "java/lang/invoke/VarHandle" ∧ (parseMethodDescriptor yX5_dryUp.desc).map (fun d => d.parameters.length) = some 0 := by decide +kernel
/-! DeltaRuns$Water shareEvenly -/
theorem zd_X5_shareEvenly_0 : decode cX5_shareEvenly 0 = .ok (.aload_n 0, 1) := by decide +kernel
theorem zd_X5_shareEvenly_1 : decode cX5_shareEvenly 1 = .ok (.getfield 76, 3) := by decide +kernel
theorem zd_X5_shareEvenly_4 : decode cX5_shareEvenly 4 = .ok (.ifCond .le 47, 3) := by decide +kernel
theorem zd_X5_shareEvenly_7 : decode cX5_shareEvenly 7 = .ok (.iconst 0, 1) := by decide +kernel
theorem zd_X5_shareEvenly_8 : decode cX5_shareEvenly 8 = .ok (.istore_n 2, 1) := by decide +kernel
theorem zd_X5_shareEvenly_9 : decode cX5_shareEvenly 9 = .ok (.iload_n 2, 1) := by decide +kernel
theorem zd_X5_shareEvenly_10 : decode cX5_shareEvenly 10 = .ok (.aload_n 0, 1) := by decide +kernel
theorem zd_X5_shareEvenly_11 : decode cX5_shareEvenly 11 = .ok (.getfield 76, 3) := by decide +kernel
theorem zd_X5_shareEvenly_14 : decode cX5_shareEvenly 14 = .ok (.if_icmp .ge 37, 3) := by decide +kernel
theorem zd_X5_shareEvenly_17 : decode cX5_shareEvenly 17 = .ok (.aload_n 0, 1) := by decide +kernel
theorem zd_X5_shareEvenly_18 : decode cX5_shareEvenly 18 = .ok (.getfield 34, 3) := by decide +kernel
theorem zd_X5_shareEvenly_21 : decode cX5_shareEvenly 21 = .ok (.iload_n 2, 1) := by decide +kernel
theorem zd_X5_shareEvenly_22 : decode cX5_shareEvenly 22 = .ok (.iload_n 1, 1) := by decide +kernel
theorem zd_X5_shareEvenly_23 : decode cX5_shareEvenly 23 = .ok (.aload_n 0, 1) := by decide +kernel
theorem zd_X5_shareEvenly_24 : decode cX5_shareEvenly 24 = .ok (.getfield 76, 3) := by decide +kernel
theorem zd_X5_shareEvenly_27 : decode cX5_shareEvenly 27 = .ok (.idiv, 1) := by decide +kernel
theorem zd_X5_shareEvenly_28 : decode cX5_shareEvenly 28 = .ok (.iload_n 2, 1) := by decide +kernel
theorem zd_X5_shareEvenly_29 : decode cX5_shareEvenly 29 = .ok (.iload_n 1, 1) := by decide +kernel
theorem zd_X5_shareEvenly_30 : decode cX5_shareEvenly 30 = .ok (.aload_n 0, 1) := by decide +kernel
theorem zd_X5_shareEvenly_31 : decode cX5_shareEvenly 31 = .ok (.getfield 76, 3) := by decide +kernel
theorem zd_X5_shareEvenly_34 : decode cX5_shareEvenly 34 = .ok (.irem, 1) := by decide +kernel
theorem zd_X5_shareEvenly_35 : decode cX5_shareEvenly 35 = .ok (.if_icmp .ge 7, 3) := by decide +kernel
theorem zd_X5_shareEvenly_38 : decode cX5_shareEvenly 38 = .ok (.iconst 1, 1) := by decide +kernel
theorem zd_X5_shareEvenly_39 : decode cX5_shareEvenly 39 = .ok (.goto 4, 3) := by decide +kernel
theorem zd_X5_shareEvenly_42 : decode cX5_shareEvenly 42 = .ok (.iconst 0, 1) := by decide +kernel
theorem zd_X5_shareEvenly_43 : decode cX5_shareEvenly 43 = .ok (.iadd, 1) := by decide +kernel
theorem zd_X5_shareEvenly_44 : decode cX5_shareEvenly 44 = .ok (.iastore, 1) := by decide +kernel
theorem zd_X5_shareEvenly_45 : decode cX5_shareEvenly 45 = .ok (.iinc 2 1, 3) := by decide +kernel
theorem zd_X5_shareEvenly_48 : decode cX5_shareEvenly 48 = .ok (.goto (-39), 3) := by decide +kernel
theorem zd_X5_shareEvenly_51 : decode cX5_shareEvenly 51 = .ok (.return_, 1) := by decide +kernel
def zb_X5_shareEvenly_51 (K : zKt) (J : Nat → zPP) : zPP := zT_vret K
theorem zbs_X5_shareEvenly_51 {X : zCt} (hR : zRX X = { frames := 0, cells := 0, slots := 0, locals := 0 }) (J : Nat → zPP) (hJ : ∀ h ∈ ([9] : List Nat), zSd X RX5 "shareEvenly" cX5_shareEvenly 3 none h (J h)) : zSd X RX5 "shareEvenly" cX5_shareEvenly 3 none 51 (zb_X5_shareEvenly_51 (zKX X) J) := zs_vret rfl zd_X5_shareEvenly_51
def zb_X5_shareEvenly_0 (K : zKt) (J : Nat → zPP) : zPP := zT_ald 0 (zT_getI 5 10 11 (zT_if1 (fun x => x ≤ 0) (zb_X5_shareEvenly_51 K J) (zT_push (.int 0) (zT_ist 2 (J 9)))))
theorem zbs_X5_shareEvenly_0 {X : zCt} (hR : zRX X = { frames := 0, cells := 0, slots := 0, locals := 0 }) (J : Nat → zPP) (hJ : ∀ h ∈ ([9] : List Nat), zSd X RX5 "shareEvenly" cX5_shareEvenly 3 none h (J h)) : zSd X RX5 "shareEvenly" cX5_shareEvenly 3 none 0 (zb_X5_shareEvenly_0 (zKX X) J) := zs_aload_n zd_X5_shareEvenly_0 rfl (zs_getI (ci := 5) (j := 10) (T := TX5) rfl inX5 (by decide) gw_1_126 rfl zd_X5_shareEvenly_1 (zs_if_le (tgt := 51) zd_X5_shareEvenly_4 (by decide) (zbs_X5_shareEvenly_51 hR J hJ) (zs_iconst zd_X5_shareEvenly_7 (by decide) (zs_istore_n zd_X5_shareEvenly_8 rfl (by decide) (hJ 9 (by decide))))))
def zb_X5_shareEvenly_43 (K : zKt) (J : Nat → zPP) : zPP := zT_bin (fun x y => x + y) (zT_iast (zT_iinc 2 1 (J 9)))
theorem zbs_X5_shareEvenly_43 {X : zCt} (hR : zRX X = { frames := 0, cells := 0, slots := 0, locals := 0 }) (J : Nat → zPP) (hJ : ∀ h ∈ ([9] : List Nat), zSd X RX5 "shareEvenly" cX5_shareEvenly 3 none h (J h)) : zSd X RX5 "shareEvenly" cX5_shareEvenly 3 none 43 (zb_X5_shareEvenly_43 (zKX X) J) := zs_iadd zd_X5_shareEvenly_43 (zs_iast zd_X5_shareEvenly_44 (zs_iinc zd_X5_shareEvenly_45 (by decide) (by decide) (zs_goto (tgt := 9) zd_X5_shareEvenly_48 (by decide) (hJ 9 (by decide)))))
def zb_X5_shareEvenly_9 (K : zKt) (J : Nat → zPP) : zPP := zT_ild 2 (zT_ald 0 (zT_getI 5 10 11 (zT_if2 (fun x y => y ≤ x) (zb_X5_shareEvenly_51 K J) (zT_ald 0 (zT_getR 5 8 11 (zT_ild 2 (zT_ild 1 (zT_ald 0 (zT_getI 5 10 11 (zT_div (fun x y => x / y) (zT_ild 2 (zT_ild 1 (zT_ald 0 (zT_getI 5 10 11 (zT_div (fun x y => x - x / y * y) (zT_if2 (fun x y => y ≤ x) (zT_push (.int 0) (zb_X5_shareEvenly_43 K J)) (zT_push (.int 1) (zb_X5_shareEvenly_43 K J))))))))))))))))))
theorem zbs_X5_shareEvenly_9 {X : zCt} (hR : zRX X = { frames := 0, cells := 0, slots := 0, locals := 0 }) (J : Nat → zPP) (hJ : ∀ h ∈ ([9] : List Nat), zSd X RX5 "shareEvenly" cX5_shareEvenly 3 none h (J h)) : zSd X RX5 "shareEvenly" cX5_shareEvenly 3 none 9 (zb_X5_shareEvenly_9 (zKX X) J) := zs_iload_n zd_X5_shareEvenly_9 rfl (zs_aload_n zd_X5_shareEvenly_10 rfl (zs_getI (ci := 5) (j := 10) (T := TX5) rfl inX5 (by decide) gw_1_126 rfl zd_X5_shareEvenly_11 (zs_icmp_ge (tgt := 51) zd_X5_shareEvenly_14 (by decide) (zbs_X5_shareEvenly_51 hR J hJ) (zs_aload_n zd_X5_shareEvenly_17 rfl (zs_getR (ci := 5) (j := 8) (T := TX5) rfl inX5 (by decide) gw_1_124 rfl zd_X5_shareEvenly_18 (zs_iload_n zd_X5_shareEvenly_21 rfl (zs_iload_n zd_X5_shareEvenly_22 rfl (zs_aload_n zd_X5_shareEvenly_23 rfl (zs_getI (ci := 5) (j := 10) (T := TX5) rfl inX5 (by decide) gw_1_126 rfl zd_X5_shareEvenly_24 (zs_idiv zd_X5_shareEvenly_27 (zs_iload_n zd_X5_shareEvenly_28 rfl (zs_iload_n zd_X5_shareEvenly_29 rfl (zs_aload_n zd_X5_shareEvenly_30 rfl (zs_getI (ci := 5) (j := 10) (T := TX5) rfl inX5 (by decide) gw_1_126 rfl zd_X5_shareEvenly_31 (zs_irem zd_X5_shareEvenly_34 (zs_icmp_ge (tgt := 42) zd_X5_shareEvenly_35 (by decide) (zs_iconst zd_X5_shareEvenly_42 (by decide) (zbs_X5_shareEvenly_43 hR J hJ)) (zs_iconst zd_X5_shareEvenly_38 (by decide) (zs_goto (tgt := 43) zd_X5_shareEvenly_39 (by decide) (zbs_X5_shareEvenly_43 hR J hJ)))))))))))))))))))
def zB_X5_shareEvenly (K : zKt) (J : Nat → zPP) (h : Nat) : zPP := if h = 9 then zb_X5_shareEvenly_9 K J else (fun _ _ _ => False)
theorem zBs_X5_shareEvenly {X : zCt} (hR : zRX X = { frames := 0, cells := 0, slots := 0, locals := 0 }) : ∀ J : Nat → zPP, (∀ h ∈ ([9] : List Nat), zSd X RX5 "shareEvenly" cX5_shareEvenly 3 none h (J h)) → ∀ h ∈ ([9] : List Nat), zSd X RX5 "shareEvenly" cX5_shareEvenly 3 none h (zB_X5_shareEvenly (zKX X) J h) := by
  intro J hJ h hh
  unfold zB_X5_shareEvenly
  simp only [List.mem_cons, List.not_mem_nil, or_false] at hh
  subst hh
  exact zbs_X5_shareEvenly_9 hR J hJ
theorem zdn_X5_shareEvenly : yX5_shareEvenly.cls ≠ "java/lang/invoke/MethodHandle" ∧ yX5_shareEvenly.cls ≠ "java/lang/invoke/VarHandle" ∧ (parseMethodDescriptor yX5_shareEvenly.desc).map (fun d => d.parameters.length) = some 1 := by decide +kernel
/-! DeltaRuns$Water settle -/
theorem zd_X5_settle_0 : decode cX5_settle 0 = .ok (.iconst 0, 1) := by decide +kernel
theorem zd_X5_settle_1 : decode cX5_settle 1 = .ok (.istore 4, 2) := by decide +kernel
theorem zd_X5_settle_3 : decode cX5_settle 3 = .ok (.iload 4, 2) := by decide +kernel
theorem zd_X5_settle_5 : decode cX5_settle 5 = .ok (.aload_n 0, 1) := by decide +kernel
theorem zd_X5_settle_6 : decode cX5_settle 6 = .ok (.getfield 56, 3) := by decide +kernel
theorem zd_X5_settle_9 : decode cX5_settle 9 = .ok (.if_icmp .ge 126, 3) := by decide +kernel
theorem zd_X5_settle_12 : decode cX5_settle 12 = .ok (.iload 4, 2) := by decide +kernel
theorem zd_X5_settle_14 : decode cX5_settle 14 = .ok (.bipush 120, 2) := by decide +kernel
theorem zd_X5_settle_16 : decode cX5_settle 16 = .ok (.if_icmp .ge 119, 3) := by decide +kernel
theorem zd_X5_settle_19 : decode cX5_settle 19 = .ok (.aload_n 0, 1) := by decide +kernel
theorem zd_X5_settle_20 : decode cX5_settle 20 = .ok (.getfield 25, 3) := by decide +kernel
theorem zd_X5_settle_23 : decode cX5_settle 23 = .ok (.iload 4, 2) := by decide +kernel
theorem zd_X5_settle_25 : decode cX5_settle 25 = .ok (.iaload, 1) := by decide +kernel
theorem zd_X5_settle_26 : decode cX5_settle 26 = .ok (.istore 5, 2) := by decide +kernel
theorem zd_X5_settle_28 : decode cX5_settle 28 = .ok (.aload_n 0, 1) := by decide +kernel
theorem zd_X5_settle_29 : decode cX5_settle 29 = .ok (.getfield 9, 3) := by decide +kernel
theorem zd_X5_settle_32 : decode cX5_settle 32 = .ok (.iload 5, 2) := by decide +kernel
theorem zd_X5_settle_34 : decode cX5_settle 34 = .ok (.iaload, 1) := by decide +kernel
theorem zd_X5_settle_35 : decode cX5_settle 35 = .ok (.istore 6, 2) := by decide +kernel
theorem zd_X5_settle_37 : decode cX5_settle 37 = .ok (.iload 6, 2) := by decide +kernel
theorem zd_X5_settle_39 : decode cX5_settle 39 = .ok (.iload_n 1, 1) := by decide +kernel
theorem zd_X5_settle_40 : decode cX5_settle 40 = .ok (.if_icmp .ge 32, 3) := by decide +kernel
theorem zd_X5_settle_43 : decode cX5_settle 43 = .ok (.aload_n 0, 1) := by decide +kernel
theorem zd_X5_settle_44 : decode cX5_settle 44 = .ok (.getfield 9, 3) := by decide +kernel
theorem zd_X5_settle_47 : decode cX5_settle 47 = .ok (.iload 5, 2) := by decide +kernel
theorem zd_X5_settle_49 : decode cX5_settle 49 = .ok (.iload_n 1, 1) := by decide +kernel
theorem zd_X5_settle_50 : decode cX5_settle 50 = .ok (.iload 6, 2) := by decide +kernel
theorem zd_X5_settle_52 : decode cX5_settle 52 = .ok (.aload_n 0, 1) := by decide +kernel
theorem zd_X5_settle_53 : decode cX5_settle 53 = .ok (.getfield 19, 3) := by decide +kernel
theorem zd_X5_settle_56 : decode cX5_settle 56 = .ok (.iload 5, 2) := by decide +kernel
theorem zd_X5_settle_58 : decode cX5_settle 58 = .ok (.iaload, 1) := by decide +kernel
theorem zd_X5_settle_59 : decode cX5_settle 59 = .ok (.iload_n 2, 1) := by decide +kernel
theorem zd_X5_settle_60 : decode cX5_settle 60 = .ok (.imul, 1) := by decide +kernel
theorem zd_X5_settle_61 : decode cX5_settle 61 = .ok (.bipush 16, 2) := by decide +kernel
theorem zd_X5_settle_63 : decode cX5_settle 63 = .ok (.idiv, 1) := by decide +kernel
theorem zd_X5_settle_64 : decode cX5_settle 64 = .ok (.iadd, 1) := by decide +kernel
theorem zd_X5_settle_65 : decode cX5_settle 65 = .ok (.invokestatic 63, 3) := by decide +kernel
theorem zd_X5_settle_68 : decode cX5_settle 68 = .ok (.iastore, 1) := by decide +kernel
theorem zd_X5_settle_69 : decode cX5_settle 69 = .ok (.goto 60, 3) := by decide +kernel
theorem zd_X5_settle_72 : decode cX5_settle 72 = .ok (.aload_n 0, 1) := by decide +kernel
theorem zd_X5_settle_73 : decode cX5_settle 73 = .ok (.getfield 22, 3) := by decide +kernel
theorem zd_X5_settle_76 : decode cX5_settle 76 = .ok (.iload 5, 2) := by decide +kernel
theorem zd_X5_settle_78 : decode cX5_settle 78 = .ok (.baload, 1) := by decide +kernel
theorem zd_X5_settle_79 : decode cX5_settle 79 = .ok (.ifCond .eq 23, 3) := by decide +kernel
theorem zd_X5_settle_82 : decode cX5_settle 82 = .ok (.aload_n 0, 1) := by decide +kernel
theorem zd_X5_settle_83 : decode cX5_settle 83 = .ok (.getfield 9, 3) := by decide +kernel
theorem zd_X5_settle_86 : decode cX5_settle 86 = .ok (.iload 5, 2) := by decide +kernel
theorem zd_X5_settle_88 : decode cX5_settle 88 = .ok (.sipush 200, 3) := by decide +kernel
theorem zd_X5_settle_91 : decode cX5_settle 91 = .ok (.iload 6, 2) := by decide +kernel
theorem zd_X5_settle_93 : decode cX5_settle 93 = .ok (.iconst 1, 1) := by decide +kernel
theorem zd_X5_settle_94 : decode cX5_settle 94 = .ok (.iadd, 1) := by decide +kernel
theorem zd_X5_settle_95 : decode cX5_settle 95 = .ok (.invokestatic 63, 3) := by decide +kernel
theorem zd_X5_settle_98 : decode cX5_settle 98 = .ok (.iastore, 1) := by decide +kernel
theorem zd_X5_settle_99 : decode cX5_settle 99 = .ok (.goto 30, 3) := by decide +kernel
theorem zd_X5_settle_102 : decode cX5_settle 102 = .ok (.aload_n 0, 1) := by decide +kernel
theorem zd_X5_settle_103 : decode cX5_settle 103 = .ok (.getfield 19, 3) := by decide +kernel
theorem zd_X5_settle_106 : decode cX5_settle 106 = .ok (.iload 5, 2) := by decide +kernel
theorem zd_X5_settle_108 : decode cX5_settle 108 = .ok (.iaload, 1) := by decide +kernel
theorem zd_X5_settle_109 : decode cX5_settle 109 = .ok (.bipush 16, 2) := by decide +kernel
theorem zd_X5_settle_111 : decode cX5_settle 111 = .ok (.if_icmp .lt 18, 3) := by decide +kernel
theorem zd_X5_settle_114 : decode cX5_settle 114 = .ok (.aload_n 0, 1) := by decide +kernel
theorem zd_X5_settle_115 : decode cX5_settle 115 = .ok (.getfield 9, 3) := by decide +kernel
theorem zd_X5_settle_118 : decode cX5_settle 118 = .ok (.iload 5, 2) := by decide +kernel
theorem zd_X5_settle_120 : decode cX5_settle 120 = .ok (.iconst 0, 1) := by decide +kernel
theorem zd_X5_settle_121 : decode cX5_settle 121 = .ok (.iload 6, 2) := by decide +kernel
theorem zd_X5_settle_123 : decode cX5_settle 123 = .ok (.iload_n 3, 1) := by decide +kernel
theorem zd_X5_settle_124 : decode cX5_settle 124 = .ok (.isub, 1) := by decide +kernel
theorem zd_X5_settle_125 : decode cX5_settle 125 = .ok (.invokestatic 69, 3) := by decide +kernel
theorem zd_X5_settle_128 : decode cX5_settle 128 = .ok (.iastore, 1) := by decide +kernel
theorem zd_X5_settle_129 : decode cX5_settle 129 = .ok (.iinc 4 1, 3) := by decide +kernel
theorem zd_X5_settle_132 : decode cX5_settle 132 = .ok (.goto (-129), 3) := by decide +kernel
theorem zd_X5_settle_135 : decode cX5_settle 135 = .ok (.return_, 1) := by decide +kernel
def zb_X5_settle_0 (K : zKt) (J : Nat → zPP) : zPP := zT_push (.int 0) (zT_ist 4 (J 3))
theorem zbs_X5_settle_0 {X : zCt} (hR : zRX X = { frames := 1, cells := 0, slots := 0, locals := 21 }) (J : Nat → zPP) (hJ : ∀ h ∈ ([3] : List Nat), zSd X RX5 "settle" cX5_settle 7 none h (J h)) : zSd X RX5 "settle" cX5_settle 7 none 0 (zb_X5_settle_0 (zKX X) J) := zs_iconst zd_X5_settle_0 (by decide) (zs_istore zd_X5_settle_1 (by decide) (hJ 3 (by decide)))
def zb_X5_settle_135 (K : zKt) (J : Nat → zPP) : zPP := zT_vret K
theorem zbs_X5_settle_135 {X : zCt} (hR : zRX X = { frames := 1, cells := 0, slots := 0, locals := 21 }) (J : Nat → zPP) (hJ : ∀ h ∈ ([3] : List Nat), zSd X RX5 "settle" cX5_settle 7 none h (J h)) : zSd X RX5 "settle" cX5_settle 7 none 135 (zb_X5_settle_135 (zKX X) J) := zs_vret rfl zd_X5_settle_135
def zb_X5_settle_129 (K : zKt) (J : Nat → zPP) : zPP := zT_iinc 4 1 (J 3)
theorem zbs_X5_settle_129 {X : zCt} (hR : zRX X = { frames := 1, cells := 0, slots := 0, locals := 21 }) (J : Nat → zPP) (hJ : ∀ h ∈ ([3] : List Nat), zSd X RX5 "settle" cX5_settle 7 none h (J h)) : zSd X RX5 "settle" cX5_settle 7 none 129 (zb_X5_settle_129 (zKX X) J) := zs_iinc zd_X5_settle_129 (by decide) (by decide) (zs_goto (tgt := 3) zd_X5_settle_132 (by decide) (hJ 3 (by decide)))
def zb_X5_settle_3 (K : zKt) (J : Nat → zPP) : zPP := zT_ild 4 (zT_ald 0 (zT_getI 5 5 11 (zT_if2 (fun x y => y ≤ x) (zb_X5_settle_135 K J) (zT_ild 4 (zT_push (.int 120) (zT_if2 (fun x y => y ≤ x) (zb_X5_settle_135 K J) (zT_ald 0 (zT_getR 5 4 11 (zT_ild 4 (zT_ald0 0 (zT_ist 5 (zT_ald 0 (zT_getR 5 0 11 (zT_ild 5 (zT_ald0 0 (zT_ist 6 (zT_ild 6 (zT_ild 1 (zT_if2 (fun x y => y ≤ x) (zT_ald 0 (zT_getR 5 3 11 (zT_ild 5 (zT_ald0 1 (zT_if1 (fun x => x = 0) (zT_ald 0 (zT_getR 5 2 11 (zT_ild 5 (zT_ald0 0 (zT_push (.int 16) (zT_if2 (fun x y => x < y) (zb_X5_settle_129 K J) (zT_ald 0 (zT_getR 5 0 11 (zT_ild 5 (zT_push (.int 0) (zT_ild 6 (zT_ild 3 (zT_bin (fun x y => x - y) (zT_mm (fun x y => if x < y then y else x) (zT_iast (zb_X5_settle_129 K J)))))))))))))))) (zT_ald 0 (zT_getR 5 0 11 (zT_ild 5 (zT_push (.int 200) (zT_ild 6 (zT_push (.int 1) (zT_bin (fun x y => x + y) (zT_mm (fun x y => if y < x then y else x) (zT_iast (zb_X5_settle_129 K J))))))))))))))) (zT_ald 0 (zT_getR 5 0 11 (zT_ild 5 (zT_ild 1 (zT_ild 6 (zT_ald 0 (zT_getR 5 2 11 (zT_ild 5 (zT_ald0 0 (zT_ild 2 (zT_bin (fun x y => x * y) (zT_push (.int 16) (zT_div (fun x y => x / y) (zT_bin (fun x y => x + y) (zT_mm (fun x y => if y < x then y else x) (zT_iast (zb_X5_settle_129 K J))))))))))))))))))))))))))))))))))))
theorem zbs_X5_settle_3 {X : zCt} (hR : zRX X = { frames := 1, cells := 0, slots := 0, locals := 21 }) (J : Nat → zPP) (hJ : ∀ h ∈ ([3] : List Nat), zSd X RX5 "settle" cX5_settle 7 none h (J h)) : zSd X RX5 "settle" cX5_settle 7 none 3 (zb_X5_settle_3 (zKX X) J) := zs_iload zd_X5_settle_3 (zs_aload_n zd_X5_settle_5 rfl (zs_getI (ci := 5) (j := 5) (T := TX5) rfl inX5 (by decide) gw_1_121 rfl zd_X5_settle_6 (zs_icmp_ge (tgt := 135) zd_X5_settle_9 (by decide) (zbs_X5_settle_135 hR J hJ) (zs_iload zd_X5_settle_12 (zs_bipush zd_X5_settle_14 (by decide) (zs_icmp_ge (tgt := 135) zd_X5_settle_16 (by decide) (zbs_X5_settle_135 hR J hJ) (zs_aload_n zd_X5_settle_19 rfl (zs_getR (ci := 5) (j := 4) (T := TX5) rfl inX5 (by decide) gw_1_120 rfl zd_X5_settle_20 (zs_iload zd_X5_settle_23 (zs_iald zd_X5_settle_25 (zs_istore zd_X5_settle_26 (by decide) (zs_aload_n zd_X5_settle_28 rfl (zs_getR (ci := 5) (j := 0) (T := TX5) rfl inX5 (by decide) gw_1_111 rfl zd_X5_settle_29 (zs_iload zd_X5_settle_32 (zs_iald zd_X5_settle_34 (zs_istore zd_X5_settle_35 (by decide) (zs_iload zd_X5_settle_37 (zs_iload_n zd_X5_settle_39 rfl (zs_icmp_ge (tgt := 72) zd_X5_settle_40 (by decide) (zs_aload_n zd_X5_settle_72 rfl (zs_getR (ci := 5) (j := 3) (T := TX5) rfl inX5 (by decide) gw_1_119 rfl zd_X5_settle_73 (zs_iload zd_X5_settle_76 (zs_zald zd_X5_settle_78 (zs_if_eq (tgt := 102) zd_X5_settle_79 (by decide) (zs_aload_n zd_X5_settle_102 rfl (zs_getR (ci := 5) (j := 2) (T := TX5) rfl inX5 (by decide) gw_1_117 rfl zd_X5_settle_103 (zs_iload zd_X5_settle_106 (zs_iald zd_X5_settle_108 (zs_bipush zd_X5_settle_109 (by decide) (zs_icmp_lt (tgt := 129) zd_X5_settle_111 (by decide) (zbs_X5_settle_129 hR J hJ) (zs_aload_n zd_X5_settle_114 rfl (zs_getR (ci := 5) (j := 0) (T := TX5) rfl inX5 (by decide) gw_1_111 rfl zd_X5_settle_115 (zs_iload zd_X5_settle_118 (zs_iconst zd_X5_settle_120 (by decide) (zs_iload zd_X5_settle_121 (zs_iload_n zd_X5_settle_123 rfl (zs_isub zd_X5_settle_124 (zs_max gw_3_26 gw_2_203 gw_1_13 gw_2_204 (zrm1 hR (by decide) (by decide)) zd_X5_settle_125 (zs_iast zd_X5_settle_128 (zbs_X5_settle_129 hR J hJ)))))))))))))))) (zs_aload_n zd_X5_settle_82 rfl (zs_getR (ci := 5) (j := 0) (T := TX5) rfl inX5 (by decide) gw_1_111 rfl zd_X5_settle_83 (zs_iload zd_X5_settle_86 (zs_sipush zd_X5_settle_88 (by decide) (zs_iload zd_X5_settle_91 (zs_iconst zd_X5_settle_93 (by decide) (zs_iadd zd_X5_settle_94 (zs_min gw_3_25 gw_2_135 gw_1_13 gw_2_136 (zrm1 hR (by decide) (by decide)) zd_X5_settle_95 (zs_iast zd_X5_settle_98 (zs_goto (tgt := 129) zd_X5_settle_99 (by decide) (zbs_X5_settle_129 hR J hJ)))))))))))))))) (zs_aload_n zd_X5_settle_43 rfl (zs_getR (ci := 5) (j := 0) (T := TX5) rfl inX5 (by decide) gw_1_111 rfl zd_X5_settle_44 (zs_iload zd_X5_settle_47 (zs_iload_n zd_X5_settle_49 rfl (zs_iload zd_X5_settle_50 (zs_aload_n zd_X5_settle_52 rfl (zs_getR (ci := 5) (j := 2) (T := TX5) rfl inX5 (by decide) gw_1_117 rfl zd_X5_settle_53 (zs_iload zd_X5_settle_56 (zs_iald zd_X5_settle_58 (zs_iload_n zd_X5_settle_59 rfl (zs_imul zd_X5_settle_60 (zs_bipush zd_X5_settle_61 (by decide) (zs_idiv zd_X5_settle_63 (zs_iadd zd_X5_settle_64 (zs_min gw_3_25 gw_2_135 gw_1_13 gw_2_136 (zrm1 hR (by decide) (by decide)) zd_X5_settle_65 (zs_iast zd_X5_settle_68 (zs_goto (tgt := 129) zd_X5_settle_69 (by decide) (zbs_X5_settle_129 hR J hJ)))))))))))))))))))))))))))))))))))))
def zB_X5_settle (K : zKt) (J : Nat → zPP) (h : Nat) : zPP := if h = 3 then zb_X5_settle_3 K J else (fun _ _ _ => False)
theorem zBs_X5_settle {X : zCt} (hR : zRX X = { frames := 1, cells := 0, slots := 0, locals := 21 }) : ∀ J : Nat → zPP, (∀ h ∈ ([3] : List Nat), zSd X RX5 "settle" cX5_settle 7 none h (J h)) → ∀ h ∈ ([3] : List Nat), zSd X RX5 "settle" cX5_settle 7 none h (zB_X5_settle (zKX X) J h) := by
  intro J hJ h hh
  unfold zB_X5_settle
  simp only [List.mem_cons, List.not_mem_nil, or_false] at hh
  subst hh
  exact zbs_X5_settle_3 hR J hJ
theorem zdn_X5_settle : yX5_settle.cls ≠ "java/lang/invoke/MethodHandle" ∧ yX5_settle.cls ≠ "java/lang/invoke/VarHandle" ∧ (parseMethodDescriptor yX5_settle.desc).map (fun d => d.parameters.length) = some 3 := by decide +kernel
/-! DeltaRuns forgetRuns -/
theorem zd_X7_forgetRuns_0 : decode cX7_forgetRuns 0 = .ok (.iconst 0, 1) := by decide +kernel
theorem zd_X7_forgetRuns_1 : decode cX7_forgetRuns 1 = .ok (.istore_n 1, 1) := by decide +kernel
theorem zd_X7_forgetRuns_2 : decode cX7_forgetRuns 2 = .ok (.iload_n 1, 1) := by decide +kernel
theorem zd_X7_forgetRuns_3 : decode cX7_forgetRuns 3 = .ok (.bipush 36, 2) := by decide +kernel
theorem zd_X7_forgetRuns_5 : decode cX7_forgetRuns 5 = .ok (.if_icmp .ge 28, 3) := by decide +kernel
theorem zd_X7_forgetRuns_8 : decode cX7_forgetRuns 8 = .ok (.aload_n 0, 1) := by decide +kernel
theorem zd_X7_forgetRuns_9 : decode cX7_forgetRuns 9 = .ok (.getfield 39, 3) := by decide +kernel
theorem zd_X7_forgetRuns_12 : decode cX7_forgetRuns 12 = .ok (.iload_n 1, 1) := by decide +kernel
theorem zd_X7_forgetRuns_13 : decode cX7_forgetRuns 13 = .ok (.aaload, 1) := by decide +kernel
theorem zd_X7_forgetRuns_14 : decode cX7_forgetRuns 14 = .ok (.ifnull 13, 3) := by decide +kernel
theorem zd_X7_forgetRuns_17 : decode cX7_forgetRuns 17 = .ok (.aload_n 0, 1) := by decide +kernel
theorem zd_X7_forgetRuns_18 : decode cX7_forgetRuns 18 = .ok (.getfield 39, 3) := by decide +kernel
theorem zd_X7_forgetRuns_21 : decode cX7_forgetRuns 21 = .ok (.iload_n 1, 1) := by decide +kernel
theorem zd_X7_forgetRuns_22 : decode cX7_forgetRuns 22 = .ok (.aaload, 1) := by decide +kernel
theorem zd_X7_forgetRuns_23 : decode cX7_forgetRuns 23 = .ok (.iconst (-1), 1) := by decide +kernel
theorem zd_X7_forgetRuns_24 : decode cX7_forgetRuns 24 = .ok (.putfield 177, 3) := by decide +kernel
theorem zd_X7_forgetRuns_27 : decode cX7_forgetRuns 27 = .ok (.iinc 1 1, 3) := by decide +kernel
theorem zd_X7_forgetRuns_30 : decode cX7_forgetRuns 30 = .ok (.goto (-28), 3) := by decide +kernel
theorem zd_X7_forgetRuns_33 : decode cX7_forgetRuns 33 = .ok (.return_, 1) := by decide +kernel
def zb_X7_forgetRuns_0 (K : zKt) (J : Nat → zPP) : zPP := zT_push (.int 0) (zT_ist 1 (J 2))
theorem zbs_X7_forgetRuns_0 {X : zCt} (hR : zRX X = { frames := 0, cells := 0, slots := 0, locals := 0 }) (J : Nat → zPP) (hJ : ∀ h ∈ ([2] : List Nat), zSd X RX7 "forgetRuns" cX7_forgetRuns 2 none h (J h)) : zSd X RX7 "forgetRuns" cX7_forgetRuns 2 none 0 (zb_X7_forgetRuns_0 (zKX X) J) := zs_iconst zd_X7_forgetRuns_0 (by decide) (zs_istore_n zd_X7_forgetRuns_1 rfl (by decide) (hJ 2 (by decide)))
def zb_X7_forgetRuns_27 (K : zKt) (J : Nat → zPP) : zPP := zT_iinc 1 1 (J 2)
theorem zbs_X7_forgetRuns_27 {X : zCt} (hR : zRX X = { frames := 0, cells := 0, slots := 0, locals := 0 }) (J : Nat → zPP) (hJ : ∀ h ∈ ([2] : List Nat), zSd X RX7 "forgetRuns" cX7_forgetRuns 2 none h (J h)) : zSd X RX7 "forgetRuns" cX7_forgetRuns 2 none 27 (zb_X7_forgetRuns_27 (zKX X) J) := zs_iinc zd_X7_forgetRuns_27 (by decide) (by decide) (zs_goto (tgt := 2) zd_X7_forgetRuns_30 (by decide) (hJ 2 (by decide)))
def zb_X7_forgetRuns_2 (K : zKt) (J : Nat → zPP) : zPP := zT_ild 1 (zT_push (.int 36) (zT_if2 (fun x y => y ≤ x) (zT_vret K) (zT_ald 0 (zT_getR 7 4 9 (zT_ild 1 (zT_aald (zT_ifn (zb_X7_forgetRuns_27 K J) (zT_ald 0 (zT_getR 7 4 9 (zT_ild 1 (zT_aald (zT_push (.int (-1)) (zT_putI 6 1 2 (zb_X7_forgetRuns_27 K J))))))))))))))
theorem zbs_X7_forgetRuns_2 {X : zCt} (hR : zRX X = { frames := 0, cells := 0, slots := 0, locals := 0 }) (J : Nat → zPP) (hJ : ∀ h ∈ ([2] : List Nat), zSd X RX7 "forgetRuns" cX7_forgetRuns 2 none h (J h)) : zSd X RX7 "forgetRuns" cX7_forgetRuns 2 none 2 (zb_X7_forgetRuns_2 (zKX X) J) := zs_iload_n zd_X7_forgetRuns_2 rfl (zs_bipush zd_X7_forgetRuns_3 (by decide) (zs_icmp_ge (tgt := 33) zd_X7_forgetRuns_5 (by decide) (zs_vret rfl zd_X7_forgetRuns_33) (zs_aload_n zd_X7_forgetRuns_8 rfl (zs_getR (ci := 7) (j := 4) (T := TX7) rfl inX7 (by decide) gw_1_189 rfl zd_X7_forgetRuns_9 (zs_iload_n zd_X7_forgetRuns_12 rfl (zs_aald zd_X7_forgetRuns_13 (zs_ifnull (tgt := 27) zd_X7_forgetRuns_14 (by decide) (zbs_X7_forgetRuns_27 hR J hJ) (zs_aload_n zd_X7_forgetRuns_17 rfl (zs_getR (ci := 7) (j := 4) (T := TX7) rfl inX7 (by decide) gw_1_189 rfl zd_X7_forgetRuns_18 (zs_iload_n zd_X7_forgetRuns_21 rfl (zs_aald zd_X7_forgetRuns_22 (zs_iconst zd_X7_forgetRuns_23 (by decide) (zs_putI (ci := 6) (j := 1) (T := TX6) rfl inX6 tyX6_ok nmX6 (by decide) gw_2_172 rfl rfl rfl zd_X7_forgetRuns_24 (zbs_X7_forgetRuns_27 hR J hJ))))))))))))))
def zB_X7_forgetRuns (K : zKt) (J : Nat → zPP) (h : Nat) : zPP := if h = 2 then zb_X7_forgetRuns_2 K J else (fun _ _ _ => False)
theorem zBs_X7_forgetRuns {X : zCt} (hR : zRX X = { frames := 0, cells := 0, slots := 0, locals := 0 }) : ∀ J : Nat → zPP, (∀ h ∈ ([2] : List Nat), zSd X RX7 "forgetRuns" cX7_forgetRuns 2 none h (J h)) → ∀ h ∈ ([2] : List Nat), zSd X RX7 "forgetRuns" cX7_forgetRuns 2 none h (zB_X7_forgetRuns (zKX X) J h) := by
  intro J hJ h hh
  unfold zB_X7_forgetRuns
  simp only [List.mem_cons, List.not_mem_nil, or_false] at hh
  subst hh
  exact zbs_X7_forgetRuns_2 hR J hJ
theorem zdn_X7_forgetRuns : yX7_forgetRuns.cls ≠ "java/lang/invoke/MethodHandle" ∧ yX7_forgetRuns.cls ≠ "java/lang/invoke/VarHandle" ∧ (parseMethodDescriptor yX7_forgetRuns.desc).map (fun d => d.parameters.length) = some 0 := by decide +kernel
/-! DeltaRuns fault -/
theorem zd_X7_fault_0 : decode cX7_fault 0 = .ok (.aload_n 0, 1) := by decide +kernel
theorem zd_X7_fault_1 : decode cX7_fault 1 = .ok (.getfield 53, 3) := by decide +kernel
theorem zd_X7_fault_4 : decode cX7_fault 4 = .ok (.ireturn, 1) := by decide +kernel
def zb_X7_fault_0 (K : zKt) (J : Nat → zPP) : zPP := zT_ald 0 (zT_getI 7 7 9 (zT_iret K))
theorem zbs_X7_fault_0 {X : zCt} (hR : zRX X = { frames := 0, cells := 0, slots := 0, locals := 0 }) (J : Nat → zPP) (hJ : ∀ h ∈ ([] : List Nat), zSd X RX7 "fault" cX7_fault 1 (some .int) h (J h)) : zSd X RX7 "fault" cX7_fault 1 (some .int) 0 (zb_X7_fault_0 (zKX X) J) := zs_aload_n zd_X7_fault_0 rfl (zs_getI (ci := 7) (j := 7) (T := TX7) rfl inX7 (by decide) gw_1_192 rfl zd_X7_fault_1 (zs_iret rfl zd_X7_fault_4))
theorem zdn_X7_fault : yX7_fault.cls ≠ "java/lang/invoke/MethodHandle" ∧ yX7_fault.cls ≠ "java/lang/invoke/VarHandle" ∧ (parseMethodDescriptor yX7_fault.desc).map (fun d => d.parameters.length) = some 0 := by decide +kernel
/-! DeltaRuns status -/
theorem zd_X7_status_0 : decode cX7_status 0 = .ok (.aload_n 0, 1) := by decide +kernel
theorem zd_X7_status_1 : decode cX7_status 1 = .ok (.getfield 57, 3) := by decide +kernel
theorem zd_X7_status_4 : decode cX7_status 4 = .ok (.ireturn, 1) := by decide +kernel
def zb_X7_status_0 (K : zKt) (J : Nat → zPP) : zPP := zT_ald 0 (zT_getI 7 8 9 (zT_iret K))
theorem zbs_X7_status_0 {X : zCt} (hR : zRX X = { frames := 0, cells := 0, slots := 0, locals := 0 }) (J : Nat → zPP) (hJ : ∀ h ∈ ([] : List Nat), zSd X RX7 "status" cX7_status 1 (some .int) h (J h)) : zSd X RX7 "status" cX7_status 1 (some .int) 0 (zb_X7_status_0 (zKX X) J) := zs_aload_n zd_X7_status_0 rfl (zs_getI (ci := 7) (j := 8) (T := TX7) rfl inX7 (by decide) gw_1_193 rfl zd_X7_status_1 (zs_iret rfl zd_X7_status_4))
theorem zdn_X7_status : yX7_status.cls ≠ "java/lang/invoke/MethodHandle" ∧ yX7_status.cls ≠ "java/lang/invoke/VarHandle" ∧ (parseMethodDescriptor yX7_status.desc).map (fun d => d.parameters.length) = some 0 := by decide +kernel
/-! DeltaRuns count -/
theorem zd_X7_count_0 : decode cX7_count 0 = .ok (.iload_n 1, 1) := by decide +kernel
theorem zd_X7_count_1 : decode cX7_count 1 = .ok (.tableswitch 99 0 6 #[43, 51, 59, 67, 75, 83, 91], 43) := by decide +kernel
theorem zd_X7_count_44 : decode cX7_count 44 = .ok (.aload_n 0, 1) := by decide +kernel
theorem zd_X7_count_45 : decode cX7_count 45 = .ok (.getfield 10, 3) := by decide +kernel
theorem zd_X7_count_48 : decode cX7_count 48 = .ok (.getfield 148, 3) := by decide +kernel
theorem zd_X7_count_51 : decode cX7_count 51 = .ok (.ireturn, 1) := by decide +kernel
theorem zd_X7_count_52 : decode cX7_count 52 = .ok (.aload_n 0, 1) := by decide +kernel
theorem zd_X7_count_53 : decode cX7_count 53 = .ok (.getfield 10, 3) := by decide +kernel
theorem zd_X7_count_56 : decode cX7_count 56 = .ok (.getfield 145, 3) := by decide +kernel
theorem zd_X7_count_59 : decode cX7_count 59 = .ok (.ireturn, 1) := by decide +kernel
theorem zd_X7_count_60 : decode cX7_count 60 = .ok (.aload_n 0, 1) := by decide +kernel
theorem zd_X7_count_61 : decode cX7_count 61 = .ok (.getfield 10, 3) := by decide +kernel
theorem zd_X7_count_64 : decode cX7_count 64 = .ok (.getfield 89, 3) := by decide +kernel
theorem zd_X7_count_67 : decode cX7_count 67 = .ok (.ireturn, 1) := by decide +kernel
theorem zd_X7_count_68 : decode cX7_count 68 = .ok (.aload_n 0, 1) := by decide +kernel
theorem zd_X7_count_69 : decode cX7_count 69 = .ok (.getfield 10, 3) := by decide +kernel
theorem zd_X7_count_72 : decode cX7_count 72 = .ok (.getfield 99, 3) := by decide +kernel
theorem zd_X7_count_75 : decode cX7_count 75 = .ok (.ireturn, 1) := by decide +kernel
theorem zd_X7_count_76 : decode cX7_count 76 = .ok (.aload_n 0, 1) := by decide +kernel
theorem zd_X7_count_77 : decode cX7_count 77 = .ok (.getfield 46, 3) := by decide +kernel
theorem zd_X7_count_80 : decode cX7_count 80 = .ok (.getfield 118, 3) := by decide +kernel
theorem zd_X7_count_83 : decode cX7_count 83 = .ok (.ireturn, 1) := by decide +kernel
theorem zd_X7_count_84 : decode cX7_count 84 = .ok (.aload_n 0, 1) := by decide +kernel
theorem zd_X7_count_85 : decode cX7_count 85 = .ok (.getfield 26, 3) := by decide +kernel
theorem zd_X7_count_88 : decode cX7_count 88 = .ok (.getfield 72, 3) := by decide +kernel
theorem zd_X7_count_91 : decode cX7_count 91 = .ok (.ireturn, 1) := by decide +kernel
theorem zd_X7_count_92 : decode cX7_count 92 = .ok (.aload_n 0, 1) := by decide +kernel
theorem zd_X7_count_93 : decode cX7_count 93 = .ok (.getfield 19, 3) := by decide +kernel
theorem zd_X7_count_96 : decode cX7_count 96 = .ok (.getfield 102, 3) := by decide +kernel
theorem zd_X7_count_99 : decode cX7_count 99 = .ok (.ireturn, 1) := by decide +kernel
theorem zd_X7_count_100 : decode cX7_count 100 = .ok (.iconst (-1), 1) := by decide +kernel
theorem zd_X7_count_101 : decode cX7_count 101 = .ok (.ireturn, 1) := by decide +kernel
def zb_X7_count_0 (K : zKt) (J : Nat → zPP) : zPP := zT_ild 1 (zT_tab 0 [zT_ald 0 (zT_getR 7 0 9 (zT_getI 1 1 6 (zT_iret K))), zT_ald 0 (zT_getR 7 0 9 (zT_getI 1 2 6 (zT_iret K))), zT_ald 0 (zT_getR 7 0 9 (zT_getI 1 5 6 (zT_iret K))), zT_ald 0 (zT_getR 7 0 9 (zT_getI 1 4 6 (zT_iret K))), zT_ald 0 (zT_getR 7 5 9 (zT_getI 2 5 6 (zT_iret K))), zT_ald 0 (zT_getR 7 2 9 (zT_getI 0 4 5 (zT_iret K))), zT_ald 0 (zT_getR 7 1 9 (zT_getI 4 1 2 (zT_iret K)))] (zT_push (.int (-1)) (zT_iret K)))
theorem zbs_X7_count_0 {X : zCt} (hR : zRX X = { frames := 0, cells := 0, slots := 0, locals := 0 }) (J : Nat → zPP) (hJ : ∀ h ∈ ([] : List Nat), zSd X RX7 "count" cX7_count 2 (some .int) h (J h)) : zSd X RX7 "count" cX7_count 2 (some .int) 0 (zb_X7_count_0 (zKX X) J) := zs_iload_n zd_X7_count_0 rfl (zs_tab (tgts := [44, 52, 60, 68, 76, 84, 92]) zd_X7_count_1 (by decide) (by rfl) rfl (by rfl) (fun j q t h1 h2 => match j, q, t, h1, h2 with
    | 0, q, t, h1, h2 => by
      cases h1
      cases h2
      exact zs_aload_n zd_X7_count_44 rfl (zs_getR (ci := 7) (j := 0) (T := TX7) rfl inX7 (by decide) gw_1_185 rfl zd_X7_count_45 (zs_getI (ci := 1) (j := 1) (T := TX1) rfl inX1 (by decide) gw_1_36 rfl zd_X7_count_48 (zs_iret rfl zd_X7_count_51)))
    | 1, q, t, h1, h2 => by
      cases h1
      cases h2
      exact zs_aload_n zd_X7_count_52 rfl (zs_getR (ci := 7) (j := 0) (T := TX7) rfl inX7 (by decide) gw_1_185 rfl zd_X7_count_53 (zs_getI (ci := 1) (j := 2) (T := TX1) rfl inX1 (by decide) gw_1_38 rfl zd_X7_count_56 (zs_iret rfl zd_X7_count_59)))
    | 2, q, t, h1, h2 => by
      cases h1
      cases h2
      exact zs_aload_n zd_X7_count_60 rfl (zs_getR (ci := 7) (j := 0) (T := TX7) rfl inX7 (by decide) gw_1_185 rfl zd_X7_count_61 (zs_getI (ci := 1) (j := 5) (T := TX1) rfl inX1 (by decide) gw_1_46 rfl zd_X7_count_64 (zs_iret rfl zd_X7_count_67)))
    | 3, q, t, h1, h2 => by
      cases h1
      cases h2
      exact zs_aload_n zd_X7_count_68 rfl (zs_getR (ci := 7) (j := 0) (T := TX7) rfl inX7 (by decide) gw_1_185 rfl zd_X7_count_69 (zs_getI (ci := 1) (j := 4) (T := TX1) rfl inX1 (by decide) gw_1_44 rfl zd_X7_count_72 (zs_iret rfl zd_X7_count_75)))
    | 4, q, t, h1, h2 => by
      cases h1
      cases h2
      exact zs_aload_n zd_X7_count_76 rfl (zs_getR (ci := 7) (j := 5) (T := TX7) rfl inX7 (by decide) gw_1_190 rfl zd_X7_count_77 (zs_getI (ci := 2) (j := 5) (T := TX2) rfl inX2 (by decide) gw_1_171 rfl zd_X7_count_80 (zs_iret rfl zd_X7_count_83)))
    | 5, q, t, h1, h2 => by
      cases h1
      cases h2
      exact zs_aload_n zd_X7_count_84 rfl (zs_getR (ci := 7) (j := 2) (T := TX7) rfl inX7 (by decide) gw_1_187 rfl zd_X7_count_85 (zs_getI (ci := 0) (j := 4) (T := TX0) rfl inX0 (by decide) gw_1_93 rfl zd_X7_count_88 (zs_iret rfl zd_X7_count_91)))
    | 6, q, t, h1, h2 => by
      cases h1
      cases h2
      exact zs_aload_n zd_X7_count_92 rfl (zs_getR (ci := 7) (j := 1) (T := TX7) rfl inX7 (by decide) gw_1_186 rfl zd_X7_count_93 (zs_getI (ci := 4) (j := 1) (T := TX4) rfl inX4 (by decide) gw_1_70 rfl zd_X7_count_96 (zs_iret rfl zd_X7_count_99)))
    | j + 7, q, t, h1, h2 => by cases h1) (zs_iconst zd_X7_count_100 (by decide) (zs_iret rfl zd_X7_count_101)))
theorem zdn_X7_count : yX7_count.cls ≠ "java/lang/invoke/MethodHandle" ∧ yX7_count.cls ≠ "java/lang/invoke/VarHandle" ∧ (parseMethodDescriptor yX7_count.desc).map (fun d => d.parameters.length) = some 1 := by decide +kernel
/-! DeltaRuns$Reader isLetter -/
theorem zd_X3_isLetter_0 : decode cX3_isLetter 0 = .ok (.iload_n 0, 1) := by decide +kernel
theorem zd_X3_isLetter_1 : decode cX3_isLetter 1 = .ok (.bipush 97, 2) := by decide +kernel
theorem zd_X3_isLetter_3 : decode cX3_isLetter 3 = .ok (.if_icmp .lt 13, 3) := by decide +kernel
theorem zd_X3_isLetter_6 : decode cX3_isLetter 6 = .ok (.iload_n 0, 1) := by decide +kernel
theorem zd_X3_isLetter_7 : decode cX3_isLetter 7 = .ok (.bipush 122, 2) := by decide +kernel
theorem zd_X3_isLetter_9 : decode cX3_isLetter 9 = .ok (.if_icmp .gt 7, 3) := by decide +kernel
theorem zd_X3_isLetter_12 : decode cX3_isLetter 12 = .ok (.iconst 1, 1) := by decide +kernel
theorem zd_X3_isLetter_13 : decode cX3_isLetter 13 = .ok (.goto 4, 3) := by decide +kernel
theorem zd_X3_isLetter_16 : decode cX3_isLetter 16 = .ok (.iconst 0, 1) := by decide +kernel
theorem zd_X3_isLetter_17 : decode cX3_isLetter 17 = .ok (.ireturn, 1) := by decide +kernel
def zb_X3_isLetter_17 (K : zKt) (J : Nat → zPP) : zPP := zT_nret .boolean K
theorem zbs_X3_isLetter_17 {X : zCt} (hR : zRX X = { frames := 0, cells := 0, slots := 0, locals := 0 }) (J : Nat → zPP) (hJ : ∀ h ∈ ([] : List Nat), zSd X RX3 "isLetter" cX3_isLetter 1 (some .boolean) h (J h)) : zSd X RX3 "isLetter" cX3_isLetter 1 (some .boolean) 17 (zb_X3_isLetter_17 (zKX X) J) := zs_nret rfl zd_X3_isLetter_17
def zb_X3_isLetter_16 (K : zKt) (J : Nat → zPP) : zPP := zT_push (.int 0) (zb_X3_isLetter_17 K J)
theorem zbs_X3_isLetter_16 {X : zCt} (hR : zRX X = { frames := 0, cells := 0, slots := 0, locals := 0 }) (J : Nat → zPP) (hJ : ∀ h ∈ ([] : List Nat), zSd X RX3 "isLetter" cX3_isLetter 1 (some .boolean) h (J h)) : zSd X RX3 "isLetter" cX3_isLetter 1 (some .boolean) 16 (zb_X3_isLetter_16 (zKX X) J) := zs_iconst zd_X3_isLetter_16 (by decide) (zbs_X3_isLetter_17 hR J hJ)
def zb_X3_isLetter_0 (K : zKt) (J : Nat → zPP) : zPP := zT_ild 0 (zT_push (.int 97) (zT_if2 (fun x y => x < y) (zb_X3_isLetter_16 K J) (zT_ild 0 (zT_push (.int 122) (zT_if2 (fun x y => y < x) (zb_X3_isLetter_16 K J) (zT_push (.int 1) (zb_X3_isLetter_17 K J)))))))
theorem zbs_X3_isLetter_0 {X : zCt} (hR : zRX X = { frames := 0, cells := 0, slots := 0, locals := 0 }) (J : Nat → zPP) (hJ : ∀ h ∈ ([] : List Nat), zSd X RX3 "isLetter" cX3_isLetter 1 (some .boolean) h (J h)) : zSd X RX3 "isLetter" cX3_isLetter 1 (some .boolean) 0 (zb_X3_isLetter_0 (zKX X) J) := zs_iload_n zd_X3_isLetter_0 rfl (zs_bipush zd_X3_isLetter_1 (by decide) (zs_icmp_lt (tgt := 16) zd_X3_isLetter_3 (by decide) (zbs_X3_isLetter_16 hR J hJ) (zs_iload_n zd_X3_isLetter_6 rfl (zs_bipush zd_X3_isLetter_7 (by decide) (zs_icmp_gt (tgt := 16) zd_X3_isLetter_9 (by decide) (zbs_X3_isLetter_16 hR J hJ) (zs_iconst zd_X3_isLetter_12 (by decide) (zs_goto (tgt := 17) zd_X3_isLetter_13 (by decide) (zbs_X3_isLetter_17 hR J hJ))))))))
theorem zdn_X3_isLetter : yX3_isLetter.cls ≠ "java/lang/invoke/MethodHandle" ∧ yX3_isLetter.cls ≠ "java/lang/invoke/VarHandle" ∧ (parseMethodDescriptor yX3_isLetter.desc).map (fun d => d.parameters.length) = some 1 := by decide +kernel
/-! DeltaRuns$Reader isDigit -/
theorem zd_X3_isDigit_0 : decode cX3_isDigit 0 = .ok (.iload_n 0, 1) := by decide +kernel
theorem zd_X3_isDigit_1 : decode cX3_isDigit 1 = .ok (.bipush 48, 2) := by decide +kernel
theorem zd_X3_isDigit_3 : decode cX3_isDigit 3 = .ok (.if_icmp .lt 13, 3) := by decide +kernel
theorem zd_X3_isDigit_6 : decode cX3_isDigit 6 = .ok (.iload_n 0, 1) := by decide +kernel
theorem zd_X3_isDigit_7 : decode cX3_isDigit 7 = .ok (.bipush 57, 2) := by decide +kernel
theorem zd_X3_isDigit_9 : decode cX3_isDigit 9 = .ok (.if_icmp .gt 7, 3) := by decide +kernel
theorem zd_X3_isDigit_12 : decode cX3_isDigit 12 = .ok (.iconst 1, 1) := by decide +kernel
theorem zd_X3_isDigit_13 : decode cX3_isDigit 13 = .ok (.goto 4, 3) := by decide +kernel
theorem zd_X3_isDigit_16 : decode cX3_isDigit 16 = .ok (.iconst 0, 1) := by decide +kernel
theorem zd_X3_isDigit_17 : decode cX3_isDigit 17 = .ok (.ireturn, 1) := by decide +kernel
def zb_X3_isDigit_17 (K : zKt) (J : Nat → zPP) : zPP := zT_nret .boolean K
theorem zbs_X3_isDigit_17 {X : zCt} (hR : zRX X = { frames := 0, cells := 0, slots := 0, locals := 0 }) (J : Nat → zPP) (hJ : ∀ h ∈ ([] : List Nat), zSd X RX3 "isDigit" cX3_isDigit 1 (some .boolean) h (J h)) : zSd X RX3 "isDigit" cX3_isDigit 1 (some .boolean) 17 (zb_X3_isDigit_17 (zKX X) J) := zs_nret rfl zd_X3_isDigit_17
def zb_X3_isDigit_16 (K : zKt) (J : Nat → zPP) : zPP := zT_push (.int 0) (zb_X3_isDigit_17 K J)
theorem zbs_X3_isDigit_16 {X : zCt} (hR : zRX X = { frames := 0, cells := 0, slots := 0, locals := 0 }) (J : Nat → zPP) (hJ : ∀ h ∈ ([] : List Nat), zSd X RX3 "isDigit" cX3_isDigit 1 (some .boolean) h (J h)) : zSd X RX3 "isDigit" cX3_isDigit 1 (some .boolean) 16 (zb_X3_isDigit_16 (zKX X) J) := zs_iconst zd_X3_isDigit_16 (by decide) (zbs_X3_isDigit_17 hR J hJ)
def zb_X3_isDigit_0 (K : zKt) (J : Nat → zPP) : zPP := zT_ild 0 (zT_push (.int 48) (zT_if2 (fun x y => x < y) (zb_X3_isDigit_16 K J) (zT_ild 0 (zT_push (.int 57) (zT_if2 (fun x y => y < x) (zb_X3_isDigit_16 K J) (zT_push (.int 1) (zb_X3_isDigit_17 K J)))))))
theorem zbs_X3_isDigit_0 {X : zCt} (hR : zRX X = { frames := 0, cells := 0, slots := 0, locals := 0 }) (J : Nat → zPP) (hJ : ∀ h ∈ ([] : List Nat), zSd X RX3 "isDigit" cX3_isDigit 1 (some .boolean) h (J h)) : zSd X RX3 "isDigit" cX3_isDigit 1 (some .boolean) 0 (zb_X3_isDigit_0 (zKX X) J) := zs_iload_n zd_X3_isDigit_0 rfl (zs_bipush zd_X3_isDigit_1 (by decide) (zs_icmp_lt (tgt := 16) zd_X3_isDigit_3 (by decide) (zbs_X3_isDigit_16 hR J hJ) (zs_iload_n zd_X3_isDigit_6 rfl (zs_bipush zd_X3_isDigit_7 (by decide) (zs_icmp_gt (tgt := 16) zd_X3_isDigit_9 (by decide) (zbs_X3_isDigit_16 hR J hJ) (zs_iconst zd_X3_isDigit_12 (by decide) (zs_goto (tgt := 17) zd_X3_isDigit_13 (by decide) (zbs_X3_isDigit_17 hR J hJ))))))))
theorem zdn_X3_isDigit : yX3_isDigit.cls ≠ "java/lang/invoke/MethodHandle" ∧ yX3_isDigit.cls ≠ "java/lang/invoke/VarHandle" ∧ (parseMethodDescriptor yX3_isDigit.desc).map (fun d => d.parameters.length) = some 1 := by decide +kernel
/-! DeltaRuns$Reader atEnd -/
theorem zd_X3_atEnd_0 : decode cX3_atEnd 0 = .ok (.aload_n 0, 1) := by decide +kernel
theorem zd_X3_atEnd_1 : decode cX3_atEnd 1 = .ok (.getfield 36, 3) := by decide +kernel
theorem zd_X3_atEnd_4 : decode cX3_atEnd 4 = .ok (.aload_n 0, 1) := by decide +kernel
theorem zd_X3_atEnd_5 : decode cX3_atEnd 5 = .ok (.getfield 9, 3) := by decide +kernel
theorem zd_X3_atEnd_8 : decode cX3_atEnd 8 = .ok (.getfield 117, 3) := by decide +kernel
theorem zd_X3_atEnd_11 : decode cX3_atEnd 11 = .ok (.if_icmp .lt 7, 3) := by decide +kernel
theorem zd_X3_atEnd_14 : decode cX3_atEnd 14 = .ok (.iconst 1, 1) := by decide +kernel
theorem zd_X3_atEnd_15 : decode cX3_atEnd 15 = .ok (.goto 4, 3) := by decide +kernel
theorem zd_X3_atEnd_18 : decode cX3_atEnd 18 = .ok (.iconst 0, 1) := by decide +kernel
theorem zd_X3_atEnd_19 : decode cX3_atEnd 19 = .ok (.ireturn, 1) := by decide +kernel
def zb_X3_atEnd_19 (K : zKt) (J : Nat → zPP) : zPP := zT_nret .boolean K
theorem zbs_X3_atEnd_19 {X : zCt} (hR : zRX X = { frames := 0, cells := 0, slots := 0, locals := 0 }) (J : Nat → zPP) (hJ : ∀ h ∈ ([] : List Nat), zSd X RX3 "atEnd" cX3_atEnd 1 (some .boolean) h (J h)) : zSd X RX3 "atEnd" cX3_atEnd 1 (some .boolean) 19 (zb_X3_atEnd_19 (zKX X) J) := zs_nret rfl zd_X3_atEnd_19
def zb_X3_atEnd_0 (K : zKt) (J : Nat → zPP) : zPP := zT_ald 0 (zT_getI 3 2 5 (zT_ald 0 (zT_getR 3 0 5 (zT_getI 4 1 2 (zT_if2 (fun x y => x < y) (zT_push (.int 0) (zb_X3_atEnd_19 K J)) (zT_push (.int 1) (zb_X3_atEnd_19 K J)))))))
theorem zbs_X3_atEnd_0 {X : zCt} (hR : zRX X = { frames := 0, cells := 0, slots := 0, locals := 0 }) (J : Nat → zPP) (hJ : ∀ h ∈ ([] : List Nat), zSd X RX3 "atEnd" cX3_atEnd 1 (some .boolean) h (J h)) : zSd X RX3 "atEnd" cX3_atEnd 1 (some .boolean) 0 (zb_X3_atEnd_0 (zKX X) J) := zs_aload_n zd_X3_atEnd_0 rfl (zs_getI (ci := 3) (j := 2) (T := TX3) rfl inX3 (by decide) gw_2_41 rfl zd_X3_atEnd_1 (zs_aload_n zd_X3_atEnd_4 rfl (zs_getR (ci := 3) (j := 0) (T := TX3) rfl inX3 (by decide) gw_2_39 rfl zd_X3_atEnd_5 (zs_getI (ci := 4) (j := 1) (T := TX4) rfl inX4 (by decide) gw_1_71 rfl zd_X3_atEnd_8 (zs_icmp_lt (tgt := 18) zd_X3_atEnd_11 (by decide) (zs_iconst zd_X3_atEnd_18 (by decide) (zbs_X3_atEnd_19 hR J hJ)) (zs_iconst zd_X3_atEnd_14 (by decide) (zs_goto (tgt := 19) zd_X3_atEnd_15 (by decide) (zbs_X3_atEnd_19 hR J hJ))))))))
theorem zdn_X3_atEnd : yX3_atEnd.cls ≠ "java/lang/invoke/MethodHandle" ∧ yX3_atEnd.cls ≠ "java/lang/invoke/VarHandle" ∧ (parseMethodDescriptor yX3_atEnd.desc).map (fun d => d.parameters.length) = some 0 := by decide +kernel
