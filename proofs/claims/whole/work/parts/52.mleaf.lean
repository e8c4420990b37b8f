/-! DeltaRunsModel in -/
theorem zd_X8_in_0 : decode cX8_in 0 = .ok (.lload_n 0, 1) := by decide +kernel
theorem zd_X8_in_1 : decode cX8_in 1 = .ok (.lload_n 2, 1) := by decide +kernel
theorem zd_X8_in_2 : decode cX8_in 2 = .ok (.lcmp, 1) := by decide +kernel
theorem zd_X8_in_3 : decode cX8_in 3 = .ok (.ifCond .lt 14, 3) := by decide +kernel
theorem zd_X8_in_6 : decode cX8_in 6 = .ok (.lload_n 0, 1) := by decide +kernel
theorem zd_X8_in_7 : decode cX8_in 7 = .ok (.lload 4, 2) := by decide +kernel
theorem zd_X8_in_9 : decode cX8_in 9 = .ok (.lcmp, 1) := by decide +kernel
theorem zd_X8_in_10 : decode cX8_in 10 = .ok (.ifCond .gt 7, 3) := by decide +kernel
theorem zd_X8_in_13 : decode cX8_in 13 = .ok (.iconst 1, 1) := by decide +kernel
theorem zd_X8_in_14 : decode cX8_in 14 = .ok (.goto 4, 3) := by decide +kernel
theorem zd_X8_in_17 : decode cX8_in 17 = .ok (.iconst 0, 1) := by decide +kernel
theorem zd_X8_in_18 : decode cX8_in 18 = .ok (.ireturn, 1) := by decide +kernel
def zb_X8_in_18 (K : zKt) (J : Nat → zPP) : zPP := zT_nret .boolean K
theorem zbs_X8_in_18 {X : zCt} (hR : zRX X = { frames := 0, cells := 0, slots := 0, locals := 0 }) (J : Nat → zPP) (hJ : ∀ h ∈ ([] : List Nat), zSd X RX8 "in" cX8_in 6 (some .boolean) h (J h)) : zSd X RX8 "in" cX8_in 6 (some .boolean) 18 (zb_X8_in_18 (zKX X) J) := zs_nret rfl zd_X8_in_18
def zb_X8_in_17 (K : zKt) (J : Nat → zPP) : zPP := zT_push (.int 0) (zb_X8_in_18 K J)
theorem zbs_X8_in_17 {X : zCt} (hR : zRX X = { frames := 0, cells := 0, slots := 0, locals := 0 }) (J : Nat → zPP) (hJ : ∀ h ∈ ([] : List Nat), zSd X RX8 "in" cX8_in 6 (some .boolean) h (J h)) : zSd X RX8 "in" cX8_in 6 (some .boolean) 17 (zb_X8_in_17 (zKX X) J) := zs_iconst zd_X8_in_17 (by decide) (zbs_X8_in_18 hR J hJ)
def zb_X8_in_0 (K : zKt) (J : Nat → zPP) : zPP := zT_lld 0 (zT_lld 2 (zT_lcmp (zT_if1 (fun x => x < 0) (zb_X8_in_17 K J) (zT_lld 0 (zT_lld 4 (zT_lcmp (zT_if1 (fun x => 0 < x) (zb_X8_in_17 K J) (zT_push (.int 1) (zb_X8_in_18 K J)))))))))
theorem zbs_X8_in_0 {X : zCt} (hR : zRX X = { frames := 0, cells := 0, slots := 0, locals := 0 }) (J : Nat → zPP) (hJ : ∀ h ∈ ([] : List Nat), zSd X RX8 "in" cX8_in 6 (some .boolean) h (J h)) : zSd X RX8 "in" cX8_in 6 (some .boolean) 0 (zb_X8_in_0 (zKX X) J) := zs_lload_n zd_X8_in_0 rfl (zs_lload_n zd_X8_in_1 rfl (zs_lcmp zd_X8_in_2 (zs_if_lt (tgt := 17) zd_X8_in_3 (by decide) (zbs_X8_in_17 hR J hJ) (zs_lload_n zd_X8_in_6 rfl (zs_lload zd_X8_in_7 (zs_lcmp zd_X8_in_9 (zs_if_gt (tgt := 17) zd_X8_in_10 (by decide) (zbs_X8_in_17 hR J hJ) (zs_iconst zd_X8_in_13 (by decide) (zs_goto (tgt := 18) zd_X8_in_14 (by decide) (zbs_X8_in_18 hR J hJ))))))))))
theorem zdn_X8_in : yX8_in.cls ≠ "java/lang/invoke/MethodHandle" ∧ yX8_in.cls ≠ "java/lang/invoke/VarHandle" ∧ (parseMethodDescriptor yX8_in.desc).map (fun d => d.parameters.length) = some 3 := by decide +kernel
/-! DeltaRunsModel told -/
theorem zd_X8_told_0 : decode cX8_told 0 = .ok (.aload_n 0, 1) := by decide +kernel
theorem zd_X8_told_1 : decode cX8_told 1 = .ok (.iload_n 1, 1) := by decide +kernel
theorem zd_X8_told_2 : decode cX8_told 2 = .ok (.ifCond .ge 7, 3) := by decide +kernel
theorem zd_X8_told_5 : decode cX8_told 5 = .ok (.iload_n 1, 1) := by decide +kernel
theorem zd_X8_told_6 : decode cX8_told 6 = .ok (.goto 4, 3) := by decide +kernel
theorem zd_X8_told_9 : decode cX8_told 9 = .ok (.iconst 0, 1) := by decide +kernel
theorem zd_X8_told_10 : decode cX8_told 10 = .ok (.putfield 96, 3) := by decide +kernel
theorem zd_X8_told_13 : decode cX8_told 13 = .ok (.iload_n 1, 1) := by decide +kernel
theorem zd_X8_told_14 : decode cX8_told 14 = .ok (.ireturn, 1) := by decide +kernel
def zb_X8_told_10 (K : zKt) (J : Nat → zPP) : zPP := zT_putI 8 1 38 (zT_ild 1 (zT_iret K))
theorem zbs_X8_told_10 {X : zCt} (hR : zRX X = { frames := 0, cells := 0, slots := 0, locals := 0 }) (J : Nat → zPP) (hJ : ∀ h ∈ ([] : List Nat), zSd X RX8 "told" cX8_told 2 (some .int) h (J h)) : zSd X RX8 "told" cX8_told 2 (some .int) 10 (zb_X8_told_10 (zKX X) J) := zs_putI (ci := 8) (j := 1) (T := TX8) rfl inX8 tyX8_ok nmX8 (by decide) gw_3_90 rfl rfl rfl zd_X8_told_10 (zs_iload_n zd_X8_told_13 rfl (zs_iret rfl zd_X8_told_14))
def zb_X8_told_0 (K : zKt) (J : Nat → zPP) : zPP := zT_ald 0 (zT_ild 1 (zT_if1 (fun x => 0 ≤ x) (zT_push (.int 0) (zb_X8_told_10 K J)) (zT_ild 1 (zb_X8_told_10 K J))))
theorem zbs_X8_told_0 {X : zCt} (hR : zRX X = { frames := 0, cells := 0, slots := 0, locals := 0 }) (J : Nat → zPP) (hJ : ∀ h ∈ ([] : List Nat), zSd X RX8 "told" cX8_told 2 (some .int) h (J h)) : zSd X RX8 "told" cX8_told 2 (some .int) 0 (zb_X8_told_0 (zKX X) J) := zs_aload_n zd_X8_told_0 rfl (zs_iload_n zd_X8_told_1 rfl (zs_if_ge (tgt := 9) zd_X8_told_2 (by decide) (zs_iconst zd_X8_told_9 (by decide) (zbs_X8_told_10 hR J hJ)) (zs_iload_n zd_X8_told_5 rfl (zs_goto (tgt := 10) zd_X8_told_6 (by decide) (zbs_X8_told_10 hR J hJ)))))
theorem zdn_X8_told : yX8_told.cls ≠ "java/lang/invoke/MethodHandle" ∧ yX8_told.cls ≠ "java/lang/invoke/VarHandle" ∧ (parseMethodDescriptor yX8_told.desc).map (fun d => d.parameters.length) = some 1 := by decide +kernel
/-! DeltaRunsModel isSmall -/
theorem zd_X8_isSmall_0 : decode cX8_isSmall 0 = .ok (.iload_n 0, 1) := by decide +kernel
theorem zd_X8_isSmall_1 : decode cX8_isSmall 1 = .ok (.bipush 97, 2) := by decide +kernel
theorem zd_X8_isSmall_3 : decode cX8_isSmall 3 = .ok (.if_icmp .lt 13, 3) := by decide +kernel
theorem zd_X8_isSmall_6 : decode cX8_isSmall 6 = .ok (.iload_n 0, 1) := by decide +kernel
theorem zd_X8_isSmall_7 : decode cX8_isSmall 7 = .ok (.bipush 122, 2) := by decide +kernel
theorem zd_X8_isSmall_9 : decode cX8_isSmall 9 = .ok (.if_icmp .gt 7, 3) := by decide +kernel
theorem zd_X8_isSmall_12 : decode cX8_isSmall 12 = .ok (.iconst 1, 1) := by decide +kernel
theorem zd_X8_isSmall_13 : decode cX8_isSmall 13 = .ok (.goto 4, 3) := by decide +kernel
theorem zd_X8_isSmall_16 : decode cX8_isSmall 16 = .ok (.iconst 0, 1) := by decide +kernel
theorem zd_X8_isSmall_17 : decode cX8_isSmall 17 = .ok (.ireturn, 1) := by decide +kernel
def zb_X8_isSmall_17 (K : zKt) (J : Nat → zPP) : zPP := zT_nret .boolean K
theorem zbs_X8_isSmall_17 {X : zCt} (hR : zRX X = { frames := 0, cells := 0, slots := 0, locals := 0 }) (J : Nat → zPP) (hJ : ∀ h ∈ ([] : List Nat), zSd X RX8 "isSmall" cX8_isSmall 1 (some .boolean) h (J h)) : zSd X RX8 "isSmall" cX8_isSmall 1 (some .boolean) 17 (zb_X8_isSmall_17 (zKX X) J) := zs_nret rfl zd_X8_isSmall_17
def zb_X8_isSmall_16 (K : zKt) (J : Nat → zPP) : zPP := zT_push (.int 0) (zb_X8_isSmall_17 K J)
theorem zbs_X8_isSmall_16 {X : zCt} (hR : zRX X = { frames := 0, cells := 0, slots := 0, locals := 0 }) (J : Nat → zPP) (hJ : ∀ h ∈ ([] : List Nat), zSd X RX8 "isSmall" cX8_isSmall 1 (some .boolean) h (J h)) : zSd X RX8 "isSmall" cX8_isSmall 1 (some .boolean) 16 (zb_X8_isSmall_16 (zKX X) J) := zs_iconst zd_X8_isSmall_16 (by decide) (zbs_X8_isSmall_17 hR J hJ)
def zb_X8_isSmall_0 (K : zKt) (J : Nat → zPP) : zPP := zT_ild 0 (zT_push (.int 97) (zT_if2 (fun x y => x < y) (zb_X8_isSmall_16 K J) (zT_ild 0 (zT_push (.int 122) (zT_if2 (fun x y => y < x) (zb_X8_isSmall_16 K J) (zT_push (.int 1) (zb_X8_isSmall_17 K J)))))))
theorem zbs_X8_isSmall_0 {X : zCt} (hR : zRX X = { frames := 0, cells := 0, slots := 0, locals := 0 }) (J : Nat → zPP) (hJ : ∀ h ∈ ([] : List Nat), zSd X RX8 "isSmall" cX8_isSmall 1 (some .boolean) h (J h)) : zSd X RX8 "isSmall" cX8_isSmall 1 (some .boolean) 0 (zb_X8_isSmall_0 (zKX X) J) := zs_iload_n zd_X8_isSmall_0 rfl (zs_bipush zd_X8_isSmall_1 (by decide) (zs_icmp_lt (tgt := 16) zd_X8_isSmall_3 (by decide) (zbs_X8_isSmall_16 hR J hJ) (zs_iload_n zd_X8_isSmall_6 rfl (zs_bipush zd_X8_isSmall_7 (by decide) (zs_icmp_gt (tgt := 16) zd_X8_isSmall_9 (by decide) (zbs_X8_isSmall_16 hR J hJ) (zs_iconst zd_X8_isSmall_12 (by decide) (zs_goto (tgt := 17) zd_X8_isSmall_13 (by decide) (zbs_X8_isSmall_17 hR J hJ))))))))
theorem zdn_X8_isSmall : yX8_isSmall.cls ≠ "java/lang/invoke/MethodHandle" ∧ yX8_isSmall.cls ≠ "java/lang/invoke/VarHandle" ∧ (parseMethodDescriptor yX8_isSmall.desc).map (fun d => d.parameters.length) = some 1 := by decide +kernel
/-! DeltaRunsModel isDigit -/
theorem zd_X8_isDigit_0 : decode cX8_isDigit 0 = .ok (.iload_n 0, 1) := by decide +kernel
theorem zd_X8_isDigit_1 : decode cX8_isDigit 1 = .ok (.bipush 48, 2) := by decide +kernel
theorem zd_X8_isDigit_3 : decode cX8_isDigit 3 = .ok (.if_icmp .lt 13, 3) := by decide +kernel
theorem zd_X8_isDigit_6 : decode cX8_isDigit 6 = .ok (.iload_n 0, 1) := by decide +kernel
theorem zd_X8_isDigit_7 : decode cX8_isDigit 7 = .ok (.bipush 57, 2) := by decide +kernel
theorem zd_X8_isDigit_9 : decode cX8_isDigit 9 = .ok (.if_icmp .gt 7, 3) := by decide +kernel
theorem zd_X8_isDigit_12 : decode cX8_isDigit 12 = .ok (.iconst 1, 1) := by decide +kernel
theorem zd_X8_isDigit_13 : decode cX8_isDigit 13 = .ok (.goto 4, 3) := by decide +kernel
theorem zd_X8_isDigit_16 : decode cX8_isDigit 16 = .ok (.iconst 0, 1) := by decide +kernel
theorem zd_X8_isDigit_17 : decode cX8_isDigit 17 = .ok (.ireturn, 1) := by decide +kernel
def zb_X8_isDigit_17 (K : zKt) (J : Nat → zPP) : zPP := zT_nret .boolean K
theorem zbs_X8_isDigit_17 {X : zCt} (hR : zRX X = { frames := 0, cells := 0, slots := 0, locals := 0 }) (J : Nat → zPP) (hJ : ∀ h ∈ ([] : List Nat), zSd X RX8 "isDigit" cX8_isDigit 1 (some .boolean) h (J h)) : zSd X RX8 "isDigit" cX8_isDigit 1 (some .boolean) 17 (zb_X8_isDigit_17 (zKX X) J) := zs_nret rfl zd_X8_isDigit_17
def zb_X8_isDigit_16 (K : zKt) (J : Nat → zPP) : zPP := zT_push (.int 0) (zb_X8_isDigit_17 K J)
theorem zbs_X8_isDigit_16 {X : zCt} (hR : zRX X = { frames := 0, cells := 0, slots := 0, locals := 0 }) (J : Nat → zPP) (hJ : ∀ h ∈ ([] : List Nat), zSd X RX8 "isDigit" cX8_isDigit 1 (some .boolean) h (J h)) : zSd X RX8 "isDigit" cX8_isDigit 1 (some .boolean) 16 (zb_X8_isDigit_16 (zKX X) J) := zs_iconst zd_X8_isDigit_16 (by decide) (zbs_X8_isDigit_17 hR J hJ)
def zb_X8_isDigit_0 (K : zKt) (J : Nat → zPP) : zPP := zT_ild 0 (zT_push (.int 48) (zT_if2 (fun x y => x < y) (zb_X8_isDigit_16 K J) (zT_ild 0 (zT_push (.int 57) (zT_if2 (fun x y => y < x) (zb_X8_isDigit_16 K J) (zT_push (.int 1) (zb_X8_isDigit_17 K J)))))))
theorem zbs_X8_isDigit_0 {X : zCt} (hR : zRX X = { frames := 0, cells := 0, slots := 0, locals := 0 }) (J : Nat → zPP) (hJ : ∀ h ∈ ([] : List Nat), zSd X RX8 "isDigit" cX8_isDigit 1 (some .boolean) h (J h)) : zSd X RX8 "isDigit" cX8_isDigit 1 (some .boolean) 0 (zb_X8_isDigit_0 (zKX X) J) := zs_iload_n zd_X8_isDigit_0 rfl (zs_bipush zd_X8_isDigit_1 (by decide) (zs_icmp_lt (tgt := 16) zd_X8_isDigit_3 (by decide) (zbs_X8_isDigit_16 hR J hJ) (zs_iload_n zd_X8_isDigit_6 rfl (zs_bipush zd_X8_isDigit_7 (by decide) (zs_icmp_gt (tgt := 16) zd_X8_isDigit_9 (by decide) (zbs_X8_isDigit_16 hR J hJ) (zs_iconst zd_X8_isDigit_12 (by decide) (zs_goto (tgt := 17) zd_X8_isDigit_13 (by decide) (zbs_X8_isDigit_17 hR J hJ))))))))
theorem zdn_X8_isDigit : yX8_isDigit.cls ≠ "java/lang/invoke/MethodHandle" ∧ yX8_isDigit.cls ≠ "java/lang/invoke/VarHandle" ∧ (parseMethodDescriptor yX8_isDigit.desc).map (fun d => d.parameters.length) = some 1 := by decide +kernel
/-! THE MODEL: leaves -/
theorem lcmp_lt {x y : Int64} : (lg_cmp x y < 0) = (x < y) := propext (lg_cmp_lt x y)
theorem lcmp_gt {x y : Int64} : (0 < lg_cmp x y) = (y < x) := propext (lg_cmp_gt x y)
theorem lcmp_le {x y : Int64} : (lg_cmp x y ≤ 0) = (x ≤ y) := propext (lg_cmp_le x y)
theorem lcmp_eq {x y : Int64} : (lg_cmp x y = 0) = (x = y) := propext (lg_cmp_eq x y)
def zc_X8_in (a : List Value) (M : zMm) (K : zKt) : Prop := match a with
  | [.long v, .long u, .long w] => K (some (.int (zbI (u ≤ v ∧ v ≤ w)))) M
  | _ => False
theorem zm_X8_in (l : Launch) (D : va_G) (Y : Nat → ClassId) : zMt l D Y yX8_in cX8_in 6 (some .boolean) 0 0 0 0 zc_X8_in := by
  refine zflat (by decide) (fun K J _ _ => zb_X8_in_0 K J) (fun X hR => zbs_X8_in_0 hR zJ0 zJ0_ok) (fun avs M K h => ?_)
  unfold zc_X8_in at h
  split at h
  · refine ⟨by simp [zent], ?_⟩
    next v u w =>
    simp only [zb_X8_in_0, zb_X8_in_17, zb_X8_in_18, lcmp_lt, lcmp_gt, zT_push, zT_bin, zT_div, zT_bil, zT_shl, zT_un, zT_i2l, zT_l2i, zT_lcmp, zT_ild, zT_lld, zT_ald, zT_ist, zT_lst, zT_ast, zT_iinc, zT_dup, zT_dup2, zT_pop, zT_if1, zT_if2, zT_ifn, zT_getI, zT_getJ, zT_getR, zT_putI, zT_putZ, zT_putJ, zT_putR, zT_ald0, zT_lald, zT_aald, zT_iast, zT_zast, zT_bast, zT_last, zT_aast, zT_iret, zT_nret, zT_aret, zT_vret, zT_oi, zT_mm, zT_ialX, zT_S1, zT_S2, zT_S3, zT_V0, zT_V1, zT_V2, zT_V3, zT_V4, zT_V5, zT_V6, zT_I0, zT_I1, zT_I2, zlg, zlset, zlpr, zent, zok, va_rf, List.length_cons, List.length_nil, List.replicate, List.cons_append, List.nil_append, List.append_nil, Option.toList_some, Option.toList_none, Option.toList, Nat.reduceAdd, Nat.reduceSub, Nat.reduceLeDiff, Nat.zero_add, Nat.zero_le, true_and, and_true, Nat.le_refl, ge_iff_le, Nat.reduceEqDiff]
    refine ⟨fun h1 => ⟨rfl, ?_⟩, fun h1 => ⟨fun h2 => ⟨rfl, ?_⟩, fun h2 => ⟨rfl, ?_⟩⟩⟩
    · rw [zbI_f (fun q => Int64.not_le.mpr h1 q.1)] at h; exact h
    · rw [zbI_f (fun q => Int64.not_le.mpr h2 q.2)] at h; exact h
    · rw [zbI_t ⟨Int64.not_lt.mp h1, Int64.not_lt.mp h2⟩] at h; exact h
  · exact h.elim
def zc_X8_told (a : List Value) (M : zMm) (K : zKt) : Prop := match a with
  | [.ref k, .int v] => k = 200 ∧ K (some (.int v)) (zwI M 200 1 (if v < 0 then v else 0))
  | _ => False
theorem zm_X8_told (l : Launch) (D : va_G) (Y : Nat → ClassId) : zMt l D Y yX8_told cX8_told 2 (some .int) 0 0 0 0 zc_X8_told := by
  refine zflat (by decide) (fun K J _ _ => zb_X8_told_0 K J) (fun X hR => zbs_X8_told_0 hR zJ0 zJ0_ok) (fun avs M K h => ?_)
  unfold zc_X8_told at h
  split at h
  · obtain ⟨rfl, h⟩ := h
    refine ⟨by simp [zent], ?_⟩
    simp only [zb_X8_told_0, zb_X8_told_10, zsh_200, zT_push, zT_bin, zT_div, zT_bil, zT_shl, zT_un, zT_i2l, zT_l2i, zT_lcmp, zT_ild, zT_lld, zT_ald, zT_ist, zT_lst, zT_ast, zT_iinc, zT_dup, zT_dup2, zT_pop, zT_if1, zT_if2, zT_ifn, zT_getI, zT_getJ, zT_getR, zT_putI, zT_putZ, zT_putJ, zT_putR, zT_ald0, zT_lald, zT_aald, zT_iast, zT_zast, zT_bast, zT_last, zT_aast, zT_iret, zT_nret, zT_aret, zT_vret, zT_oi, zT_mm, zT_ialX, zT_S1, zT_S2, zT_S3, zT_V0, zT_V1, zT_V2, zT_V3, zT_V4, zT_V5, zT_V6, zT_I0, zT_I1, zT_I2, zlg, zlset, zlpr, zent, zok, va_rf, List.length_cons, List.length_nil, List.replicate, List.cons_append, List.nil_append, List.append_nil, Option.toList_some, Option.toList_none, Option.toList, Nat.reduceAdd, Nat.reduceSub, Nat.reduceLeDiff, Nat.zero_add, Nat.zero_le, true_and, and_true, Nat.le_refl, ge_iff_le, Nat.reduceEqDiff]
    refine ⟨fun h1 => ?_, fun h1 => ?_⟩
    · rw [if_neg (Int32.not_lt.mpr h1)] at h; exact h
    · rw [if_pos (Int32.not_le.mp h1)] at h; exact h
  · exact h.elim
def zc_X8_isSmall (a : List Value) (M : zMm) (K : zKt) : Prop := match a with
  | [.int x] => K (some (.int (zbI (97 ≤ x ∧ x ≤ 122)))) M
  | _ => False
theorem zm_X8_isSmall (l : Launch) (D : va_G) (Y : Nat → ClassId) : zMt l D Y yX8_isSmall cX8_isSmall 1 (some .boolean) 0 0 0 0 zc_X8_isSmall := by
  refine zflat (by decide) (fun K J _ _ => zb_X8_isSmall_0 K J) (fun X hR => zbs_X8_isSmall_0 hR zJ0 zJ0_ok) (fun avs M K h => ?_)
  unfold zc_X8_isSmall at h
  split at h
  · refine ⟨by simp [zent], ?_⟩
    simp only [zb_X8_isSmall_0, zb_X8_isSmall_16, zb_X8_isSmall_17, zT_push, zT_bin, zT_div, zT_bil, zT_shl, zT_un, zT_i2l, zT_l2i, zT_lcmp, zT_ild, zT_lld, zT_ald, zT_ist, zT_lst, zT_ast, zT_iinc, zT_dup, zT_dup2, zT_pop, zT_if1, zT_if2, zT_ifn, zT_getI, zT_getJ, zT_getR, zT_putI, zT_putZ, zT_putJ, zT_putR, zT_ald0, zT_lald, zT_aald, zT_iast, zT_zast, zT_bast, zT_last, zT_aast, zT_iret, zT_nret, zT_aret, zT_vret, zT_oi, zT_mm, zT_ialX, zT_S1, zT_S2, zT_S3, zT_V0, zT_V1, zT_V2, zT_V3, zT_V4, zT_V5, zT_V6, zT_I0, zT_I1, zT_I2, zlg, zlset, zlpr, zent, zok, va_rf, List.length_cons, List.length_nil, List.replicate, List.cons_append, List.nil_append, List.append_nil, Option.toList_some, Option.toList_none, Option.toList, Nat.reduceAdd, Nat.reduceSub, Nat.reduceLeDiff, Nat.zero_add, Nat.zero_le, true_and, and_true, Nat.le_refl, ge_iff_le, Nat.reduceEqDiff]
    refine ⟨fun h1 => ⟨rfl, ?_⟩, fun h1 => ⟨fun h2 => ⟨rfl, ?_⟩, fun h2 => ⟨rfl, ?_⟩⟩⟩
    · rw [zbI_f (fun q => Int32.not_le.mpr h1 q.1)] at h; exact h
    · rw [zbI_f (fun q => Int32.not_le.mpr h2 q.2)] at h; exact h
    · rw [zbI_t ⟨Int32.not_lt.mp h1, Int32.not_lt.mp h2⟩] at h; exact h
  · exact h.elim
def zc_X8_isDigit (a : List Value) (M : zMm) (K : zKt) : Prop := match a with
  | [.int x] => K (some (.int (zbI (48 ≤ x ∧ x ≤ 57)))) M
  | _ => False
theorem zm_X8_isDigit (l : Launch) (D : va_G) (Y : Nat → ClassId) : zMt l D Y yX8_isDigit cX8_isDigit 1 (some .boolean) 0 0 0 0 zc_X8_isDigit := by
  refine zflat (by decide) (fun K J _ _ => zb_X8_isDigit_0 K J) (fun X hR => zbs_X8_isDigit_0 hR zJ0 zJ0_ok) (fun avs M K h => ?_)
  unfold zc_X8_isDigit at h
  split at h
  · refine ⟨by simp [zent], ?_⟩
    simp only [zb_X8_isDigit_0, zb_X8_isDigit_16, zb_X8_isDigit_17, zT_push, zT_bin, zT_div, zT_bil, zT_shl, zT_un, zT_i2l, zT_l2i, zT_lcmp, zT_ild, zT_lld, zT_ald, zT_ist, zT_lst, zT_ast, zT_iinc, zT_dup, zT_dup2, zT_pop, zT_if1, zT_if2, zT_ifn, zT_getI, zT_getJ, zT_getR, zT_putI, zT_putZ, zT_putJ, zT_putR, zT_ald0, zT_lald, zT_aald, zT_iast, zT_zast, zT_bast, zT_last, zT_aast, zT_iret, zT_nret, zT_aret, zT_vret, zT_oi, zT_mm, zT_ialX, zT_S1, zT_S2, zT_S3, zT_V0, zT_V1, zT_V2, zT_V3, zT_V4, zT_V5, zT_V6, zT_I0, zT_I1, zT_I2, zlg, zlset, zlpr, zent, zok, va_rf, List.length_cons, List.length_nil, List.replicate, List.cons_append, List.nil_append, List.append_nil, Option.toList_some, Option.toList_none, Option.toList, Nat.reduceAdd, Nat.reduceSub, Nat.reduceLeDiff, Nat.zero_add, Nat.zero_le, true_and, and_true, Nat.le_refl, ge_iff_le, Nat.reduceEqDiff]
    refine ⟨fun h1 => ⟨rfl, ?_⟩, fun h1 => ⟨fun h2 => ⟨rfl, ?_⟩, fun h2 => ⟨rfl, ?_⟩⟩⟩
    · rw [zbI_f (fun q => Int32.not_le.mpr h1 q.1)] at h; exact h
    · rw [zbI_f (fun q => Int32.not_le.mpr h2 q.2)] at h; exact h
    · rw [zbI_t ⟨Int32.not_lt.mp h1, Int32.not_lt.mp h2⟩] at h; exact h
  · exact h.elim
/-! DeltaRunsModel isCell -/
theorem zd_X8_isCell_0 : decode cX8_isCell 0 = .ok (.iload_n 1, 1) := by decide +kernel
theorem zd_X8_isCell_1 : decode cX8_isCell 1 = .ok (.i2l, 1) := by decide +kernel
theorem zd_X8_isCell_2 : decode cX8_isCell 2 = .ok (.lconst 0, 1) := by decide +kernel
theorem zd_X8_isCell_3 : decode cX8_isCell 3 = .ok (.aload_n 0, 1) := by decide +kernel
theorem zd_X8_isCell_4 : decode cX8_isCell 4 = .ok (.getfield 7, 3) := by decide +kernel
theorem zd_X8_isCell_7 : decode cX8_isCell 7 = .ok (.i2l, 1) := by decide +kernel
theorem zd_X8_isCell_8 : decode cX8_isCell 8 = .ok (.lconst 1, 1) := by decide +kernel
theorem zd_X8_isCell_9 : decode cX8_isCell 9 = .ok (.lsub, 1) := by decide +kernel
theorem zd_X8_isCell_10 : decode cX8_isCell 10 = .ok (.invokestatic 105, 3) := by decide +kernel
theorem zd_X8_isCell_13 : decode cX8_isCell 13 = .ok (.ifCond .eq 23, 3) := by decide +kernel
theorem zd_X8_isCell_16 : decode cX8_isCell 16 = .ok (.iload_n 2, 1) := by decide +kernel
theorem zd_X8_isCell_17 : decode cX8_isCell 17 = .ok (.i2l, 1) := by decide +kernel
theorem zd_X8_isCell_18 : decode cX8_isCell 18 = .ok (.lconst 0, 1) := by decide +kernel
theorem zd_X8_isCell_19 : decode cX8_isCell 19 = .ok (.aload_n 0, 1) := by decide +kernel
theorem zd_X8_isCell_20 : decode cX8_isCell 20 = .ok (.getfield 13, 3) := by decide +kernel
theorem zd_X8_isCell_23 : decode cX8_isCell 23 = .ok (.i2l, 1) := by decide +kernel
theorem zd_X8_isCell_24 : decode cX8_isCell 24 = .ok (.lconst 1, 1) := by decide +kernel
theorem zd_X8_isCell_25 : decode cX8_isCell 25 = .ok (.lsub, 1) := by decide +kernel
theorem zd_X8_isCell_26 : decode cX8_isCell 26 = .ok (.invokestatic 105, 3) := by decide +kernel
theorem zd_X8_isCell_29 : decode cX8_isCell 29 = .ok (.ifCond .eq 7, 3) := by decide +kernel
theorem zd_X8_isCell_32 : decode cX8_isCell 32 = .ok (.iconst 1, 1) := by decide +kernel
theorem zd_X8_isCell_33 : decode cX8_isCell 33 = .ok (.goto 4, 3) := by decide +kernel
theorem zd_X8_isCell_36 : decode cX8_isCell 36 = .ok (.iconst 0, 1) := by decide +kernel
theorem zd_X8_isCell_37 : decode cX8_isCell 37 = .ok (.ireturn, 1) := by decide +kernel
def zb_X8_isCell_37 (K : zKt) (J : Nat → zPP) : zPP := zT_nret .boolean K
theorem zbs_X8_isCell_37 {X : zCt} (hR : zRX X = { frames := 1, cells := 0, slots := 0, locals := 25 }) (J : Nat → zPP) (hJ : ∀ h ∈ ([] : List Nat), zSd X RX8 "isCell" cX8_isCell 3 (some .boolean) h (J h)) : zSd X RX8 "isCell" cX8_isCell 3 (some .boolean) 37 (zb_X8_isCell_37 (zKX X) J) := zs_nret rfl zd_X8_isCell_37
def zb_X8_isCell_36 (K : zKt) (J : Nat → zPP) : zPP := zT_push (.int 0) (zb_X8_isCell_37 K J)
theorem zbs_X8_isCell_36 {X : zCt} (hR : zRX X = { frames := 1, cells := 0, slots := 0, locals := 25 }) (J : Nat → zPP) (hJ : ∀ h ∈ ([] : List Nat), zSd X RX8 "isCell" cX8_isCell 3 (some .boolean) h (J h)) : zSd X RX8 "isCell" cX8_isCell 3 (some .boolean) 36 (zb_X8_isCell_36 (zKX X) J) := zs_iconst zd_X8_isCell_36 (by decide) (zbs_X8_isCell_37 hR J hJ)
def zb_X8_isCell_0 (K : zKt) (J : Nat → zPP) : zPP := zT_ild 1 (zT_i2l (zT_push (.long 0) (zT_ald 0 (zT_getI 8 2 38 (zT_i2l (zT_push (.long 1) (zT_bil (fun x y => x - y) (zT_S3 zok zc_X8_in (zT_if1 (fun x => x = 0) (zb_X8_isCell_36 K J) (zT_ild 2 (zT_i2l (zT_push (.long 0) (zT_ald 0 (zT_getI 8 3 38 (zT_i2l (zT_push (.long 1) (zT_bil (fun x y => x - y) (zT_S3 zok zc_X8_in (zT_if1 (fun x => x = 0) (zb_X8_isCell_36 K J) (zT_push (.int 1) (zb_X8_isCell_37 K J)))))))))))))))))))))
theorem zbs_X8_isCell_0 {X : zCt} (hR : zRX X = { frames := 1, cells := 0, slots := 0, locals := 25 }) (J : Nat → zPP) (hJ : ∀ h ∈ ([] : List Nat), zSd X RX8 "isCell" cX8_isCell 3 (some .boolean) h (J h)) : zSd X RX8 "isCell" cX8_isCell 3 (some .boolean) 0 (zb_X8_isCell_0 (zKX X) J) := zs_iload_n zd_X8_isCell_0 rfl (zs_i2l zd_X8_isCell_1 (zs_lconst zd_X8_isCell_2 (by decide) (zs_aload_n zd_X8_isCell_3 rfl (zs_getI (ci := 8) (j := 2) (T := TX8) rfl inX8 (by decide) gw_3_91 rfl zd_X8_isCell_4 (zs_i2l zd_X8_isCell_7 (zs_lconst zd_X8_isCell_8 (by decide) (zs_lsub zd_X8_isCell_9 (zs_S (zm_X8_in _ _ _) gw_3_212 gw_3_210 gw_3_211 gw_1_7 zdn_X8_in (zrm hR (by decide) (by decide)) zd_X8_isCell_10 (zCl_S3 zok_l) (zs_if_eq (tgt := 36) zd_X8_isCell_13 (by decide) (zbs_X8_isCell_36 hR J hJ) (zs_iload_n zd_X8_isCell_16 rfl (zs_i2l zd_X8_isCell_17 (zs_lconst zd_X8_isCell_18 (by decide) (zs_aload_n zd_X8_isCell_19 rfl (zs_getI (ci := 8) (j := 3) (T := TX8) rfl inX8 (by decide) gw_3_92 rfl zd_X8_isCell_20 (zs_i2l zd_X8_isCell_23 (zs_lconst zd_X8_isCell_24 (by decide) (zs_lsub zd_X8_isCell_25 (zs_S (zm_X8_in _ _ _) gw_3_212 gw_3_210 gw_3_211 gw_1_7 zdn_X8_in (zrm hR (by decide) (by decide)) zd_X8_isCell_26 (zCl_S3 zok_l) (zs_if_eq (tgt := 36) zd_X8_isCell_29 (by decide) (zbs_X8_isCell_36 hR J hJ) (zs_iconst zd_X8_isCell_32 (by decide) (zs_goto (tgt := 37) zd_X8_isCell_33 (by decide) (zbs_X8_isCell_37 hR J hJ))))))))))))))))))))))
theorem zdn_X8_isCell : yX8_isCell.cls ≠ "java/lang/invoke/MethodHandle" ∧ yX8_isCell.cls ≠ "java/lang/invoke/VarHandle" ∧ (parseMethodDescriptor yX8_isCell.desc).map (fun d => d.parameters.length) = some 2 := by decide +kernel
/-! DeltaRunsModel isRule -/
theorem zd_X8_isRule_0 : decode cX8_isRule 0 = .ok (.iload_n 0, 1) := by decide +kernel
theorem zd_X8_isRule_1 : decode cX8_isRule 1 = .ok (.i2l, 1) := by decide +kernel
theorem zd_X8_isRule_2 : decode cX8_isRule 2 = .ok (.lconst 0, 1) := by decide +kernel
theorem zd_X8_isRule_3 : decode cX8_isRule 3 = .ok (.ldc2_w 222, 3) := by decide +kernel
theorem zd_X8_isRule_6 : decode cX8_isRule 6 = .ok (.invokestatic 105, 3) := by decide +kernel
theorem zd_X8_isRule_9 : decode cX8_isRule 9 = .ok (.ireturn, 1) := by decide +kernel
def zb_X8_isRule_0 (K : zKt) (J : Nat → zPP) : zPP := zT_ild 0 (zT_i2l (zT_push (.long 0) (zT_push (.long 35) (zT_S3 zok zc_X8_in (zT_nret .boolean K)))))
theorem zbs_X8_isRule_0 {X : zCt} (hR : zRX X = { frames := 1, cells := 0, slots := 0, locals := 25 }) (J : Nat → zPP) (hJ : ∀ h ∈ ([] : List Nat), zSd X RX8 "isRule" cX8_isRule 1 (some .boolean) h (J h)) : zSd X RX8 "isRule" cX8_isRule 1 (some .boolean) 0 (zb_X8_isRule_0 (zKX X) J) := zs_iload_n zd_X8_isRule_0 rfl (zs_i2l zd_X8_isRule_1 (zs_lconst zd_X8_isRule_2 (by decide) (zs_ldc2 zd_X8_isRule_3 gw_4_57 (zs_S (zm_X8_in _ _ _) gw_3_212 gw_3_210 gw_3_211 gw_1_7 zdn_X8_in (zrm hR (by decide) (by decide)) zd_X8_isRule_6 (zCl_S3 zok_l) (zs_nret rfl zd_X8_isRule_9)))))
theorem zdn_X8_isRule : yX8_isRule.cls ≠ "java/lang/invoke/MethodHandle" ∧ yX8_isRule.cls ≠ "java/lang/invoke/VarHandle" ∧ (parseMethodDescriptor yX8_isRule.desc).map (fun d => d.parameters.length) = some 1 := by decide +kernel
/-! DeltaRunsModel isYear -/
theorem zd_X8_isYear_0 : decode cX8_isYear 0 = .ok (.iload_n 0, 1) := by decide +kernel
theorem zd_X8_isYear_1 : decode cX8_isYear 1 = .ok (.i2l, 1) := by decide +kernel
theorem zd_X8_isYear_2 : decode cX8_isYear 2 = .ok (.lconst 0, 1) := by decide +kernel
theorem zd_X8_isYear_3 : decode cX8_isYear 3 = .ok (.ldc2_w 180, 3) := by decide +kernel
theorem zd_X8_isYear_6 : decode cX8_isYear 6 = .ok (.invokestatic 105, 3) := by decide +kernel
theorem zd_X8_isYear_9 : decode cX8_isYear 9 = .ok (.ireturn, 1) := by decide +kernel
def zb_X8_isYear_0 (K : zKt) (J : Nat → zPP) : zPP := zT_ild 0 (zT_i2l (zT_push (.long 0) (zT_push (.long 30) (zT_S3 zok zc_X8_in (zT_nret .boolean K)))))
theorem zbs_X8_isYear_0 {X : zCt} (hR : zRX X = { frames := 1, cells := 0, slots := 0, locals := 25 }) (J : Nat → zPP) (hJ : ∀ h ∈ ([] : List Nat), zSd X RX8 "isYear" cX8_isYear 1 (some .boolean) h (J h)) : zSd X RX8 "isYear" cX8_isYear 1 (some .boolean) 0 (zb_X8_isYear_0 (zKX X) J) := zs_iload_n zd_X8_isYear_0 rfl (zs_i2l zd_X8_isYear_1 (zs_lconst zd_X8_isYear_2 (by decide) (zs_ldc2 zd_X8_isYear_3 gw_4_38 (zs_S (zm_X8_in _ _ _) gw_3_212 gw_3_210 gw_3_211 gw_1_7 zdn_X8_in (zrm hR (by decide) (by decide)) zd_X8_isYear_6 (zCl_S3 zok_l) (zs_nret rfl zd_X8_isYear_9)))))
theorem zdn_X8_isYear : yX8_isYear.cls ≠ "java/lang/invoke/MethodHandle" ∧ yX8_isYear.cls ≠ "java/lang/invoke/VarHandle" ∧ (parseMethodDescriptor yX8_isYear.desc).map (fun d => d.parameters.length) = some 1 := by decide +kernel
/-! DeltaRunsModel isKnown -/
theorem zd_X8_isKnown_0 : decode cX8_isKnown 0 = .ok (.iload_n 0, 1) := by decide +kernel
theorem zd_X8_isKnown_1 : decode cX8_isKnown 1 = .ok (.i2l, 1) := by decide +kernel
theorem zd_X8_isKnown_2 : decode cX8_isKnown 2 = .ok (.lconst 0, 1) := by decide +kernel
theorem zd_X8_isKnown_3 : decode cX8_isKnown 3 = .ok (.ldc2_w 125, 3) := by decide +kernel
theorem zd_X8_isKnown_6 : decode cX8_isKnown 6 = .ok (.invokestatic 105, 3) := by decide +kernel
theorem zd_X8_isKnown_9 : decode cX8_isKnown 9 = .ok (.ireturn, 1) := by decide +kernel
def zb_X8_isKnown_0 (K : zKt) (J : Nat → zPP) : zPP := zT_ild 0 (zT_i2l (zT_push (.long 0) (zT_push (.long 1000) (zT_S3 zok zc_X8_in (zT_nret .boolean K)))))
theorem zbs_X8_isKnown_0 {X : zCt} (hR : zRX X = { frames := 1, cells := 0, slots := 0, locals := 25 }) (J : Nat → zPP) (hJ : ∀ h ∈ ([] : List Nat), zSd X RX8 "isKnown" cX8_isKnown 1 (some .boolean) h (J h)) : zSd X RX8 "isKnown" cX8_isKnown 1 (some .boolean) 0 (zb_X8_isKnown_0 (zKX X) J) := zs_iload_n zd_X8_isKnown_0 rfl (zs_i2l zd_X8_isKnown_1 (zs_lconst zd_X8_isKnown_2 (by decide) (zs_ldc2 zd_X8_isKnown_3 gw_3_235 (zs_S (zm_X8_in _ _ _) gw_3_212 gw_3_210 gw_3_211 gw_1_7 zdn_X8_in (zrm hR (by decide) (by decide)) zd_X8_isKnown_6 (zCl_S3 zok_l) (zs_nret rfl zd_X8_isKnown_9)))))
theorem zdn_X8_isKnown : yX8_isKnown.cls ≠ "java/lang/invoke/MethodHandle" ∧ yX8_isKnown.cls ≠ "java/lang/invoke/VarHandle" ∧ (parseMethodDescriptor yX8_isKnown.desc).map (fun d => d.parameters.length) = some 1 := by decide +kernel
theorem zl_le {a : Nat} {x : Int32} (ha : a < 2 ^ 31) : (lN a ≤ x.toInt64) = (nI a ≤ x) := by
  rw [← nI_l ha]
  exact propext Int32.toInt64_le
theorem zl_ge {a : Nat} {x : Int32} (ha : a < 2 ^ 31) : (x.toInt64 ≤ lN a) = (x ≤ nI a) := by
  rw [← nI_l ha]
  exact propext Int32.toInt64_le
theorem zbI_nar {b : Prop} [Decidable b] : narrow .boolean (.int (zbI b)) = .int (zbI b) := by
  unfold zbI
  split <;> rfl
theorem zbI_c {p q : Prop} [Decidable p] [Decidable q] (h : p ↔ q) : zbI p = zbI q := by
  unfold zbI
  by_cases hp : p
  · rw [if_pos hp, if_pos (h.mp hp)]
  · rw [if_neg hp, if_neg (fun z => hp (h.mpr z))]
theorem zin_c {x : Int32} {a b : Nat} (ha : a < 2 ^ 31) (hb : b < 2 ^ 31) : zbI (lN a ≤ x.toInt64 ∧ x.toInt64 ≤ lN b) = zbI (nI a ≤ x ∧ x ≤ nI b) := zbI_c (by rw [zl_le ha, zl_ge hb])
theorem zin_lt {x : Int32} {w : Nat} (h1 : 1 ≤ w) (hw : w < 2 ^ 31) : zbI (0 ≤ x.toInt64 ∧ x.toInt64 ≤ (nI w).toInt64 - 1) = zbI (0 ≤ x ∧ x < nI w) := by
  obtain ⟨v, rfl⟩ : ∃ v, w = v + 1 := ⟨w - 1, by omega⟩
  have e : (nI (v + 1)).toInt64 - 1 = lN v := by
    rw [nI_l hw]
    show Int64.ofNat (v + 1) - 1 = Int64.ofNat v
    rw [Int64.ofNat_add]
    exact Int64.add_sub_cancel _ _
  rw [e]
  have := zin_c (x := x) (a := 0) (b := v) (by decide) (by omega)
  refine this.trans (zbI_c ?_)
  constructor
  · rintro ⟨z1, z2⟩
    refine ⟨z1, ?_⟩
    obtain ⟨j, h2, rfl⟩ := nI_of (x := x) (Int32.not_lt.mpr z1)
    have := (nI_leI h2 (by omega)).mp z2
    exact (nI_ltI h2 hw).mpr (by omega)
  · rintro ⟨z1, z2⟩
    refine ⟨z1, ?_⟩
    obtain ⟨j, h2, rfl⟩ := nI_of (x := x) (Int32.not_lt.mpr z1)
    have := (nI_ltI h2 hw).mp z2
    exact (nI_leI h2 (by omega)).mpr (by omega)
def zc_X8_isRule (a : List Value) (M : zMm) (K : zKt) : Prop := match a with
  | [.int x] => K (some (.int (zbI (0 ≤ x ∧ x ≤ 35)))) M
  | _ => False
theorem zm_X8_isRule (l : Launch) (D : va_G) (Y : Nat → ClassId) : zMt l D Y yX8_isRule cX8_isRule 1 (some .boolean) 1 25 0 0 zc_X8_isRule := by
  refine zflat (by decide) (fun K J _ _ => zb_X8_isRule_0 K J) (fun X hR => zbs_X8_isRule_0 hR zJ0 zJ0_ok) (fun avs M K h => ?_)
  unfold zc_X8_isRule at h
  split at h
  · next x =>
    refine ⟨by simp [zent], ?_⟩
    simp only [zb_X8_isRule_0, zT_push, zT_bin, zT_div, zT_bil, zT_shl, zT_un, zT_i2l, zT_l2i, zT_lcmp, zT_ild, zT_lld, zT_ald, zT_ist, zT_lst, zT_ast, zT_iinc, zT_dup, zT_dup2, zT_pop, zT_if1, zT_if2, zT_ifn, zT_getI, zT_getJ, zT_getR, zT_putI, zT_putZ, zT_putJ, zT_putR, zT_ald0, zT_lald, zT_aald, zT_iast, zT_zast, zT_bast, zT_last, zT_aast, zT_iret, zT_nret, zT_aret, zT_vret, zT_oi, zT_mm, zT_ialX, zT_S1, zT_S2, zT_S3, zT_V0, zT_V1, zT_V2, zT_V3, zT_V4, zT_V5, zT_V6, zT_I0, zT_I1, zT_I2, zlg, zlset, zlpr, zent, zok, va_rf, List.length_cons, List.length_nil, List.replicate, List.cons_append, List.nil_append, List.append_nil, Option.toList_some, Option.toList_none, Option.toList, Nat.reduceAdd, Nat.reduceSub, Nat.reduceLeDiff, Nat.zero_add, Nat.zero_le, true_and, and_true, Nat.le_refl, ge_iff_le, Nat.reduceEqDiff]
    unfold zc_X8_in
    dsimp only
    have e : zbI (0 ≤ x.toInt64 ∧ x.toInt64 ≤ 35) = zbI (0 ≤ x ∧ x ≤ 35) := zin_c (a := 0) (b := 35) (by decide) (by decide)
    rw [e]
    exact ⟨zbI_nar, h⟩
  · exact h.elim
def zc_X8_isYear (a : List Value) (M : zMm) (K : zKt) : Prop := match a with
  | [.int x] => K (some (.int (zbI (0 ≤ x ∧ x ≤ 30)))) M
  | _ => False
theorem zm_X8_isYear (l : Launch) (D : va_G) (Y : Nat → ClassId) : zMt l D Y yX8_isYear cX8_isYear 1 (some .boolean) 1 25 0 0 zc_X8_isYear := by
  refine zflat (by decide) (fun K J _ _ => zb_X8_isYear_0 K J) (fun X hR => zbs_X8_isYear_0 hR zJ0 zJ0_ok) (fun avs M K h => ?_)
  unfold zc_X8_isYear at h
  split at h
  · next x =>
    refine ⟨by simp [zent], ?_⟩
    simp only [zb_X8_isYear_0, zT_push, zT_bin, zT_div, zT_bil, zT_shl, zT_un, zT_i2l, zT_l2i, zT_lcmp, zT_ild, zT_lld, zT_ald, zT_ist, zT_lst, zT_ast, zT_iinc, zT_dup, zT_dup2, zT_pop, zT_if1, zT_if2, zT_ifn, zT_getI, zT_getJ, zT_getR, zT_putI, zT_putZ, zT_putJ, zT_putR, zT_ald0, zT_lald, zT_aald, zT_iast, zT_zast, zT_bast, zT_last, zT_aast, zT_iret, zT_nret, zT_aret, zT_vret, zT_oi, zT_mm, zT_ialX, zT_S1, zT_S2, zT_S3, zT_V0, zT_V1, zT_V2, zT_V3, zT_V4, zT_V5, zT_V6, zT_I0, zT_I1, zT_I2, zlg, zlset, zlpr, zent, zok, va_rf, List.length_cons, List.length_nil, List.replicate, List.cons_append, List.nil_append, List.append_nil, Option.toList_some, Option.toList_none, Option.toList, Nat.reduceAdd, Nat.reduceSub, Nat.reduceLeDiff, Nat.zero_add, Nat.zero_le, true_and, and_true, Nat.le_refl, ge_iff_le, Nat.reduceEqDiff]
    unfold zc_X8_in
    dsimp only
    have e : zbI (0 ≤ x.toInt64 ∧ x.toInt64 ≤ 30) = zbI (0 ≤ x ∧ x ≤ 30) := zin_c (a := 0) (b := 30) (by decide) (by decide)
    rw [e]
    exact ⟨zbI_nar, h⟩
  · exact h.elim
def zc_X8_isKnown (a : List Value) (M : zMm) (K : zKt) : Prop := match a with
  | [.int x] => K (some (.int (zbI (0 ≤ x ∧ x ≤ 1000)))) M
  | _ => False
theorem zm_X8_isKnown (l : Launch) (D : va_G) (Y : Nat → ClassId) : zMt l D Y yX8_isKnown cX8_isKnown 1 (some .boolean) 1 25 0 0 zc_X8_isKnown := by
  refine zflat (by decide) (fun K J _ _ => zb_X8_isKnown_0 K J) (fun X hR => zbs_X8_isKnown_0 hR zJ0 zJ0_ok) (fun avs M K h => ?_)
  unfold zc_X8_isKnown at h
  split at h
  · next x =>
    refine ⟨by simp [zent], ?_⟩
    simp only [zb_X8_isKnown_0, zT_push, zT_bin, zT_div, zT_bil, zT_shl, zT_un, zT_i2l, zT_l2i, zT_lcmp, zT_ild, zT_lld, zT_ald, zT_ist, zT_lst, zT_ast, zT_iinc, zT_dup, zT_dup2, zT_pop, zT_if1, zT_if2, zT_ifn, zT_getI, zT_getJ, zT_getR, zT_putI, zT_putZ, zT_putJ, zT_putR, zT_ald0, zT_lald, zT_aald, zT_iast, zT_zast, zT_bast, zT_last, zT_aast, zT_iret, zT_nret, zT_aret, zT_vret, zT_oi, zT_mm, zT_ialX, zT_S1, zT_S2, zT_S3, zT_V0, zT_V1, zT_V2, zT_V3, zT_V4, zT_V5, zT_V6, zT_I0, zT_I1, zT_I2, zlg, zlset, zlpr, zent, zok, va_rf, List.length_cons, List.length_nil, List.replicate, List.cons_append, List.nil_append, List.append_nil, Option.toList_some, Option.toList_none, Option.toList, Nat.reduceAdd, Nat.reduceSub, Nat.reduceLeDiff, Nat.zero_add, Nat.zero_le, true_and, and_true, Nat.le_refl, ge_iff_le, Nat.reduceEqDiff]
    unfold zc_X8_in
    dsimp only
    have e : zbI (0 ≤ x.toInt64 ∧ x.toInt64 ≤ 1000) = zbI (0 ≤ x ∧ x ≤ 1000) := zin_c (a := 0) (b := 1000) (by decide) (by decide)
    rw [e]
    exact ⟨zbI_nar, h⟩
  · exact h.elim
def zc_X8_isCell (a : List Value) (M : zMm) (K : zKt) : Prop := match a with
  | [.ref k, .int x, .int y] => k = 200 ∧ ∃ w h, M.2.1 200 2 = nI w ∧ M.2.1 200 3 = nI h ∧ 1 ≤ w ∧ w ≤ 12 ∧ 1 ≤ h ∧ h ≤ 10 ∧ K (some (.int (zbI (0 ≤ x ∧ x < nI w ∧ 0 ≤ y ∧ y < nI h)))) M
  | _ => False
theorem zm_X8_isCell (l : Launch) (D : va_G) (Y : Nat → ClassId) : zMt l D Y yX8_isCell cX8_isCell 3 (some .boolean) 1 25 0 0 zc_X8_isCell := by
  refine zflat (by decide) (fun K J _ _ => zb_X8_isCell_0 K J) (fun X hR => zbs_X8_isCell_0 hR zJ0 zJ0_ok) (fun avs M K h => ?_)
  unfold zc_X8_isCell at h
  split at h
  · next k x y =>
    obtain ⟨rfl, w, h', e1, e2, w1, w2, h1, h2, h⟩ := h
    refine ⟨by simp [zent], ?_⟩
    simp only [zb_X8_isCell_0, zb_X8_isCell_36, zb_X8_isCell_37, zsh_200, e1, e2, zT_push, zT_bin, zT_div, zT_bil, zT_shl, zT_un, zT_i2l, zT_l2i, zT_lcmp, zT_ild, zT_lld, zT_ald, zT_ist, zT_lst, zT_ast, zT_iinc, zT_dup, zT_dup2, zT_pop, zT_if1, zT_if2, zT_ifn, zT_getI, zT_getJ, zT_getR, zT_putI, zT_putZ, zT_putJ, zT_putR, zT_ald0, zT_lald, zT_aald, zT_iast, zT_zast, zT_bast, zT_last, zT_aast, zT_iret, zT_nret, zT_aret, zT_vret, zT_oi, zT_mm, zT_ialX, zT_S1, zT_S2, zT_S3, zT_V0, zT_V1, zT_V2, zT_V3, zT_V4, zT_V5, zT_V6, zT_I0, zT_I1, zT_I2, zlg, zlset, zlpr, zent, zok, va_rf, List.length_cons, List.length_nil, List.replicate, List.cons_append, List.nil_append, List.append_nil, Option.toList_some, Option.toList_none, Option.toList, Nat.reduceAdd, Nat.reduceSub, Nat.reduceLeDiff, Nat.zero_add, Nat.zero_le, true_and, and_true, Nat.le_refl, ge_iff_le, Nat.reduceEqDiff]
    unfold zc_X8_in
    dsimp only
    rw [zin_lt w1 (by omega), e2, zin_lt h1 (by omega)]
    simp only [zbI_0, zT_push, zT_bin, zT_div, zT_bil, zT_shl, zT_un, zT_i2l, zT_l2i, zT_lcmp, zT_ild, zT_lld, zT_ald, zT_ist, zT_lst, zT_ast, zT_iinc, zT_dup, zT_dup2, zT_pop, zT_if1, zT_if2, zT_ifn, zT_getI, zT_getJ, zT_getR, zT_putI, zT_putZ, zT_putJ, zT_putR, zT_ald0, zT_lald, zT_aald, zT_iast, zT_zast, zT_bast, zT_last, zT_aast, zT_iret, zT_nret, zT_aret, zT_vret, zT_oi, zT_mm, zT_ialX, zT_S1, zT_S2, zT_S3, zT_V0, zT_V1, zT_V2, zT_V3, zT_V4, zT_V5, zT_V6, zT_I0, zT_I1, zT_I2, zlg, zlset, zlpr, zent, zok, va_rf, List.length_cons, List.length_nil, List.replicate, List.cons_append, List.nil_append, List.append_nil, Option.toList_some, Option.toList_none, Option.toList, Nat.reduceAdd, Nat.reduceSub, Nat.reduceLeDiff, Nat.zero_add, Nat.zero_le, true_and, and_true, Nat.le_refl, ge_iff_le, Nat.reduceEqDiff]
    refine ⟨fun q => ⟨rfl, ?_⟩, fun q => ⟨fun q2 => ⟨rfl, ?_⟩, fun q2 => ⟨rfl, ?_⟩⟩⟩
    · rw [zbI_f (fun z => q ⟨z.1, z.2.1⟩)] at h; exact h
    · rw [zbI_f (fun z => q2 z.2.2)] at h; exact h
    · have a1 := Classical.not_not.mp q
      have a2 := Classical.not_not.mp q2
      rw [zbI_t ⟨a1.1, a1.2, a2⟩] at h; exact h
  · exact h.elim
