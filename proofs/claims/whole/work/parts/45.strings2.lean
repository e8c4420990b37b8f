/-! contracts of the JDK's methods on the constants -/
def zc_J0_coder_7d493 (a : List Value) (M : zMm) (K : zKt) : Prop := match a with
  | [.ref k] => (∃ i, i < 8 ∧ k = 2010 + i) ∧ K (some (.int 0)) M
  | _ => False
theorem zm_J0_coder_7d493 (l : Launch) (D : va_G) (Y : Nat → ClassId) : zMt l D Y yJ0_coder_7d493 cJ0_coder_7d493 1 (some .byte) 0 0 0 0 zc_J0_coder_7d493 := by
  refine zflat (by decide) (fun K J _ _ => zb_J0_coder_7d493_0 K J) (fun X hR => zbs_J0_coder_7d493_0 hR zJ0 zJ0_ok) (fun avs M K h => ?_)
  unfold zc_J0_coder_7d493 at h
  split at h
  · obtain ⟨⟨i, hi, rfl⟩, h⟩ := h
    refine ⟨by simp [zent], ?_⟩
    simp only [zb_J0_coder_7d493_0, zb_J0_coder_7d493_14, zT_xcod, zT_push, zT_if1, zT_ald, zlg, zent, zT_push, zT_bin, zT_div, zT_bil, zT_shl, zT_un, zT_i2l, zT_l2i, zT_lcmp, zT_ild, zT_lld, zT_ald, zT_ist, zT_lst, zT_ast, zT_iinc, zT_dup, zT_dup2, zT_pop, zT_if1, zT_if2, zT_ifn, zT_getI, zT_getJ, zT_getR, zT_putI, zT_putZ, zT_putJ, zT_putR, zT_ald0, zT_lald, zT_aald, zT_iast, zT_zast, zT_bast, zT_last, zT_aast, zT_iret, zT_nret, zT_aret, zT_vret, zT_oi, zT_mm, zT_ialX, zT_S1, zT_S2, zT_S3, zT_V0, zT_V1, zT_V2, zT_V3, zT_V4, zT_V5, zT_V6, zT_I0, zT_I1, zT_I2, zlg, zlset, zlpr, zent, zok, va_rf, List.length_cons, List.length_nil, List.replicate, List.cons_append, List.nil_append, List.append_nil, Option.toList_some, Option.toList_none, Option.toList, Nat.reduceAdd, Nat.reduceSub, Nat.reduceLeDiff, Nat.zero_add, Nat.zero_le, true_and, and_true, Nat.le_refl, ge_iff_le, Nat.reduceEqDiff]
    exact ⟨fun z => absurd z (by decide), fun _ => ⟨i, hi, rfl, rfl, h⟩⟩
  · exact h.elim
def zc_J0_isLatin1_aae02 (a : List Value) (M : zMm) (K : zKt) : Prop := match a with
  | [.ref k] => (∃ i, i < 8 ∧ k = 2010 + i) ∧ K (some (.int 1)) M
  | _ => False
theorem zm_J0_isLatin1_aae02 (l : Launch) (D : va_G) (Y : Nat → ClassId) : zMt l D Y yJ0_isLatin1_aae02 cJ0_isLatin1_aae02 1 (some .boolean) 0 0 0 0 zc_J0_isLatin1_aae02 := by
  refine zflat (by decide) (fun K J _ _ => zb_J0_isLatin1_aae02_0 K J) (fun X hR => zbs_J0_isLatin1_aae02_0 hR zJ0 zJ0_ok) (fun avs M K h => ?_)
  unfold zc_J0_isLatin1_aae02 at h
  split at h
  · obtain ⟨⟨i, hi, rfl⟩, h⟩ := h
    refine ⟨by simp [zent], ?_⟩
    simp only [zb_J0_isLatin1_aae02_0, zb_J0_isLatin1_aae02_17, zb_J0_isLatin1_aae02_18, zT_xcod, zT_push, zT_bin, zT_div, zT_bil, zT_shl, zT_un, zT_i2l, zT_l2i, zT_lcmp, zT_ild, zT_lld, zT_ald, zT_ist, zT_lst, zT_ast, zT_iinc, zT_dup, zT_dup2, zT_pop, zT_if1, zT_if2, zT_ifn, zT_getI, zT_getJ, zT_getR, zT_putI, zT_putZ, zT_putJ, zT_putR, zT_ald0, zT_lald, zT_aald, zT_iast, zT_zast, zT_bast, zT_last, zT_aast, zT_iret, zT_nret, zT_aret, zT_vret, zT_oi, zT_mm, zT_ialX, zT_S1, zT_S2, zT_S3, zT_V0, zT_V1, zT_V2, zT_V3, zT_V4, zT_V5, zT_V6, zT_I0, zT_I1, zT_I2, zlg, zlset, zlpr, zent, zok, va_rf, List.length_cons, List.length_nil, List.replicate, List.cons_append, List.nil_append, List.append_nil, Option.toList_some, Option.toList_none, Option.toList, Nat.reduceAdd, Nat.reduceSub, Nat.reduceLeDiff, Nat.zero_add, Nat.zero_le, true_and, and_true, Nat.le_refl, ge_iff_le, Nat.reduceEqDiff]
    exact ⟨fun z => absurd z (by decide), fun _ => ⟨i, hi, rfl, fun _ => ⟨rfl, h⟩, fun z => absurd trivial z⟩⟩
  · exact h.elim
def zc_J3_checkIndex_8e157 (a : List Value) (M : zMm) (K : zKt) : Prop := match a with
  | [.int i, .int n, .null] => 0 ≤ i ∧ i < n ∧ K (some (.int i)) M
  | [.int i, .int n, .ref _] => 0 ≤ i ∧ i < n ∧ K (some (.int i)) M
  | _ => False
theorem zm_J3_checkIndex_8e157 (l : Launch) (D : va_G) (Y : Nat → ClassId) : zMt l D Y yJ3_checkIndex_8e157 cJ3_checkIndex_8e157 3 (some .int) 0 0 0 0 zc_J3_checkIndex_8e157 := by
  refine zflat (by decide) (fun K J _ _ => zb_J3_checkIndex_8e157_0 K J) (fun X hR => zbs_J3_checkIndex_8e157_0 hR zJ0 zJ0_ok) (fun avs M K h => ?_)
  unfold zc_J3_checkIndex_8e157 at h
  split at h
  · obtain ⟨h1, h2, h⟩ := h
    refine ⟨by simp [zent], ?_⟩
    simp only [zb_J3_checkIndex_8e157_0, zb_J3_checkIndex_8e157_9, zT_no, zT_push, zT_bin, zT_div, zT_bil, zT_shl, zT_un, zT_i2l, zT_l2i, zT_lcmp, zT_ild, zT_lld, zT_ald, zT_ist, zT_lst, zT_ast, zT_iinc, zT_dup, zT_dup2, zT_pop, zT_if1, zT_if2, zT_ifn, zT_getI, zT_getJ, zT_getR, zT_putI, zT_putZ, zT_putJ, zT_putR, zT_ald0, zT_lald, zT_aald, zT_iast, zT_zast, zT_bast, zT_last, zT_aast, zT_iret, zT_nret, zT_aret, zT_vret, zT_oi, zT_mm, zT_ialX, zT_S1, zT_S2, zT_S3, zT_V0, zT_V1, zT_V2, zT_V3, zT_V4, zT_V5, zT_V6, zT_I0, zT_I1, zT_I2, zlg, zlset, zlpr, zent, zok, va_rf, List.length_cons, List.length_nil, List.replicate, List.cons_append, List.nil_append, List.append_nil, Option.toList_some, Option.toList_none, Option.toList, Nat.reduceAdd, Nat.reduceSub, Nat.reduceLeDiff, Nat.zero_add, Nat.zero_le, true_and, and_true, Nat.le_refl, ge_iff_le, Nat.reduceEqDiff]
    exact ⟨fun z => Int32.not_lt.mpr h1 z, fun _ => ⟨fun _ => h, fun z => z h2⟩⟩
  · obtain ⟨h1, h2, h⟩ := h
    refine ⟨by simp [zent], ?_⟩
    simp only [zb_J3_checkIndex_8e157_0, zb_J3_checkIndex_8e157_9, zT_no, zT_push, zT_bin, zT_div, zT_bil, zT_shl, zT_un, zT_i2l, zT_l2i, zT_lcmp, zT_ild, zT_lld, zT_ald, zT_ist, zT_lst, zT_ast, zT_iinc, zT_dup, zT_dup2, zT_pop, zT_if1, zT_if2, zT_ifn, zT_getI, zT_getJ, zT_getR, zT_putI, zT_putZ, zT_putJ, zT_putR, zT_ald0, zT_lald, zT_aald, zT_iast, zT_zast, zT_bast, zT_last, zT_aast, zT_iret, zT_nret, zT_aret, zT_vret, zT_oi, zT_mm, zT_ialX, zT_S1, zT_S2, zT_S3, zT_V0, zT_V1, zT_V2, zT_V3, zT_V4, zT_V5, zT_V6, zT_I0, zT_I1, zT_I2, zlg, zlset, zlpr, zent, zok, va_rf, List.length_cons, List.length_nil, List.replicate, List.cons_append, List.nil_append, List.append_nil, Option.toList_some, Option.toList_none, Option.toList, Nat.reduceAdd, Nat.reduceSub, Nat.reduceLeDiff, Nat.zero_add, Nat.zero_le, true_and, and_true, Nat.le_refl, ge_iff_le, Nat.reduceEqDiff]
    exact ⟨fun z => Int32.not_lt.mpr h1 z, fun _ => ⟨fun _ => h, fun z => z h2⟩⟩
  · exact h.elim
/-! java/lang/String length -/
theorem zd_J0_length_8abf5_0 : decode cJ0_length_8abf5 0 = .ok (.aload_n 0, 1) := by decide +kernel
theorem zd_J0_length_8abf5_1 : decode cJ0_length_8abf5 1 = .ok (.getfield 9, 3) := by decide +kernel
theorem zd_J0_length_8abf5_4 : decode cJ0_length_8abf5 4 = .ok (.arraylength, 1) := by decide +kernel
theorem zd_J0_length_8abf5_5 : decode cJ0_length_8abf5 5 = .ok (.aload_n 0, 1) := by decide +kernel
theorem zd_J0_length_8abf5_6 : decode cJ0_length_8abf5 6 = .ok (.invokevirtual 335, 3) := by decide +kernel
theorem zd_J0_length_8abf5_9 : decode cJ0_length_8abf5 9 = .ok (.ishr, 1) := by decide +kernel
theorem zd_J0_length_8abf5_10 : decode cJ0_length_8abf5 10 = .ok (.ireturn, 1) := by decide +kernel
def zb_J0_length_8abf5_0 (K : zKt) (J : Nat → zPP) : zPP := zT_ald 0 (zT_xval (zT_xlen (zT_ald 0 (zT_VS0 zc_J0_coder_7d493 (zT_bin (fun x y => x >>> (y &&& 31)) (zT_iret K))))))
theorem zbs_J0_length_8abf5_0 {X : zCt} (hR : zRX X = { frames := 1, cells := 0, slots := 0, locals := 20 }) (J : Nat → zPP) (hJ : ∀ h ∈ ([] : List Nat), zSd X RJ0 "length" cJ0_length_8abf5 1 (some .int) h (J h)) : zSd X RJ0 "length" cJ0_length_8abf5 1 (some .int) 0 (zb_J0_length_8abf5_0 (zKX X) J) := zs_aload_n zd_J0_length_8abf5_0 rfl (zs_xval rfl gw_4_140 zd_J0_length_8abf5_1 (zs_xlen zd_J0_length_8abf5_4 (zs_aload_n zd_J0_length_8abf5_5 rfl (zs_VS (n := 0) rfl (zm_J0_coder_7d493 _ _ _) gw_2_89 gw_2_86 gw_2_87 gw_2_88 gw_1_9 zdn_J0_coder_7d493 (zrm hR (by decide) (by decide)) zd_J0_length_8abf5_6 zCl_VS0 (zs_ishr zd_J0_length_8abf5_9 (zs_iret rfl zd_J0_length_8abf5_10))))))
theorem zdn_J0_length_8abf5 : yJ0_length_8abf5.cls ≠ "java/lang/invoke/MethodHandle" ∧ yJ0_length_8abf5.cls ≠ "java/lang/invoke/VarHandle" ∧ (parseMethodDescriptor yJ0_length_8abf5.desc).map (fun d => d.parameters.length) = some 0 := by decide +kernel
/-! java/lang/String checkIndex -/
theorem zd_J0_checkIndex_df160_0 : decode cJ0_checkIndex_df160 0 = .ok (.iload_n 0, 1) := by decide +kernel
theorem zd_J0_checkIndex_df160_1 : decode cJ0_checkIndex_df160 1 = .ok (.iload_n 1, 1) := by decide +kernel
theorem zd_J0_checkIndex_df160_2 : decode cJ0_checkIndex_df160 2 = .ok (.getstatic 1053, 3) := by decide +kernel
theorem zd_J0_checkIndex_df160_5 : decode cJ0_checkIndex_df160 5 = .ok (.invokestatic 1059, 3) := by decide +kernel
theorem zd_J0_checkIndex_df160_8 : decode cJ0_checkIndex_df160 8 = .ok (.pop, 1) := by decide +kernel
theorem zd_J0_checkIndex_df160_9 : decode cJ0_checkIndex_df160 9 = .ok (.return_, 1) := by decide +kernel
def zb_J0_checkIndex_df160_0 (K : zKt) (J : Nat → zPP) : zPP := zT_ild 0 (zT_ild 1 (zT_gsF (zT_S3 zok zc_J3_checkIndex_8e157 (zT_pop (zT_vret K)))))
theorem zbs_J0_checkIndex_df160_0 {X : zCt} (hR : zRX X = { frames := 1, cells := 0, slots := 0, locals := 22 }) (J : Nat → zPP) (hJ : ∀ h ∈ ([] : List Nat), zSd X RJ0 "checkIndex" cJ0_checkIndex_df160 2 none h (J h)) : zSd X RJ0 "checkIndex" cJ0_checkIndex_df160 2 none 0 (zb_J0_checkIndex_df160_0 (zKX X) J) := zs_iload_n zd_J0_checkIndex_df160_0 rfl (zs_iload_n zd_J0_checkIndex_df160_1 rfl (zs_gsF rfl gw_2_106 zd_J0_checkIndex_df160_2 (zs_S (zm_J3_checkIndex_8e157 _ _ _) gw_2_110 gw_2_108 gw_2_109 gw_1_11 zdn_J3_checkIndex_8e157 (zrm hR (by decide) (by decide)) zd_J0_checkIndex_df160_5 (zCl_S3 zok_l) (zs_pop zd_J0_checkIndex_df160_8 (zs_vret rfl zd_J0_checkIndex_df160_9)))))
theorem zdn_J0_checkIndex_df160 : yJ0_checkIndex_df160.cls ≠ "java/lang/invoke/MethodHandle" ∧ yJ0_checkIndex_df160.cls ≠ "java/lang/invoke/VarHandle" ∧ (parseMethodDescriptor yJ0_checkIndex_df160.desc).map (fun d => d.parameters.length) = some 2 := by decide +kernel
def zc_J0_length_8abf5 (a : List Value) (M : zMm) (K : zKt) : Prop := match a with
  | [.ref k] => ∃ i, i < 8 ∧ k = 2010 + i ∧ K (some (.int (nI (zSl.getD i 0)))) M
  | _ => False
theorem zSl_sh : ∀ i, i < 8 → nI (zSl.getD i 0) >>> ((0 : Int32) &&& 31) = nI (zSl.getD i 0) := by decide
theorem zm_J0_length_8abf5 (l : Launch) (D : va_G) (Y : Nat → ClassId) : zMt l D Y yJ0_length_8abf5 cJ0_length_8abf5 1 (some .int) 1 20 0 0 zc_J0_length_8abf5 := by
  refine zflat (by decide) (fun K J _ _ => zb_J0_length_8abf5_0 K J) (fun X hR => zbs_J0_length_8abf5_0 hR zJ0 zJ0_ok) (fun avs M K h => ?_)
  unfold zc_J0_length_8abf5 at h
  split at h
  · obtain ⟨i, hi, rfl, h⟩ := h
    refine ⟨by simp [zent], ?_⟩
    simp only [zb_J0_length_8abf5_0, zT_xval, zT_xlen, zT_VS0, zT_push, zT_bin, zT_div, zT_bil, zT_shl, zT_un, zT_i2l, zT_l2i, zT_lcmp, zT_ild, zT_lld, zT_ald, zT_ist, zT_lst, zT_ast, zT_iinc, zT_dup, zT_dup2, zT_pop, zT_if1, zT_if2, zT_ifn, zT_getI, zT_getJ, zT_getR, zT_putI, zT_putZ, zT_putJ, zT_putR, zT_ald0, zT_lald, zT_aald, zT_iast, zT_zast, zT_bast, zT_last, zT_aast, zT_iret, zT_nret, zT_aret, zT_vret, zT_oi, zT_mm, zT_ialX, zT_S1, zT_S2, zT_S3, zT_V0, zT_V1, zT_V2, zT_V3, zT_V4, zT_V5, zT_V6, zT_I0, zT_I1, zT_I2, zlg, zlset, zlpr, zent, zok, va_rf, List.length_cons, List.length_nil, List.replicate, List.cons_append, List.nil_append, List.append_nil, Option.toList_some, Option.toList_none, Option.toList, Nat.reduceAdd, Nat.reduceSub, Nat.reduceLeDiff, Nat.zero_add, Nat.zero_le, true_and, and_true, Nat.le_refl, ge_iff_le, Nat.reduceEqDiff]
    refine ⟨i, hi, rfl, i, hi, rfl, ⟨i, hi, rfl⟩, ?_⟩
    unfold zc_J0_coder_7d493
    dsimp only
    refine ⟨⟨i, hi, rfl⟩, ?_⟩
    rw [← zSl_sh i hi] at h
    exact h
  · exact h.elim
def zc_J0_checkIndex_df160 (a : List Value) (M : zMm) (K : zKt) : Prop := match a with
  | [.int i, .int n] => 0 ≤ i ∧ i < n ∧ K none M
  | _ => False
theorem zm_J0_checkIndex_df160 (l : Launch) (D : va_G) (Y : Nat → ClassId) : zMt l D Y yJ0_checkIndex_df160 cJ0_checkIndex_df160 2 none 1 22 0 0 zc_J0_checkIndex_df160 := by
  refine zflat (by decide) (fun K J _ _ => zb_J0_checkIndex_df160_0 K J) (fun X hR => zbs_J0_checkIndex_df160_0 hR zJ0 zJ0_ok) (fun avs M K h => ?_)
  unfold zc_J0_checkIndex_df160 at h
  split at h
  · obtain ⟨h1, h2, h⟩ := h
    refine ⟨by simp [zent], ?_⟩
    simp only [zb_J0_checkIndex_df160_0, zT_gsF, zT_push, zT_bin, zT_div, zT_bil, zT_shl, zT_un, zT_i2l, zT_l2i, zT_lcmp, zT_ild, zT_lld, zT_ald, zT_ist, zT_lst, zT_ast, zT_iinc, zT_dup, zT_dup2, zT_pop, zT_if1, zT_if2, zT_ifn, zT_getI, zT_getJ, zT_getR, zT_putI, zT_putZ, zT_putJ, zT_putR, zT_ald0, zT_lald, zT_aald, zT_iast, zT_zast, zT_bast, zT_last, zT_aast, zT_iret, zT_nret, zT_aret, zT_vret, zT_oi, zT_mm, zT_ialX, zT_S1, zT_S2, zT_S3, zT_V0, zT_V1, zT_V2, zT_V3, zT_V4, zT_V5, zT_V6, zT_I0, zT_I1, zT_I2, zlg, zlset, zlpr, zent, zok, va_rf, List.length_cons, List.length_nil, List.replicate, List.cons_append, List.nil_append, List.append_nil, Option.toList_some, Option.toList_none, Option.toList, Nat.reduceAdd, Nat.reduceSub, Nat.reduceLeDiff, Nat.zero_add, Nat.zero_le, true_and, and_true, Nat.le_refl, ge_iff_le, Nat.reduceEqDiff]
    unfold zc_J3_checkIndex_8e157
    exact ⟨⟨h1, h2, h⟩, ⟨h1, h2, h⟩⟩
  · exact h.elim
/-! java/lang/StringLatin1 charAt -/
theorem zd_J1_charAt_3b067_0 : decode cJ1_charAt_3b067 0 = .ok (.iload_n 1, 1) := by decide +kernel
theorem zd_J1_charAt_3b067_1 : decode cJ1_charAt_3b067 1 = .ok (.aload_n 0, 1) := by decide +kernel
theorem zd_J1_charAt_3b067_2 : decode cJ1_charAt_3b067 2 = .ok (.arraylength, 1) := by decide +kernel
theorem zd_J1_charAt_3b067_3 : decode cJ1_charAt_3b067 3 = .ok (.invokestatic 9, 3) := by decide +kernel
theorem zd_J1_charAt_3b067_6 : decode cJ1_charAt_3b067 6 = .ok (.aload_n 0, 1) := by decide +kernel
theorem zd_J1_charAt_3b067_7 : decode cJ1_charAt_3b067 7 = .ok (.iload_n 1, 1) := by decide +kernel
theorem zd_J1_charAt_3b067_8 : decode cJ1_charAt_3b067 8 = .ok (.baload, 1) := by decide +kernel
theorem zd_J1_charAt_3b067_9 : decode cJ1_charAt_3b067 9 = .ok (.sipush 255, 3) := by decide +kernel
theorem zd_J1_charAt_3b067_12 : decode cJ1_charAt_3b067 12 = .ok (.iand, 1) := by decide +kernel
theorem zd_J1_charAt_3b067_13 : decode cJ1_charAt_3b067 13 = .ok (.i2c, 1) := by decide +kernel
theorem zd_J1_charAt_3b067_14 : decode cJ1_charAt_3b067 14 = .ok (.ireturn, 1) := by decide +kernel
def zb_J1_charAt_3b067_0 (K : zKt) (J : Nat → zPP) : zPP := zT_ild 1 (zT_ald 0 (zT_xlen (zT_S2 zok zc_J0_checkIndex_df160 (zT_ald 0 (zT_ild 1 (zT_xba (zT_push (.int 255) (zT_bin (fun x y => x &&& y) (zT_un (fun x => (x.toUInt32 % 65536).toInt32) (zT_nret .char K))))))))))
theorem zbs_J1_charAt_3b067_0 {X : zCt} (hR : zRX X = { frames := 2, cells := 0, slots := 0, locals := 43 }) (J : Nat → zPP) (hJ : ∀ h ∈ ([] : List Nat), zSd X RJ1 "charAt" cJ1_charAt_3b067 2 (some .char) h (J h)) : zSd X RJ1 "charAt" cJ1_charAt_3b067 2 (some .char) 0 (zb_J1_charAt_3b067_0 (zKX X) J) := zs_iload_n zd_J1_charAt_3b067_0 rfl (zs_aload_n zd_J1_charAt_3b067_1 rfl (zs_xlen zd_J1_charAt_3b067_2 (zs_S (zm_J0_checkIndex_df160 _ _ _) gw_2_105 gw_2_103 gw_2_104 gw_1_9 zdn_J0_checkIndex_df160 (zrm hR (by decide) (by decide)) zd_J1_charAt_3b067_3 (zCl_S2 zok_l) (zs_aload_n zd_J1_charAt_3b067_6 rfl (zs_iload_n zd_J1_charAt_3b067_7 rfl (zs_xba zd_J1_charAt_3b067_8 (zs_sipush zd_J1_charAt_3b067_9 (by decide) (zs_iand zd_J1_charAt_3b067_12 (zs_i2c zd_J1_charAt_3b067_13 (zs_nret rfl zd_J1_charAt_3b067_14))))))))))
theorem zdn_J1_charAt_3b067 : yJ1_charAt_3b067.cls ≠ "java/lang/invoke/MethodHandle" ∧ yJ1_charAt_3b067.cls ≠ "java/lang/invoke/VarHandle" ∧ (parseMethodDescriptor yJ1_charAt_3b067.desc).map (fun d => d.parameters.length) = some 2 := by decide +kernel
def zch (i n : Nat) : Int32 := (zSb.getD i []).getD n 0
theorem zch_c : ∀ i, i < 8 → ∀ n, n < 6 → ((zch i n &&& 255).toUInt32 % 65536).toInt32 = zch i n := by decide
theorem zSl_6 : ∀ i, i < 8 → zSl.getD i 0 ≤ 6 := by decide
theorem zch_n : ∀ i, i < 8 → ∀ n, n < 6 → narrow .char (.int (zch i n)) = .int (zch i n) := by decide
def zc_J1_charAt_3b067 (a : List Value) (M : zMm) (K : zKt) : Prop := match a with
  | [.ref k, .int j] => ∃ i n, i < 8 ∧ k = 2020 + i ∧ n < zSl.getD i 0 ∧ j = nI n ∧ K (some (.int (zch i n))) M
  | _ => False
theorem zm_J1_charAt_3b067 (l : Launch) (D : va_G) (Y : Nat → ClassId) : zMt l D Y yJ1_charAt_3b067 cJ1_charAt_3b067 2 (some .char) 2 43 0 0 zc_J1_charAt_3b067 := by
  refine zflat (by decide) (fun K J _ _ => zb_J1_charAt_3b067_0 K J) (fun X hR => zbs_J1_charAt_3b067_0 hR zJ0 zJ0_ok) (fun avs M K h => ?_)
  unfold zc_J1_charAt_3b067 at h
  split at h
  · obtain ⟨i, n, hi, rfl, hn, rfl, h⟩ := h
    have h6 := zSl_6 i hi
    refine ⟨by simp [zent], ?_⟩
    simp only [zb_J1_charAt_3b067_0, zT_xlen, zT_xba, zT_push, zT_bin, zT_div, zT_bil, zT_shl, zT_un, zT_i2l, zT_l2i, zT_lcmp, zT_ild, zT_lld, zT_ald, zT_ist, zT_lst, zT_ast, zT_iinc, zT_dup, zT_dup2, zT_pop, zT_if1, zT_if2, zT_ifn, zT_getI, zT_getJ, zT_getR, zT_putI, zT_putZ, zT_putJ, zT_putR, zT_ald0, zT_lald, zT_aald, zT_iast, zT_zast, zT_bast, zT_last, zT_aast, zT_iret, zT_nret, zT_aret, zT_vret, zT_oi, zT_mm, zT_ialX, zT_S1, zT_S2, zT_S3, zT_V0, zT_V1, zT_V2, zT_V3, zT_V4, zT_V5, zT_V6, zT_I0, zT_I1, zT_I2, zlg, zlset, zlpr, zent, zok, va_rf, List.length_cons, List.length_nil, List.replicate, List.cons_append, List.nil_append, List.append_nil, Option.toList_some, Option.toList_none, Option.toList, Nat.reduceAdd, Nat.reduceSub, Nat.reduceLeDiff, Nat.zero_add, Nat.zero_le, true_and, and_true, Nat.le_refl, ge_iff_le, Nat.reduceEqDiff]
    refine ⟨i, hi, rfl, ?_⟩
    unfold zc_J0_checkIndex_df160
    dsimp only
    refine ⟨(nI_leI (a := 0) (by decide) (by omega)).mpr (Nat.zero_le _), (nI_ltI (by omega) (by omega)).mpr hn, i, hi, rfl, vp_in_nI hn (by omega), ?_⟩
    rw [nI_clamp (by omega)]
    have e := zch_c i hi n (by omega)
    unfold zch at e
    rw [e]
    exact ⟨zch_n i hi n (by omega), h⟩
  · exact h.elim
/-! java/lang/String charAt -/
theorem zd_J0_charAt_5068e_0 : decode cJ0_charAt_5068e 0 = .ok (.aload_n 0, 1) := by decide +kernel
theorem zd_J0_charAt_5068e_1 : decode cJ0_charAt_5068e 1 = .ok (.invokevirtual 492, 3) := by decide +kernel
theorem zd_J0_charAt_5068e_4 : decode cJ0_charAt_5068e 4 = .ok (.ifCond .eq 12, 3) := by decide +kernel
theorem zd_J0_charAt_5068e_7 : decode cJ0_charAt_5068e 7 = .ok (.aload_n 0, 1) := by decide +kernel
theorem zd_J0_charAt_5068e_8 : decode cJ0_charAt_5068e 8 = .ok (.getfield 9, 3) := by decide +kernel
theorem zd_J0_charAt_5068e_11 : decode cJ0_charAt_5068e 11 = .ok (.iload_n 1, 1) := by decide +kernel
theorem zd_J0_charAt_5068e_12 : decode cJ0_charAt_5068e 12 = .ok (.invokestatic 495, 3) := by decide +kernel
theorem zd_J0_charAt_5068e_15 : decode cJ0_charAt_5068e 15 = .ok (.ireturn, 1) := by decide +kernel
theorem zd_J0_charAt_5068e_16 : decode cJ0_charAt_5068e 16 = .ok (.aload_n 0, 1) := by decide +kernel
def zb_J0_charAt_5068e_0 (K : zKt) (J : Nat → zPP) : zPP := zT_ald 0 (zT_VS0 zc_J0_isLatin1_aae02 (zT_if1 (fun x => x = 0) (zT_no) (zT_ald 0 (zT_xval (zT_ild 1 (zT_S2 zok zc_J1_charAt_3b067 (zT_nret .char K)))))))
theorem zbs_J0_charAt_5068e_0 {X : zCt} (hR : zRX X = { frames := 3, cells := 0, slots := 0, locals := 64 }) (J : Nat → zPP) (hJ : ∀ h ∈ ([] : List Nat), zSd X RJ0 "charAt" cJ0_charAt_5068e 2 (some .char) h (J h)) : zSd X RJ0 "charAt" cJ0_charAt_5068e 2 (some .char) 0 (zb_J0_charAt_5068e_0 (zKX X) J) := zs_aload_n zd_J0_charAt_5068e_0 rfl (zs_VS (n := 0) rfl (zm_J0_isLatin1_aae02 _ _ _) gw_2_99 gw_2_96 gw_2_97 gw_2_98 gw_1_9 zdn_J0_isLatin1_aae02 (zrm hR (by decide) (by decide)) zd_J0_charAt_5068e_1 zCl_VS0 (zs_if_eq (tgt := 16) zd_J0_charAt_5068e_4 (by decide) (zs_no) (zs_aload_n zd_J0_charAt_5068e_7 rfl (zs_xval rfl gw_4_140 zd_J0_charAt_5068e_8 (zs_iload_n zd_J0_charAt_5068e_11 rfl (zs_S (zm_J1_charAt_3b067 _ _ _) gw_2_102 gw_2_100 gw_2_101 gw_1_10 zdn_J1_charAt_3b067 (zrm hR (by decide) (by decide)) zd_J0_charAt_5068e_12 (zCl_S2 zok_l) (zs_nret rfl zd_J0_charAt_5068e_15)))))))
theorem zdn_J0_charAt_5068e : yJ0_charAt_5068e.cls ≠ "java/lang/invoke/MethodHandle" ∧ yJ0_charAt_5068e.cls ≠ "java/lang/invoke/VarHandle" ∧ (parseMethodDescriptor yJ0_charAt_5068e.desc).map (fun d => d.parameters.length) = some 1 := by decide +kernel
def zc_J0_charAt_5068e (a : List Value) (M : zMm) (K : zKt) : Prop := match a with
  | [.ref k, .int j] => ∃ i n, i < 8 ∧ k = 2010 + i ∧ n < zSl.getD i 0 ∧ j = nI n ∧ K (some (.int (zch i n))) M
  | _ => False
theorem zm_J0_charAt_5068e (l : Launch) (D : va_G) (Y : Nat → ClassId) : zMt l D Y yJ0_charAt_5068e cJ0_charAt_5068e 2 (some .char) 3 64 0 0 zc_J0_charAt_5068e := by
  refine zflat (by decide) (fun K J _ _ => zb_J0_charAt_5068e_0 K J) (fun X hR => zbs_J0_charAt_5068e_0 hR zJ0 zJ0_ok) (fun avs M K h => ?_)
  unfold zc_J0_charAt_5068e at h
  split at h
  · obtain ⟨i, n, hi, rfl, hn, rfl, h⟩ := h
    have h6 := zSl_6 i hi
    refine ⟨by simp [zent], ?_⟩
    simp only [zb_J0_charAt_5068e_0, zT_xval, zT_VS0, zT_no, zT_push, zT_bin, zT_div, zT_bil, zT_shl, zT_un, zT_i2l, zT_l2i, zT_lcmp, zT_ild, zT_lld, zT_ald, zT_ist, zT_lst, zT_ast, zT_iinc, zT_dup, zT_dup2, zT_pop, zT_if1, zT_if2, zT_ifn, zT_getI, zT_getJ, zT_getR, zT_putI, zT_putZ, zT_putJ, zT_putR, zT_ald0, zT_lald, zT_aald, zT_iast, zT_zast, zT_bast, zT_last, zT_aast, zT_iret, zT_nret, zT_aret, zT_vret, zT_oi, zT_mm, zT_ialX, zT_S1, zT_S2, zT_S3, zT_V0, zT_V1, zT_V2, zT_V3, zT_V4, zT_V5, zT_V6, zT_I0, zT_I1, zT_I2, zlg, zlset, zlpr, zent, zok, va_rf, List.length_cons, List.length_nil, List.replicate, List.cons_append, List.nil_append, List.append_nil, Option.toList_some, Option.toList_none, Option.toList, Nat.reduceAdd, Nat.reduceSub, Nat.reduceLeDiff, Nat.zero_add, Nat.zero_le, true_and, and_true, Nat.le_refl, ge_iff_le, Nat.reduceEqDiff]
    refine ⟨⟨i, hi, rfl⟩, ?_⟩
    unfold zc_J0_isLatin1_aae02
    dsimp only
    refine ⟨⟨i, hi, rfl⟩, fun z => absurd z (by decide), fun _ => ⟨i, hi, rfl, ?_⟩⟩
    unfold zc_J1_charAt_3b067
    dsimp only
    exact ⟨by decide, i, n, hi, rfl, hn, rfl, zch_n i hi n (by omega), h⟩
  · exact h.elim
