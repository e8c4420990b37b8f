/-! DeltaRunsModel feed -/
theorem zd_X8_feed_0 : decode cX8_feed 0 = .ok (.aload_n 0, 1) := by decide +kernel
theorem zd_X8_feed_1 : decode cX8_feed 1 = .ok (.iconst 0, 1) := by decide +kernel
theorem zd_X8_feed_2 : decode cX8_feed 2 = .ok (.putfield 93, 3) := by decide +kernel
theorem zd_X8_feed_5 : decode cX8_feed 5 = .ok (.aload_n 0, 1) := by decide +kernel
theorem zd_X8_feed_6 : decode cX8_feed 6 = .ok (.getfield 127, 3) := by decide +kernel
theorem zd_X8_feed_9 : decode cX8_feed 9 = .ok (.bipush 20, 2) := by decide +kernel
theorem zd_X8_feed_11 : decode cX8_feed 11 = .ok (.iadd, 1) := by decide +kernel
theorem zd_X8_feed_12 : decode cX8_feed 12 = .ok (.sipush 300, 3) := by decide +kernel
theorem zd_X8_feed_15 : decode cX8_feed 15 = .ok (.if_icmp .le 5, 3) := by decide +kernel
theorem zd_X8_feed_18 : decode cX8_feed 18 = .ok (.iconst (-1), 1) := by decide +kernel
theorem zd_X8_feed_19 : decode cX8_feed 19 = .ok (.ireturn, 1) := by decide +kernel
theorem zd_X8_feed_20 : decode cX8_feed 20 = .ok (.aload_n 0, 1) := by decide +kernel
theorem zd_X8_feed_21 : decode cX8_feed 21 = .ok (.iload_n 1, 1) := by decide +kernel
theorem zd_X8_feed_22 : decode cX8_feed 22 = .ok (.invokevirtual 130, 3) := by decide +kernel
theorem zd_X8_feed_25 : decode cX8_feed 25 = .ok (.aload_n 0, 1) := by decide +kernel
theorem zd_X8_feed_26 : decode cX8_feed 26 = .ok (.iload_n 2, 1) := by decide +kernel
theorem zd_X8_feed_27 : decode cX8_feed 27 = .ok (.invokevirtual 130, 3) := by decide +kernel
theorem zd_X8_feed_30 : decode cX8_feed 30 = .ok (.aload_n 0, 1) := by decide +kernel
theorem zd_X8_feed_31 : decode cX8_feed 31 = .ok (.iload_n 3, 1) := by decide +kernel
theorem zd_X8_feed_32 : decode cX8_feed 32 = .ok (.invokevirtual 130, 3) := by decide +kernel
theorem zd_X8_feed_35 : decode cX8_feed 35 = .ok (.aload_n 0, 1) := by decide +kernel
theorem zd_X8_feed_36 : decode cX8_feed 36 = .ok (.iload 4, 2) := by decide +kernel
theorem zd_X8_feed_38 : decode cX8_feed 38 = .ok (.invokevirtual 130, 3) := by decide +kernel
theorem zd_X8_feed_41 : decode cX8_feed 41 = .ok (.aload_n 0, 1) := by decide +kernel
theorem zd_X8_feed_42 : decode cX8_feed 42 = .ok (.iload 5, 2) := by decide +kernel
theorem zd_X8_feed_44 : decode cX8_feed 44 = .ok (.invokevirtual 130, 3) := by decide +kernel
theorem zd_X8_feed_47 : decode cX8_feed 47 = .ok (.aload_n 0, 1) := by decide +kernel
theorem zd_X8_feed_48 : decode cX8_feed 48 = .ok (.getfield 127, 3) := by decide +kernel
theorem zd_X8_feed_51 : decode cX8_feed 51 = .ok (.ireturn, 1) := by decide +kernel
def zb_X8_feed_0 (K : zKt) (J : Nat → zPP) : zPP := zT_ald 0 (zT_push (.int 0) (zT_putI 8 0 38 (zT_ald 0 (zT_getI 8 17 38 (zT_push (.int 20) (zT_bin (fun x y => x + y) (zT_push (.int 300) (zT_if2 (fun x y => x ≤ y) (zT_ald 0 (zT_ild 1 (zT_V1 zok 8 38 zc_X8_four (zT_ald 0 (zT_ild 2 (zT_V1 zok 8 38 zc_X8_four (zT_ald 0 (zT_ild 3 (zT_V1 zok 8 38 zc_X8_four (zT_ald 0 (zT_ild 4 (zT_V1 zok 8 38 zc_X8_four (zT_ald 0 (zT_ild 5 (zT_V1 zok 8 38 zc_X8_four (zT_ald 0 (zT_getI 8 17 38 (zT_iret K)))))))))))))))))) (zT_push (.int (-1)) (zT_iret K))))))))))
theorem zbs_X8_feed_0 {X : zCt} (hR : zRX X = { frames := 1, cells := 0, slots := 0, locals := 22 }) (J : Nat → zPP) (hJ : ∀ h ∈ ([] : List Nat), zSd X RX8 "feed" cX8_feed 6 (some .int) h (J h)) : zSd X RX8 "feed" cX8_feed 6 (some .int) 0 (zb_X8_feed_0 (zKX X) J) := zs_aload_n zd_X8_feed_0 rfl (zs_iconst zd_X8_feed_1 (by decide) (zs_putI (ci := 8) (j := 0) (T := TX8) rfl inX8 tyX8_ok nmX8 (by decide) gw_3_89 rfl rfl rfl zd_X8_feed_2 (zs_aload_n zd_X8_feed_5 rfl (zs_getI (ci := 8) (j := 17) (T := TX8) rfl inX8 (by decide) gw_3_106 rfl zd_X8_feed_6 (zs_bipush zd_X8_feed_9 (by decide) (zs_iadd zd_X8_feed_11 (zs_sipush zd_X8_feed_12 (by decide) (zs_icmp_le (tgt := 20) zd_X8_feed_15 (by decide) (zs_aload_n zd_X8_feed_20 rfl (zs_iload_n zd_X8_feed_21 rfl (zs_V (ci := 8) rfl rfl (zm_X8_four _ _ _) gw_4_3 gw_4_0 gw_4_2 gw_0_25 gw_1_7 zdn_X8_four (zrm hR (by decide) (by decide)) zd_X8_feed_22 (zCl_V1 zok_l) (zs_aload_n zd_X8_feed_25 rfl (zs_iload_n zd_X8_feed_26 rfl (zs_V (ci := 8) rfl rfl (zm_X8_four _ _ _) gw_4_3 gw_4_0 gw_4_2 gw_0_25 gw_1_7 zdn_X8_four (zrm hR (by decide) (by decide)) zd_X8_feed_27 (zCl_V1 zok_l) (zs_aload_n zd_X8_feed_30 rfl (zs_iload_n zd_X8_feed_31 rfl (zs_V (ci := 8) rfl rfl (zm_X8_four _ _ _) gw_4_3 gw_4_0 gw_4_2 gw_0_25 gw_1_7 zdn_X8_four (zrm hR (by decide) (by decide)) zd_X8_feed_32 (zCl_V1 zok_l) (zs_aload_n zd_X8_feed_35 rfl (zs_iload zd_X8_feed_36 (zs_V (ci := 8) rfl rfl (zm_X8_four _ _ _) gw_4_3 gw_4_0 gw_4_2 gw_0_25 gw_1_7 zdn_X8_four (zrm hR (by decide) (by decide)) zd_X8_feed_38 (zCl_V1 zok_l) (zs_aload_n zd_X8_feed_41 rfl (zs_iload zd_X8_feed_42 (zs_V (ci := 8) rfl rfl (zm_X8_four _ _ _) gw_4_3 gw_4_0 gw_4_2 gw_0_25 gw_1_7 zdn_X8_four (zrm hR (by decide) (by decide)) zd_X8_feed_44 (zCl_V1 zok_l) (zs_aload_n zd_X8_feed_47 rfl (zs_getI (ci := 8) (j := 17) (T := TX8) rfl inX8 (by decide) gw_3_106 rfl zd_X8_feed_48 (zs_iret rfl zd_X8_feed_51)))))))))))))))))) (zs_iconst zd_X8_feed_18 (by decide) (zs_iret rfl zd_X8_feed_19))))))))))
theorem zdn_X8_feed : yX8_feed.cls ≠ "java/lang/invoke/MethodHandle" ∧ yX8_feed.cls ≠ "java/lang/invoke/VarHandle" ∧ (parseMethodDescriptor yX8_feed.desc).map (fun d => d.parameters.length) = some 5 := by decide +kernel
def zc_X8_feed (a : List Value) (M : zMm) (K : zKt) : Prop := match a with
  | [.ref k, .int a, .int b, .int c, .int d, .int e] => k = 200 ∧ ∃ F, zMF M F ∧ ∀ M', zMF M' (pFeed a b c d e F).2 → K (some (.int (pFeed a b c d e F).1)) M'
  | _ => False
set_option maxHeartbeats 1000000 in
theorem zm_X8_feed (l : Launch) (D : va_G) (Y : Nat → ClassId) : zMt l D Y yX8_feed cX8_feed 6 (some .int) 1 22 0 0 zc_X8_feed := by
  refine zflat (by decide) (fun K J lc lz => zb_X8_feed_0 K J) (fun X hR => zbs_X8_feed_0 hR zJ0 zJ0_ok) (fun avs M K h => ?_)
  unfold zc_X8_feed at h
  split at h
  · next k a b c d e =>
    obtain ⟨rfl, F, hF, h⟩ := h
    have hF1 := hF.th
    refine ⟨by simp [zent], ?_⟩
    simp only [zb_X8_feed_0, zsh_200, zT_push, zT_bin, zT_div, zT_bil, zT_shl, zT_un, zT_i2l, zT_l2i, zT_lcmp, zT_ild, zT_lld, zT_ald, zT_ist, zT_lst, zT_ast, zT_iinc, zT_dup, zT_dup2, zT_pop, zT_if1, zT_if2, zT_ifn, zT_getI, zT_getJ, zT_getR, zT_putI, zT_putZ, zT_putJ, zT_putR, zT_ald0, zT_lald, zT_aald, zT_iast, zT_zast, zT_bast, zT_last, zT_aast, zT_iret, zT_nret, zT_aret, zT_vret, zT_oi, zT_mm, zT_ialX, zT_S1, zT_S2, zT_S3, zT_V0, zT_V1, zT_V2, zT_V3, zT_V4, zT_V5, zT_V6, zT_I0, zT_I1, zT_I2, zlg, zlset, zlpr, zent, zok, va_rf, List.length_cons, List.length_nil, List.replicate, List.cons_append, List.nil_append, List.append_nil, Option.toList_some, Option.toList_none, Option.toList, Nat.reduceAdd, Nat.reduceSub, Nat.reduceLeDiff, Nat.zero_add, Nat.zero_le, true_and, and_true, Nat.le_refl, ge_iff_le, Nat.reduceEqDiff]
    generalize zwI M 200 0 0 = M1 at hF1 ⊢
    obtain ⟨g1, g2, g3, g4, g5, g6⟩ := id hF1
    have t1 := g4.1
    have t2 := g4.2.1
    have r16 : M1.2.2.2 200 16 = some 208 := g1.2.2.2.2.2.2.2.1
    simp only [t1, show (20 : Int32) = nI 20 from rfl, nI_add, zT_push, zT_bin, zT_div, zT_bil, zT_shl, zT_un, zT_i2l, zT_l2i, zT_lcmp, zT_ild, zT_lld, zT_ald, zT_ist, zT_lst, zT_ast, zT_iinc, zT_dup, zT_dup2, zT_pop, zT_if1, zT_if2, zT_ifn, zT_getI, zT_getJ, zT_getR, zT_putI, zT_putZ, zT_putJ, zT_putR, zT_ald0, zT_lald, zT_aald, zT_iast, zT_zast, zT_bast, zT_last, zT_aast, zT_iret, zT_nret, zT_aret, zT_vret, zT_oi, zT_mm, zT_ialX, zT_S1, zT_S2, zT_S3, zT_V0, zT_V1, zT_V2, zT_V3, zT_V4, zT_V5, zT_V6, zT_I0, zT_I1, zT_I2, zlg, zlset, zlpr, zent, zok, va_rf, List.length_cons, List.length_nil, List.replicate, List.cons_append, List.nil_append, List.append_nil, Option.toList_some, Option.toList_none, Option.toList, Nat.reduceAdd, Nat.reduceSub, Nat.reduceLeDiff, Nat.zero_add, Nat.zero_le, true_and, and_true, Nat.le_refl, ge_iff_le, Nat.reduceEqDiff]
    refine ⟨fun h1 => ?_, fun h1 => ?_⟩
    · have hle : F.2.2.1.length + 20 ≤ 300 := (nI_leI (b := 300) (by omega) (by decide)).mp h1
      unfold zc_X8_four
      dsimp only
      refine ⟨rfl, r16, F.2.2.1, g4, by omega, fun N1 hs1 hj1 hT1 => ?_⟩
      try simp only [zsh_200, zT_push, zT_bin, zT_div, zT_bil, zT_shl, zT_un, zT_i2l, zT_l2i, zT_lcmp, zT_ild, zT_lld, zT_ald, zT_ist, zT_lst, zT_ast, zT_iinc, zT_dup, zT_dup2, zT_pop, zT_if1, zT_if2, zT_ifn, zT_getI, zT_getJ, zT_getR, zT_putI, zT_putZ, zT_putJ, zT_putR, zT_ald0, zT_lald, zT_aald, zT_iast, zT_zast, zT_bast, zT_last, zT_aast, zT_iret, zT_nret, zT_aret, zT_vret, zT_oi, zT_mm, zT_ialX, zT_S1, zT_S2, zT_S3, zT_V0, zT_V1, zT_V2, zT_V3, zT_V4, zT_V5, zT_V6, zT_I0, zT_I1, zT_I2, zlg, zlset, zlpr, zent, zok, va_rf, List.length_cons, List.length_nil, List.replicate, List.cons_append, List.nil_append, List.append_nil, Option.toList_some, Option.toList_none, Option.toList, Nat.reduceAdd, Nat.reduceSub, Nat.reduceLeDiff, Nat.zero_add, Nat.zero_le, true_and, and_true, Nat.le_refl, ge_iff_le, Nat.reduceEqDiff]
      refine ⟨by rw [hs1.R]; exact r16, _, hT1, by simp only [List.length_append, pF4_len]; omega, fun N2 hs2 hj2 hT2 => ?_⟩
      have hs12 := hs1.tr hs2
      try simp only [zsh_200, zT_push, zT_bin, zT_div, zT_bil, zT_shl, zT_un, zT_i2l, zT_l2i, zT_lcmp, zT_ild, zT_lld, zT_ald, zT_ist, zT_lst, zT_ast, zT_iinc, zT_dup, zT_dup2, zT_pop, zT_if1, zT_if2, zT_ifn, zT_getI, zT_getJ, zT_getR, zT_putI, zT_putZ, zT_putJ, zT_putR, zT_ald0, zT_lald, zT_aald, zT_iast, zT_zast, zT_bast, zT_last, zT_aast, zT_iret, zT_nret, zT_aret, zT_vret, zT_oi, zT_mm, zT_ialX, zT_S1, zT_S2, zT_S3, zT_V0, zT_V1, zT_V2, zT_V3, zT_V4, zT_V5, zT_V6, zT_I0, zT_I1, zT_I2, zlg, zlset, zlpr, zent, zok, va_rf, List.length_cons, List.length_nil, List.replicate, List.cons_append, List.nil_append, List.append_nil, Option.toList_some, Option.toList_none, Option.toList, Nat.reduceAdd, Nat.reduceSub, Nat.reduceLeDiff, Nat.zero_add, Nat.zero_le, true_and, and_true, Nat.le_refl, ge_iff_le, Nat.reduceEqDiff]
      refine ⟨by rw [hs12.R]; exact r16, _, hT2, by simp only [List.length_append, pF4_len]; omega, fun N3 hs3 hj3 hT3 => ?_⟩
      have hs13 := hs12.tr hs3
      try simp only [zsh_200, zT_push, zT_bin, zT_div, zT_bil, zT_shl, zT_un, zT_i2l, zT_l2i, zT_lcmp, zT_ild, zT_lld, zT_ald, zT_ist, zT_lst, zT_ast, zT_iinc, zT_dup, zT_dup2, zT_pop, zT_if1, zT_if2, zT_ifn, zT_getI, zT_getJ, zT_getR, zT_putI, zT_putZ, zT_putJ, zT_putR, zT_ald0, zT_lald, zT_aald, zT_iast, zT_zast, zT_bast, zT_last, zT_aast, zT_iret, zT_nret, zT_aret, zT_vret, zT_oi, zT_mm, zT_ialX, zT_S1, zT_S2, zT_S3, zT_V0, zT_V1, zT_V2, zT_V3, zT_V4, zT_V5, zT_V6, zT_I0, zT_I1, zT_I2, zlg, zlset, zlpr, zent, zok, va_rf, List.length_cons, List.length_nil, List.replicate, List.cons_append, List.nil_append, List.append_nil, Option.toList_some, Option.toList_none, Option.toList, Nat.reduceAdd, Nat.reduceSub, Nat.reduceLeDiff, Nat.zero_add, Nat.zero_le, true_and, and_true, Nat.le_refl, ge_iff_le, Nat.reduceEqDiff]
      refine ⟨by rw [hs13.R]; exact r16, _, hT3, by simp only [List.length_append, pF4_len]; omega, fun N4 hs4 hj4 hT4 => ?_⟩
      have hs14 := hs13.tr hs4
      try simp only [zsh_200, zT_push, zT_bin, zT_div, zT_bil, zT_shl, zT_un, zT_i2l, zT_l2i, zT_lcmp, zT_ild, zT_lld, zT_ald, zT_ist, zT_lst, zT_ast, zT_iinc, zT_dup, zT_dup2, zT_pop, zT_if1, zT_if2, zT_ifn, zT_getI, zT_getJ, zT_getR, zT_putI, zT_putZ, zT_putJ, zT_putR, zT_ald0, zT_lald, zT_aald, zT_iast, zT_zast, zT_bast, zT_last, zT_aast, zT_iret, zT_nret, zT_aret, zT_vret, zT_oi, zT_mm, zT_ialX, zT_S1, zT_S2, zT_S3, zT_V0, zT_V1, zT_V2, zT_V3, zT_V4, zT_V5, zT_V6, zT_I0, zT_I1, zT_I2, zlg, zlset, zlpr, zent, zok, va_rf, List.length_cons, List.length_nil, List.replicate, List.cons_append, List.nil_append, List.append_nil, Option.toList_some, Option.toList_none, Option.toList, Nat.reduceAdd, Nat.reduceSub, Nat.reduceLeDiff, Nat.zero_add, Nat.zero_le, true_and, and_true, Nat.le_refl, ge_iff_le, Nat.reduceEqDiff]
      refine ⟨by rw [hs14.R]; exact r16, _, hT4, by simp only [List.length_append, pF4_len]; omega, fun N5 hs5 hj5 hT5 => ?_⟩
      have hs15 := hs14.tr hs5
      have hT6 : zMT N5 (F.2.2.1 ++ (pF4 a ++ pF4 b ++ pF4 c ++ pF4 d ++ pF4 e)) := by
        simp only [List.append_assoc] at hT5 ⊢
        exact hT5
      have l5 : N5.2.1 200 17 = nI (F.2.2.1.length + 20) := by
        rw [hT6.1]
        simp only [List.length_append, pF4_len]
      simp only [zsh_200, l5, zT_push, zT_bin, zT_div, zT_bil, zT_shl, zT_un, zT_i2l, zT_l2i, zT_lcmp, zT_ild, zT_lld, zT_ald, zT_ist, zT_lst, zT_ast, zT_iinc, zT_dup, zT_dup2, zT_pop, zT_if1, zT_if2, zT_ifn, zT_getI, zT_getJ, zT_getR, zT_putI, zT_putZ, zT_putJ, zT_putR, zT_ald0, zT_lald, zT_aald, zT_iast, zT_zast, zT_bast, zT_last, zT_aast, zT_iret, zT_nret, zT_aret, zT_vret, zT_oi, zT_mm, zT_ialX, zT_S1, zT_S2, zT_S3, zT_V0, zT_V1, zT_V2, zT_V3, zT_V4, zT_V5, zT_V6, zT_I0, zT_I1, zT_I2, zlg, zlset, zlpr, zent, zok, va_rf, List.length_cons, List.length_nil, List.replicate, List.cons_append, List.nil_append, List.append_nil, Option.toList_some, Option.toList_none, Option.toList, Nat.reduceAdd, Nat.reduceSub, Nat.reduceLeDiff, Nat.zero_add, Nat.zero_le, true_and, and_true, Nat.le_refl, ge_iff_le, Nat.reduceEqDiff]
      have h2 := h N5
      unfold pFeed at h2
      rw [if_pos hle] at h2
      have q : ∀ j, j ≠ 17 → N5.2.1 200 j = M1.2.1 200 j := fun j hj => by rw [hj5 j hj, hj4 j hj, hj3 j hj, hj2 j hj, hj1 j hj]
      have qI : ∀ k, k ≠ 200 → k ≠ 208 → N5.2.1 k = M1.2.1 k := fun k a b => hs15.at (by simp; omega)
      refine h2 ⟨by unfold zMr; rw [hs15.R]; exact g1, ?_, ?_, hT6, (q 22 (by decide)).trans g5, (q 1 (by decide)).trans g6⟩
      · unfold zMS
        rw [q 2 (by omega), q 3 (by omega), q 4 (by omega), q 5 (by omega), q 6 (by omega), q 8 (by omega), qI 201 (by omega) (by omega), qI 202 (by omega) (by omega), qI 203 (by omega) (by omega), qI 204 (by omega) (by omega), qI 205 (by omega) (by omega), qI 206 (by omega) (by omega)]
        exact g2
      · unfold zME
        rw [q 31 (by omega), qI 216 (by omega) (by omega), qI 217 (by omega) (by omega), qI 218 (by omega) (by omega), qI 219 (by omega) (by omega)]
        exact g3
    · have hle : ¬ F.2.2.1.length + 20 ≤ 300 := fun z => h1 ((nI_leI (b := 300) (by omega) (by decide)).mpr z)
      have h2 := h M1
      unfold pFeed at h2
      rw [if_neg hle] at h2
      exact h2 hF1
  · exact h.elim
