/-! DeltaRuns map -/
theorem zd_X7_map_0 : decode cX7_map 0 = .ok (.iload_n 1, 1) := by decide +kernel
theorem zd_X7_map_1 : decode cX7_map 1 = .ok (.iconst 0, 1) := by decide +kernel
theorem zd_X7_map_2 : decode cX7_map 2 = .ok (.bipush 30, 2) := by decide +kernel
theorem zd_X7_map_4 : decode cX7_map 4 = .ok (.invokestatic 60, 3) := by decide +kernel
theorem zd_X7_map_7 : decode cX7_map 7 = .ok (.ifCond .eq 23, 3) := by decide +kernel
theorem zd_X7_map_10 : decode cX7_map 10 = .ok (.iload 4, 2) := by decide +kernel
theorem zd_X7_map_12 : decode cX7_map 12 = .ok (.iconst 0, 1) := by decide +kernel
theorem zd_X7_map_13 : decode cX7_map 13 = .ok (.sipush 200, 3) := by decide +kernel
theorem zd_X7_map_16 : decode cX7_map 16 = .ok (.invokestatic 60, 3) := by decide +kernel
theorem zd_X7_map_19 : decode cX7_map 19 = .ok (.ifCond .eq 11, 3) := by decide +kernel
theorem zd_X7_map_22 : decode cX7_map 22 = .ok (.iload 5, 2) := by decide +kernel
theorem zd_X7_map_24 : decode cX7_map 24 = .ok (.invokestatic 151, 3) := by decide +kernel
theorem zd_X7_map_27 : decode cX7_map 27 = .ok (.ifCond .ne 9, 3) := by decide +kernel
theorem zd_X7_map_30 : decode cX7_map 30 = .ok (.aload_n 0, 1) := by decide +kernel
theorem zd_X7_map_31 : decode cX7_map 31 = .ok (.iconst (-1), 1) := by decide +kernel
theorem zd_X7_map_32 : decode cX7_map 32 = .ok (.invokevirtual 64, 3) := by decide +kernel
theorem zd_X7_map_35 : decode cX7_map 35 = .ok (.ireturn, 1) := by decide +kernel
theorem zd_X7_map_36 : decode cX7_map 36 = .ok (.aload_n 0, 1) := by decide +kernel
theorem zd_X7_map_37 : decode cX7_map 37 = .ok (.getfield 10, 3) := by decide +kernel
theorem zd_X7_map_40 : decode cX7_map 40 = .ok (.iload_n 2, 1) := by decide +kernel
theorem zd_X7_map_41 : decode cX7_map 41 = .ok (.iload_n 3, 1) := by decide +kernel
theorem zd_X7_map_42 : decode cX7_map 42 = .ok (.invokevirtual 81, 3) := by decide +kernel
theorem zd_X7_map_45 : decode cX7_map 45 = .ok (.ifCond .ne 10, 3) := by decide +kernel
theorem zd_X7_map_48 : decode cX7_map 48 = .ok (.aload_n 0, 1) := by decide +kernel
theorem zd_X7_map_49 : decode cX7_map 49 = .ok (.bipush (-2), 2) := by decide +kernel
theorem zd_X7_map_51 : decode cX7_map 51 = .ok (.invokevirtual 64, 3) := by decide +kernel
theorem zd_X7_map_54 : decode cX7_map 54 = .ok (.ireturn, 1) := by decide +kernel
theorem zd_X7_map_55 : decode cX7_map 55 = .ok (.aload_n 0, 1) := by decide +kernel
theorem zd_X7_map_56 : decode cX7_map 56 = .ok (.getfield 26, 3) := by decide +kernel
theorem zd_X7_map_59 : decode cX7_map 59 = .ok (.getfield 72, 3) := by decide +kernel
theorem zd_X7_map_62 : decode cX7_map 62 = .ok (.sipush 200, 3) := by decide +kernel
theorem zd_X7_map_65 : decode cX7_map 65 = .ok (.if_icmp .lt 10, 3) := by decide +kernel
theorem zd_X7_map_68 : decode cX7_map 68 = .ok (.aload_n 0, 1) := by decide +kernel
theorem zd_X7_map_69 : decode cX7_map 69 = .ok (.bipush (-5), 2) := by decide +kernel
theorem zd_X7_map_71 : decode cX7_map 71 = .ok (.invokevirtual 64, 3) := by decide +kernel
theorem zd_X7_map_74 : decode cX7_map 74 = .ok (.ireturn, 1) := by decide +kernel
theorem zd_X7_map_75 : decode cX7_map 75 = .ok (.aload_n 0, 1) := by decide +kernel
theorem zd_X7_map_76 : decode cX7_map 76 = .ok (.getfield 26, 3) := by decide +kernel
theorem zd_X7_map_79 : decode cX7_map 79 = .ok (.iload_n 1, 1) := by decide +kernel
theorem zd_X7_map_80 : decode cX7_map 80 = .ok (.iload_n 2, 1) := by decide +kernel
theorem zd_X7_map_81 : decode cX7_map 81 = .ok (.iload_n 3, 1) := by decide +kernel
theorem zd_X7_map_82 : decode cX7_map 82 = .ok (.invokestatic 92, 3) := by decide +kernel
theorem zd_X7_map_85 : decode cX7_map 85 = .ok (.iload 4, 2) := by decide +kernel
theorem zd_X7_map_87 : decode cX7_map 87 = .ok (.iload 5, 2) := by decide +kernel
theorem zd_X7_map_89 : decode cX7_map 89 = .ok (.invokevirtual 155, 3) := by decide +kernel
theorem zd_X7_map_92 : decode cX7_map 92 = .ok (.aload_n 0, 1) := by decide +kernel
theorem zd_X7_map_93 : decode cX7_map 93 = .ok (.aload_n 0, 1) := by decide +kernel
theorem zd_X7_map_94 : decode cX7_map 94 = .ok (.getfield 26, 3) := by decide +kernel
theorem zd_X7_map_97 : decode cX7_map 97 = .ok (.getfield 72, 3) := by decide +kernel
theorem zd_X7_map_100 : decode cX7_map 100 = .ok (.invokevirtual 78, 3) := by decide +kernel
theorem zd_X7_map_103 : decode cX7_map 103 = .ok (.ireturn, 1) := by decide +kernel
def zb_X7_map_30 (K : zKt) (J : Nat → zPP) : zPP := zT_ald 0 (zT_push (.int (-1)) (zT_V1 zok 7 9 zc_X7_refuse (zT_iret K)))
theorem zbs_X7_map_30 {X : zCt} (hR : zRX X = { frames := 2, cells := 0, slots := 0, locals := 42 }) (J : Nat → zPP) (hJ : ∀ h ∈ ([] : List Nat), zSd X RX7 "map" cX7_map 6 (some .int) h (J h)) : zSd X RX7 "map" cX7_map 6 (some .int) 30 (zb_X7_map_30 (zKX X) J) := zs_aload_n zd_X7_map_30 rfl (zs_iconst zd_X7_map_31 (by decide) (zs_V (ci := 7) rfl rfl (zm_X7_refuse _ _ _) gw_1_223 gw_1_220 gw_1_222 gw_0_0 gw_1_1 zdn_X7_refuse (zrm hR (by decide) (by decide)) zd_X7_map_32 (zCl_V1 zok_l) (zs_iret rfl zd_X7_map_35)))
def zb_X7_map_0 (K : zKt) (J : Nat → zPP) : zPP := zT_ild 1 (zT_push (.int 0) (zT_push (.int 30) (zT_S3 zok zc_X7_within (zT_if1 (fun x => x = 0) (zb_X7_map_30 K J) (zT_ild 4 (zT_push (.int 0) (zT_push (.int 200) (zT_S3 zok zc_X7_within (zT_if1 (fun x => x = 0) (zb_X7_map_30 K J) (zT_ild 5 (zT_S1 zok zc_X7_isDay (zT_if1 (fun x => x = 0) (zb_X7_map_30 K J) (zT_ald 0 (zT_getR 7 0 9 (zT_ild 2 (zT_ild 3 (zT_V2 zok 1 6 zc_X1_has (zT_if1 (fun x => x = 0) (zT_ald 0 (zT_push (.int (-2)) (zT_V1 zok 7 9 zc_X7_refuse (zT_iret K)))) (zT_ald 0 (zT_getR 7 2 9 (zT_getI 0 4 5 (zT_push (.int 200) (zT_if2 (fun x y => x < y) (zT_ald 0 (zT_getR 7 2 9 (zT_ild 1 (zT_ild 2 (zT_ild 3 (zT_S2 zok zc_X7_cellAt (zT_ild 4 (zT_ild 5 (zT_V4 zok 0 5 zc_X0_add (zT_ald 0 (zT_ald 0 (zT_getR 7 2 9 (zT_getI 0 4 5 (zT_V1 zok 7 9 zc_X7_accept (zT_iret K))))))))))))))) (zT_ald 0 (zT_push (.int (-5)) (zT_V1 zok 7 9 zc_X7_refuse (zT_iret K)))))))))))))))))))))))))))
theorem zbs_X7_map_0 {X : zCt} (hR : zRX X = { frames := 2, cells := 0, slots := 0, locals := 42 }) (J : Nat → zPP) (hJ : ∀ h ∈ ([] : List Nat), zSd X RX7 "map" cX7_map 6 (some .int) h (J h)) : zSd X RX7 "map" cX7_map 6 (some .int) 0 (zb_X7_map_0 (zKX X) J) := zs_iload_n zd_X7_map_0 rfl (zs_iconst zd_X7_map_1 (by decide) (zs_bipush zd_X7_map_2 (by decide) (zs_S (zm_X7_within _ _ _) gw_1_219 gw_1_217 gw_1_218 gw_1_1 zdn_X7_within (zrm hR (by decide) (by decide)) zd_X7_map_4 (zCl_S3 zok_l) (zs_if_eq (tgt := 30) zd_X7_map_7 (by decide) (zbs_X7_map_30 hR J hJ) (zs_iload zd_X7_map_10 (zs_iconst zd_X7_map_12 (by decide) (zs_sipush zd_X7_map_13 (by decide) (zs_S (zm_X7_within _ _ _) gw_1_219 gw_1_217 gw_1_218 gw_1_1 zdn_X7_within (zrm hR (by decide) (by decide)) zd_X7_map_16 (zCl_S3 zok_l) (zs_if_eq (tgt := 30) zd_X7_map_19 (by decide) (zbs_X7_map_30 hR J hJ) (zs_iload zd_X7_map_22 (zs_S (zm_X7_isDay _ _ _) gw_3_41 gw_3_39 gw_3_40 gw_1_1 zdn_X7_isDay (zrm hR (by decide) (by decide)) zd_X7_map_24 (zCl_S1 zok_l) (zs_if_ne (tgt := 36) zd_X7_map_27 (by decide) (zs_aload_n zd_X7_map_36 rfl (zs_getR (ci := 7) (j := 0) (T := TX7) rfl inX7 (by decide) gw_1_185 rfl zd_X7_map_37 (zs_iload_n zd_X7_map_40 rfl (zs_iload_n zd_X7_map_41 rfl (zs_V (ci := 1) rfl rfl (zm_X1_has _ _ _) gw_2_0 gw_1_237 gw_1_238 gw_1_239 gw_1_2 zdn_X1_has (zrm hR (by decide) (by decide)) zd_X7_map_42 (zCl_V2 zok_l) (zs_if_ne (tgt := 55) zd_X7_map_45 (by decide) (zs_aload_n zd_X7_map_55 rfl (zs_getR (ci := 7) (j := 2) (T := TX7) rfl inX7 (by decide) gw_1_187 rfl zd_X7_map_56 (zs_getI (ci := 0) (j := 4) (T := TX0) rfl inX0 (by decide) gw_1_93 rfl zd_X7_map_59 (zs_sipush zd_X7_map_62 (by decide) (zs_icmp_lt (tgt := 75) zd_X7_map_65 (by decide) (zs_aload_n zd_X7_map_75 rfl (zs_getR (ci := 7) (j := 2) (T := TX7) rfl inX7 (by decide) gw_1_187 rfl zd_X7_map_76 (zs_iload_n zd_X7_map_79 rfl (zs_iload_n zd_X7_map_80 rfl (zs_iload_n zd_X7_map_81 rfl (zs_S (zm_X7_cellAt _ _ _) gw_2_7 gw_2_16 gw_2_6 gw_1_1 zdn_X7_cellAt (zrm hR (by decide) (by decide)) zd_X7_map_82 (zCl_S2 zok_l) (zs_iload zd_X7_map_85 (zs_iload zd_X7_map_87 (zs_V (ci := 0) rfl rfl (zm_X0_add _ _ _) gw_3_45 gw_3_42 gw_3_43 gw_3_44 gw_1_4 zdn_X0_add (zrm hR (by decide) (by decide)) zd_X7_map_89 (zCl_V4 zok_l) (zs_aload_n zd_X7_map_92 rfl (zs_aload_n zd_X7_map_93 rfl (zs_getR (ci := 7) (j := 2) (T := TX7) rfl inX7 (by decide) gw_1_187 rfl zd_X7_map_94 (zs_getI (ci := 0) (j := 4) (T := TX0) rfl inX0 (by decide) gw_1_93 rfl zd_X7_map_97 (zs_V (ci := 7) rfl rfl (zm_X7_accept _ _ _) gw_1_232 gw_1_229 gw_1_231 gw_0_2 gw_1_1 zdn_X7_accept (zrm hR (by decide) (by decide)) zd_X7_map_100 (zCl_V1 zok_l) (zs_iret rfl zd_X7_map_103))))))))))))))) (zs_aload_n zd_X7_map_68 rfl (zs_bipush zd_X7_map_69 (by decide) (zs_V (ci := 7) rfl rfl (zm_X7_refuse _ _ _) gw_1_223 gw_1_220 gw_1_222 gw_0_0 gw_1_1 zdn_X7_refuse (zrm hR (by decide) (by decide)) zd_X7_map_71 (zCl_V1 zok_l) (zs_iret rfl zd_X7_map_74))))))))) (zs_aload_n zd_X7_map_48 rfl (zs_bipush zd_X7_map_49 (by decide) (zs_V (ci := 7) rfl rfl (zm_X7_refuse _ _ _) gw_1_223 gw_1_220 gw_1_222 gw_0_0 gw_1_1 zdn_X7_refuse (zrm hR (by decide) (by decide)) zd_X7_map_51 (zCl_V1 zok_l) (zs_iret rfl zd_X7_map_54)))))))))) (zbs_X7_map_30 hR J hJ)))))))))))))
theorem zdn_X7_map : yX7_map.cls ≠ "java/lang/invoke/MethodHandle" ∧ yX7_map.cls ≠ "java/lang/invoke/VarHandle" ∧ (parseMethodDescriptor yX7_map.desc).map (fun d => d.parameters.length) = some 5 := by decide +kernel
def zc_X7_map (a : List Value) (M : zMm) (K : zKt) : Prop := match a with
  | [.ref k, .int yr, .int x, .int y, .int g, .int d] => k = 0 ∧ ∃ F pk dk p, zXF M F pk dk p ∧ ∀ M', zXF M' (pMap yr x y g d F).2 pk dk p → K (some (.int (pMap yr x y g d F).1)) M'
  | _ => False
set_option maxHeartbeats 1000000 in
theorem zm_X7_map (l : Launch) (D : va_G) (Y : Nat → ClassId) : zMt l D Y yX7_map cX7_map 6 (some .int) 2 42 0 0 zc_X7_map := by
  refine zflat (by decide) (fun K J lc lz => zb_X7_map_0 K J) (fun X hR => zbs_X7_map_0 hR zJ0 zJ0_ok) (fun avs M K h => ?_)
  unfold zc_X7_map at h
  split at h
  · next k yr x y g d =>
    obtain ⟨rfl, F, pk, dk, p, hF, h⟩ := h
    have hF' := hF
    obtain ⟨hxi, hEn, hel, hTp, hft, hst⟩ := hF
    obtain ⟨a0, a1, a2, a3, a4, a5, a6, a7, a8, a9, a10, a11, a12, -⟩ := id hxi.1
    obtain ⟨-, ok, w1, w2, -⟩ := id hxi
    have en1 := hEn.1
    have en2 := hEn.2.1
    refine ⟨by simp [zent], ?_⟩
    have bad : ¬ ((0 ≤ yr ∧ yr ≤ 30) ∧ (0 ≤ g ∧ g ≤ 200) ∧ 0 ≤ d ∧ d ≤ 1000) → zb_X7_map_30 K zJ0 M [some (.ref 0), some (.int yr), some (.int x), some (.int y), some (.int g), some (.int d)] [] := by
      intro hb
      simp only [zb_X7_map_30, zsh_0, zT_push, zT_bin, zT_div, zT_bil, zT_shl, zT_un, zT_i2l, zT_l2i, zT_lcmp, zT_ild, zT_lld, zT_ald, zT_ist, zT_lst, zT_ast, zT_iinc, zT_dup, zT_dup2, zT_pop, zT_if1, zT_if2, zT_ifn, zT_getI, zT_getJ, zT_getR, zT_putI, zT_putZ, zT_putJ, zT_putR, zT_ald0, zT_lald, zT_aald, zT_iast, zT_zast, zT_bast, zT_last, zT_aast, zT_iret, zT_nret, zT_aret, zT_vret, zT_oi, zT_mm, zT_ialX, zT_S1, zT_S2, zT_S3, zT_V0, zT_V1, zT_V2, zT_V3, zT_V4, zT_V5, zT_V6, zT_I0, zT_I1, zT_I2, zlg, zlset, zlpr, zent, zok, va_rf, List.length_cons, List.length_nil, List.replicate, List.cons_append, List.nil_append, List.append_nil, Option.toList_some, Option.toList_none, Option.toList, Nat.reduceAdd, Nat.reduceSub, Nat.reduceLeDiff, Nat.zero_add, Nat.zero_le, true_and, and_true, Nat.le_refl, ge_iff_le, Nat.reduceEqDiff]
      unfold zc_X7_refuse
      dsimp only
      refine ⟨rfl, ?_⟩
      have h2 := h (zwI M 0 8 (-1))
      unfold pMap at h2
      rw [if_neg hb] at h2
      exact h2 (hF'.refuse _)
    simp only [zb_X7_map_0, zT_push, zT_bin, zT_div, zT_bil, zT_shl, zT_un, zT_i2l, zT_l2i, zT_lcmp, zT_ild, zT_lld, zT_ald, zT_ist, zT_lst, zT_ast, zT_iinc, zT_dup, zT_dup2, zT_pop, zT_if1, zT_if2, zT_ifn, zT_getI, zT_getJ, zT_getR, zT_putI, zT_putZ, zT_putJ, zT_putR, zT_ald0, zT_lald, zT_aald, zT_iast, zT_zast, zT_bast, zT_last, zT_aast, zT_iret, zT_nret, zT_aret, zT_vret, zT_oi, zT_mm, zT_ialX, zT_S1, zT_S2, zT_S3, zT_V0, zT_V1, zT_V2, zT_V3, zT_V4, zT_V5, zT_V6, zT_I0, zT_I1, zT_I2, zlg, zlset, zlpr, zent, zok, va_rf, List.length_cons, List.length_nil, List.replicate, List.cons_append, List.nil_append, List.append_nil, Option.toList_some, Option.toList_none, Option.toList, Nat.reduceAdd, Nat.reduceSub, Nat.reduceLeDiff, Nat.zero_add, Nat.zero_le, true_and, and_true, Nat.le_refl, ge_iff_le, Nat.reduceEqDiff]
    unfold zc_X7_within zc_X7_isDay
    dsimp only
    simp only [zbI_0, zsh_0, zsh_1, a0, zT_push, zT_bin, zT_div, zT_bil, zT_shl, zT_un, zT_i2l, zT_l2i, zT_lcmp, zT_ild, zT_lld, zT_ald, zT_ist, zT_lst, zT_ast, zT_iinc, zT_dup, zT_dup2, zT_pop, zT_if1, zT_if2, zT_ifn, zT_getI, zT_getJ, zT_getR, zT_putI, zT_putZ, zT_putJ, zT_putR, zT_ald0, zT_lald, zT_aald, zT_iast, zT_zast, zT_bast, zT_last, zT_aast, zT_iret, zT_nret, zT_aret, zT_vret, zT_oi, zT_mm, zT_ialX, zT_S1, zT_S2, zT_S3, zT_V0, zT_V1, zT_V2, zT_V3, zT_V4, zT_V5, zT_V6, zT_I0, zT_I1, zT_I2, zlg, zlset, zlpr, zent, zok, va_rf, List.length_cons, List.length_nil, List.replicate, List.cons_append, List.nil_append, List.append_nil, Option.toList_some, Option.toList_none, Option.toList, Nat.reduceAdd, Nat.reduceSub, Nat.reduceLeDiff, Nat.zero_add, Nat.zero_le, true_and, and_true, Nat.le_refl, ge_iff_le, Nat.reduceEqDiff]
    refine ⟨fun h1 => bad (fun z => h1 z.1), fun h1 => ⟨fun h2 => bad (fun z => h2 z.2.1), fun h2 => ⟨fun h3 => bad (fun z => h3 z.2.2), fun h3 => ?_⟩⟩⟩
    have c1 := Classical.not_not.mp h1
    have c2 := Classical.not_not.mp h2
    have c3 := Classical.not_not.mp h3
    unfold zc_X1_has
    dsimp only
    refine ⟨rfl, ?_⟩
    simp only [zbI_0, zsh_0, zsh_5, w1, w2, a2, en1, zT_push, zT_bin, zT_div, zT_bil, zT_shl, zT_un, zT_i2l, zT_l2i, zT_lcmp, zT_ild, zT_lld, zT_ald, zT_ist, zT_lst, zT_ast, zT_iinc, zT_dup, zT_dup2, zT_pop, zT_if1, zT_if2, zT_ifn, zT_getI, zT_getJ, zT_getR, zT_putI, zT_putZ, zT_putJ, zT_putR, zT_ald0, zT_lald, zT_aald, zT_iast, zT_zast, zT_bast, zT_last, zT_aast, zT_iret, zT_nret, zT_aret, zT_vret, zT_oi, zT_mm, zT_ialX, zT_S1, zT_S2, zT_S3, zT_V0, zT_V1, zT_V2, zT_V3, zT_V4, zT_V5, zT_V6, zT_I0, zT_I1, zT_I2, zlg, zlset, zlpr, zent, zok, va_rf, List.length_cons, List.length_nil, List.replicate, List.cons_append, List.nil_append, List.append_nil, Option.toList_some, Option.toList_none, Option.toList, Nat.reduceAdd, Nat.reduceSub, Nat.reduceLeDiff, Nat.zero_add, Nat.zero_le, true_and, and_true, Nat.le_refl, ge_iff_le, Nat.reduceEqDiff]
    refine ⟨fun h4 => ?_, fun h4 => ⟨fun h5 => ?_, fun h5 => ?_⟩⟩
    · unfold zc_X7_refuse
      dsimp only
      refine ⟨rfl, ?_⟩
      have h2 := h (zwI M 0 8 (-2))
      unfold pMap at h2
      rw [if_pos ⟨c1, c2, c3⟩, if_neg (fun z => h4 (pclD_t.mp z))] at h2
      exact h2 (hF'.refuse _)
    · have c4 : pcl F.1 x y := Classical.not_not.mp h4
      have c5 : F.2.1.length < 200 := (nI_ltI (b := 200) (by omega) (by decide)).mp h5
      obtain ⟨x1, x2, y1, y2, x3, y3⟩ := pcl_n ok c4
      obtain ⟨n1, n2⟩ := tn_nI (x := yr) (b := 30) c1.1 c1.2 (by decide)
      obtain ⟨g1, g2⟩ := tn_nI (x := g) (b := 200) c2.1 c2.2 (by decide)
      obtain ⟨d1, d2⟩ := tn_nI (x := d) (b := 1000) c3.1 c3.2 (by decide)
      have ec : y * 12 + x = nI (tn y * 12 + tn x) := by
        conv => lhs; rw [x1, y1]
        exact wcell
      unfold zc_X7_cellAt
      dsimp only
      simp only [zsh_0, zsh_5, a2, ec, zT_push, zT_bin, zT_div, zT_bil, zT_shl, zT_un, zT_i2l, zT_l2i, zT_lcmp, zT_ild, zT_lld, zT_ald, zT_ist, zT_lst, zT_ast, zT_iinc, zT_dup, zT_dup2, zT_pop, zT_if1, zT_if2, zT_ifn, zT_getI, zT_getJ, zT_getR, zT_putI, zT_putZ, zT_putJ, zT_putR, zT_ald0, zT_lald, zT_aald, zT_iast, zT_zast, zT_bast, zT_last, zT_aast, zT_iret, zT_nret, zT_aret, zT_vret, zT_oi, zT_mm, zT_ialX, zT_S1, zT_S2, zT_S3, zT_V0, zT_V1, zT_V2, zT_V3, zT_V4, zT_V5, zT_V6, zT_I0, zT_I1, zT_I2, zlg, zlset, zlpr, zent, zok, va_rf, List.length_cons, List.length_nil, List.replicate, List.cons_append, List.nil_append, List.append_nil, Option.toList_some, Option.toList_none, Option.toList, Nat.reduceAdd, Nat.reduceSub, Nat.reduceLeDiff, Nat.zero_add, Nat.zero_le, true_and, and_true, Nat.le_refl, ge_iff_le, Nat.reduceEqDiff]
      unfold zc_X0_add
      dsimp only
      refine ⟨rfl, ⟨a9, a10, a11, a12⟩, F.2.1, (tn yr, tn y * 12 + tn x, tn g, tn d), hEn, c5, ⟨n2, by show tn y * 12 + tn x < 120; omega, g2, d2⟩, n1, rfl, g1, d1, fun M2 hs2 hEn2 => ?_⟩
      have b2 : M2.2.2.2 0 2 = some 5 := by rw [hs2.R]; exact a2
      have hl : M2.2.1 5 4 = nI (F.2.1.length + 1) := by rw [hEn2.1, List.length_append, List.length_singleton]
      simp only [zsh_0, zsh_5, b2, hl, zT_push, zT_bin, zT_div, zT_bil, zT_shl, zT_un, zT_i2l, zT_l2i, zT_lcmp, zT_ild, zT_lld, zT_ald, zT_ist, zT_lst, zT_ast, zT_iinc, zT_dup, zT_dup2, zT_pop, zT_if1, zT_if2, zT_ifn, zT_getI, zT_getJ, zT_getR, zT_putI, zT_putZ, zT_putJ, zT_putR, zT_ald0, zT_lald, zT_aald, zT_iast, zT_zast, zT_bast, zT_last, zT_aast, zT_iret, zT_nret, zT_aret, zT_vret, zT_oi, zT_mm, zT_ialX, zT_S1, zT_S2, zT_S3, zT_V0, zT_V1, zT_V2, zT_V3, zT_V4, zT_V5, zT_V6, zT_I0, zT_I1, zT_I2, zlg, zlset, zlpr, zent, zok, va_rf, List.length_cons, List.length_nil, List.replicate, List.cons_append, List.nil_append, List.append_nil, Option.toList_some, Option.toList_none, Option.toList, Nat.reduceAdd, Nat.reduceSub, Nat.reduceLeDiff, Nat.zero_add, Nat.zero_le, true_and, and_true, Nat.le_refl, ge_iff_le, Nat.reduceEqDiff]
      unfold zc_X7_accept
      dsimp only
      refine ⟨rfl, ?_⟩
      have h2 := h (zwI M2 0 8 0)
      unfold pMap at h2
      rw [if_pos ⟨c1, c2, c3⟩, if_pos (pclD_t.mpr c4), if_pos c5] at h2
      have hs : zsm [0] M2 (zwI M2 0 8 0) := zsm.rf.w (by simp)
      refine h2 ⟨(hxi.mv hs2 (by simp)).mv hs (by simp), hEn2.to (fun k a b => hs.at (by simp; omega)), fun e he => ?_, (hTp.to (fun k a b => hs2.at (by simp; omega))).to (fun k a b => hs.at (by simp; omega)), ?_, ?_⟩
      · rcases List.mem_append.mp he with z | z
        · exact hel e z
        · rw [List.mem_singleton.mp z]
          exact ⟨by show (tn y * 12 + tn x) % 12 < sW F.1; omega, by show (tn y * 12 + tn x) / 12 < sH F.1; omega⟩
      · simp only [zwI_L, zwI_I, zwI_J, zwI_R, zwJ_L, zwJ_I, zwJ_J, zwJ_R, zwR_L, zwR_I, zwR_J, zwR_R, zw2_s, zw2_n, ne_eq, not_false_eq_true, reduceCtorEq, not_true_eq_false, Nat.reduceEqDiff]; rw [zup_n (by decide), hs2.at (by simp)]; exact hft
      · simp only [zwI_L, zwI_I, zwI_J, zwI_R, zwJ_L, zwJ_I, zwJ_J, zwJ_R, zwR_L, zwR_I, zwR_J, zwR_R, zw2_s, zw2_n, ne_eq, not_false_eq_true, reduceCtorEq, not_true_eq_false, Nat.reduceEqDiff]; rw [zup_s]
    · have c4 : pcl F.1 x y := Classical.not_not.mp h4
      have c5 : ¬ F.2.1.length < 200 := fun z => h5 ((nI_ltI (b := 200) (by omega) (by decide)).mpr z)
      unfold zc_X7_refuse
      dsimp only
      refine ⟨rfl, ?_⟩
      have h2 := h (zwI M 0 8 (-5))
      unfold pMap at h2
      rw [if_pos ⟨c1, c2, c3⟩, if_pos (pclD_t.mpr c4), if_neg c5] at h2
      exact h2 (hF'.refuse _)
  · exact h.elim
/-! count -/
def pCount (x : Int32) (F : wFS) : Int32 × wFS :=
  (if x = 0 then nI (sW F.1) else if x = 1 then nI (sH F.1) else if x = 2 then nI (sL F.1) else if x = 3 then nI (sF F.1) else if x = 4 then nI (sA F.1).length else if x = 5 then nI F.2.1.length else if x = 6 then nI F.2.2.1.length else -1, F)
def zc_X7_count (a : List Value) (M : zMm) (K : zKt) : Prop := match a with
  | [.ref k, .int x] => k = 0 ∧ ∃ F pk dk p, zXF M F pk dk p ∧ ∀ M', zXF M' (pCount x F).2 pk dk p → K (some (.int (pCount x F).1)) M'
  | _ => False
theorem tab_eq {x : Int32} {j : Nat} (hj : j < 100) (h : x.toInt = 0 + (j : Int)) : x = nI j := by
  apply Int32.toInt_inj.mp
  rw [h, nI_toInt (by omega)]
  omega
set_option maxHeartbeats 1000000 in
theorem zm_X7_count (l : Launch) (D : va_G) (Y : Nat → ClassId) : zMt l D Y yX7_count cX7_count 2 (some .int) 0 0 0 0 zc_X7_count := by
  refine zflat (by decide) (fun K J lc lz => zb_X7_count_0 K J) (fun X hR => zbs_X7_count_0 hR zJ0 zJ0_ok) (fun avs M K h => ?_)
  unfold zc_X7_count at h
  split at h
  · next k x =>
    obtain ⟨rfl, F, pk, dk, p, hF, h⟩ := h
    have h' := h M hF
    unfold pCount at h'
    dsimp only at h'
    obtain ⟨hxi, hEn, hel, hTp, hft, hst⟩ := hF
    obtain ⟨hxr, ok, w1, w2, w3, w4, w5, w6, hpl, -⟩ := id hxi
    obtain ⟨a0, a1, a2, a3, a4, a5, -⟩ := id hxr
    obtain ⟨p0, -⟩ := zpl_sh hpl.1
    have hal : M.2.1 pk 5 = nI (sA F.1).length := hpl.2.2.2.2.2.2.1
    refine ⟨by simp [zent], ?_⟩
    simp only [zb_X7_count_0, zT_tab, zent, List.map_cons, List.map_nil, List.cons_append, List.nil_append, List.length_cons, List.length_nil, List.replicate, List.getElem?_cons_zero, zT_ild, zT_push, zT_bin, zT_div, zT_bil, zT_shl, zT_un, zT_i2l, zT_l2i, zT_lcmp, zT_ild, zT_lld, zT_ald, zT_ist, zT_lst, zT_ast, zT_iinc, zT_dup, zT_dup2, zT_pop, zT_if1, zT_if2, zT_ifn, zT_getI, zT_getJ, zT_getR, zT_putI, zT_putZ, zT_putJ, zT_putR, zT_ald0, zT_lald, zT_aald, zT_iast, zT_zast, zT_bast, zT_last, zT_aast, zT_iret, zT_nret, zT_aret, zT_vret, zT_oi, zT_mm, zT_ialX, zT_S1, zT_S2, zT_S3, zT_V0, zT_V1, zT_V2, zT_V3, zT_V4, zT_V5, zT_V6, zT_I0, zT_I1, zT_I2, zlg, zlset, zlpr, zent, zok, va_rf, List.length_cons, List.length_nil, List.replicate, List.cons_append, List.nil_append, List.append_nil, Option.toList_some, Option.toList_none, Option.toList, Nat.reduceAdd, Nat.reduceSub, Nat.reduceLeDiff, Nat.zero_add, Nat.zero_le, true_and, and_true, Nat.le_refl, ge_iff_le, Nat.reduceEqDiff]
    refine ⟨fun j Q hQ hx => ?_, fun hx => ?_⟩
    · rcases j with _ | _ | _ | _ | _ | _ | _ | j
      · have e := tab_eq (by decide) hx
        subst e
        simp only [List.getElem?_cons_zero, Option.some.injEq] at hQ
        subst hQ
        simp only [zsh_0, zsh_1, a0, w1, zT_push, zT_bin, zT_div, zT_bil, zT_shl, zT_un, zT_i2l, zT_l2i, zT_lcmp, zT_ild, zT_lld, zT_ald, zT_ist, zT_lst, zT_ast, zT_iinc, zT_dup, zT_dup2, zT_pop, zT_if1, zT_if2, zT_ifn, zT_getI, zT_getJ, zT_getR, zT_putI, zT_putZ, zT_putJ, zT_putR, zT_ald0, zT_lald, zT_aald, zT_iast, zT_zast, zT_bast, zT_last, zT_aast, zT_iret, zT_nret, zT_aret, zT_vret, zT_oi, zT_mm, zT_ialX, zT_S1, zT_S2, zT_S3, zT_V0, zT_V1, zT_V2, zT_V3, zT_V4, zT_V5, zT_V6, zT_I0, zT_I1, zT_I2, zlg, zlset, zlpr, zent, zok, va_rf, List.length_cons, List.length_nil, List.replicate, List.cons_append, List.nil_append, List.append_nil, Option.toList_some, Option.toList_none, Option.toList, Nat.reduceAdd, Nat.reduceSub, Nat.reduceLeDiff, Nat.zero_add, Nat.zero_le, true_and, and_true, Nat.le_refl, ge_iff_le, Nat.reduceEqDiff]
        exact h'
      · have e := tab_eq (by decide) hx
        subst e
        simp only [List.getElem?_cons_zero, List.getElem?_cons_succ, Option.some.injEq] at hQ
        subst hQ
        simp only [zsh_0, zsh_1, a0, w2, zT_push, zT_bin, zT_div, zT_bil, zT_shl, zT_un, zT_i2l, zT_l2i, zT_lcmp, zT_ild, zT_lld, zT_ald, zT_ist, zT_lst, zT_ast, zT_iinc, zT_dup, zT_dup2, zT_pop, zT_if1, zT_if2, zT_ifn, zT_getI, zT_getJ, zT_getR, zT_putI, zT_putZ, zT_putJ, zT_putR, zT_ald0, zT_lald, zT_aald, zT_iast, zT_zast, zT_bast, zT_last, zT_aast, zT_iret, zT_nret, zT_aret, zT_vret, zT_oi, zT_mm, zT_ialX, zT_S1, zT_S2, zT_S3, zT_V0, zT_V1, zT_V2, zT_V3, zT_V4, zT_V5, zT_V6, zT_I0, zT_I1, zT_I2, zlg, zlset, zlpr, zent, zok, va_rf, List.length_cons, List.length_nil, List.replicate, List.cons_append, List.nil_append, List.append_nil, Option.toList_some, Option.toList_none, Option.toList, Nat.reduceAdd, Nat.reduceSub, Nat.reduceLeDiff, Nat.zero_add, Nat.zero_le, true_and, and_true, Nat.le_refl, ge_iff_le, Nat.reduceEqDiff]
        exact h'
      · have e := tab_eq (by decide) hx
        subst e
        simp only [List.getElem?_cons_zero, List.getElem?_cons_succ, Option.some.injEq] at hQ
        subst hQ
        simp only [zsh_0, zsh_1, a0, w5, zT_push, zT_bin, zT_div, zT_bil, zT_shl, zT_un, zT_i2l, zT_l2i, zT_lcmp, zT_ild, zT_lld, zT_ald, zT_ist, zT_lst, zT_ast, zT_iinc, zT_dup, zT_dup2, zT_pop, zT_if1, zT_if2, zT_ifn, zT_getI, zT_getJ, zT_getR, zT_putI, zT_putZ, zT_putJ, zT_putR, zT_ald0, zT_lald, zT_aald, zT_iast, zT_zast, zT_bast, zT_last, zT_aast, zT_iret, zT_nret, zT_aret, zT_vret, zT_oi, zT_mm, zT_ialX, zT_S1, zT_S2, zT_S3, zT_V0, zT_V1, zT_V2, zT_V3, zT_V4, zT_V5, zT_V6, zT_I0, zT_I1, zT_I2, zlg, zlset, zlpr, zent, zok, va_rf, List.length_cons, List.length_nil, List.replicate, List.cons_append, List.nil_append, List.append_nil, Option.toList_some, Option.toList_none, Option.toList, Nat.reduceAdd, Nat.reduceSub, Nat.reduceLeDiff, Nat.zero_add, Nat.zero_le, true_and, and_true, Nat.le_refl, ge_iff_le, Nat.reduceEqDiff]
        exact h'
      · have e := tab_eq (by decide) hx
        subst e
        simp only [List.getElem?_cons_zero, List.getElem?_cons_succ, Option.some.injEq] at hQ
        subst hQ
        simp only [zsh_0, zsh_1, a0, w4, zT_push, zT_bin, zT_div, zT_bil, zT_shl, zT_un, zT_i2l, zT_l2i, zT_lcmp, zT_ild, zT_lld, zT_ald, zT_ist, zT_lst, zT_ast, zT_iinc, zT_dup, zT_dup2, zT_pop, zT_if1, zT_if2, zT_ifn, zT_getI, zT_getJ, zT_getR, zT_putI, zT_putZ, zT_putJ, zT_putR, zT_ald0, zT_lald, zT_aald, zT_iast, zT_zast, zT_bast, zT_last, zT_aast, zT_iret, zT_nret, zT_aret, zT_vret, zT_oi, zT_mm, zT_ialX, zT_S1, zT_S2, zT_S3, zT_V0, zT_V1, zT_V2, zT_V3, zT_V4, zT_V5, zT_V6, zT_I0, zT_I1, zT_I2, zlg, zlset, zlpr, zent, zok, va_rf, List.length_cons, List.length_nil, List.replicate, List.cons_append, List.nil_append, List.append_nil, Option.toList_some, Option.toList_none, Option.toList, Nat.reduceAdd, Nat.reduceSub, Nat.reduceLeDiff, Nat.zero_add, Nat.zero_le, true_and, and_true, Nat.le_refl, ge_iff_le, Nat.reduceEqDiff]
        exact h'
      · have e := tab_eq (by decide) hx
        subst e
        simp only [List.getElem?_cons_zero, List.getElem?_cons_succ, Option.some.injEq] at hQ
        subst hQ
        simp only [zsh_0, p0, a5, hal, zT_push, zT_bin, zT_div, zT_bil, zT_shl, zT_un, zT_i2l, zT_l2i, zT_lcmp, zT_ild, zT_lld, zT_ald, zT_ist, zT_lst, zT_ast, zT_iinc, zT_dup, zT_dup2, zT_pop, zT_if1, zT_if2, zT_ifn, zT_getI, zT_getJ, zT_getR, zT_putI, zT_putZ, zT_putJ, zT_putR, zT_ald0, zT_lald, zT_aald, zT_iast, zT_zast, zT_bast, zT_last, zT_aast, zT_iret, zT_nret, zT_aret, zT_vret, zT_oi, zT_mm, zT_ialX, zT_S1, zT_S2, zT_S3, zT_V0, zT_V1, zT_V2, zT_V3, zT_V4, zT_V5, zT_V6, zT_I0, zT_I1, zT_I2, zlg, zlset, zlpr, zent, zok, va_rf, List.length_cons, List.length_nil, List.replicate, List.cons_append, List.nil_append, List.append_nil, Option.toList_some, Option.toList_none, Option.toList, Nat.reduceAdd, Nat.reduceSub, Nat.reduceLeDiff, Nat.zero_add, Nat.zero_le, true_and, and_true, Nat.le_refl, ge_iff_le, Nat.reduceEqDiff]
        exact h'
      · have e := tab_eq (by decide) hx
        subst e
        simp only [List.getElem?_cons_zero, List.getElem?_cons_succ, Option.some.injEq] at hQ
        subst hQ
        simp only [zsh_0, zsh_5, a2, hEn.1, zT_push, zT_bin, zT_div, zT_bil, zT_shl, zT_un, zT_i2l, zT_l2i, zT_lcmp, zT_ild, zT_lld, zT_ald, zT_ist, zT_lst, zT_ast, zT_iinc, zT_dup, zT_dup2, zT_pop, zT_if1, zT_if2, zT_ifn, zT_getI, zT_getJ, zT_getR, zT_putI, zT_putZ, zT_putJ, zT_putR, zT_ald0, zT_lald, zT_aald, zT_iast, zT_zast, zT_bast, zT_last, zT_aast, zT_iret, zT_nret, zT_aret, zT_vret, zT_oi, zT_mm, zT_ialX, zT_S1, zT_S2, zT_S3, zT_V0, zT_V1, zT_V2, zT_V3, zT_V4, zT_V5, zT_V6, zT_I0, zT_I1, zT_I2, zlg, zlset, zlpr, zent, zok, va_rf, List.length_cons, List.length_nil, List.replicate, List.cons_append, List.nil_append, List.append_nil, Option.toList_some, Option.toList_none, Option.toList, Nat.reduceAdd, Nat.reduceSub, Nat.reduceLeDiff, Nat.zero_add, Nat.zero_le, true_and, and_true, Nat.le_refl, ge_iff_le, Nat.reduceEqDiff]
        exact h'
      · have e := tab_eq (by decide) hx
        subst e
        simp only [List.getElem?_cons_zero, List.getElem?_cons_succ, Option.some.injEq] at hQ
        subst hQ
        simp only [zsh_0, zsh_3, a1, hTp.1, zT_push, zT_bin, zT_div, zT_bil, zT_shl, zT_un, zT_i2l, zT_l2i, zT_lcmp, zT_ild, zT_lld, zT_ald, zT_ist, zT_lst, zT_ast, zT_iinc, zT_dup, zT_dup2, zT_pop, zT_if1, zT_if2, zT_ifn, zT_getI, zT_getJ, zT_getR, zT_putI, zT_putZ, zT_putJ, zT_putR, zT_ald0, zT_lald, zT_aald, zT_iast, zT_zast, zT_bast, zT_last, zT_aast, zT_iret, zT_nret, zT_aret, zT_vret, zT_oi, zT_mm, zT_ialX, zT_S1, zT_S2, zT_S3, zT_V0, zT_V1, zT_V2, zT_V3, zT_V4, zT_V5, zT_V6, zT_I0, zT_I1, zT_I2, zlg, zlset, zlpr, zent, zok, va_rf, List.length_cons, List.length_nil, List.replicate, List.cons_append, List.nil_append, List.append_nil, Option.toList_some, Option.toList_none, Option.toList, Nat.reduceAdd, Nat.reduceSub, Nat.reduceLeDiff, Nat.zero_add, Nat.zero_le, true_and, and_true, Nat.le_refl, ge_iff_le, Nat.reduceEqDiff]
        exact h'
      · simp at hQ
    · have ne : ∀ j : Nat, j < 7 → x ≠ nI j := by
        intro j hj e
        subst e
        rw [nI_toInt (by omega)] at hx
        simp at hx
        omega
      rw [if_neg (show ¬ x = 0 from ne 0 (by decide)), if_neg (show ¬ x = 1 from ne 1 (by decide)), if_neg (show ¬ x = 2 from ne 2 (by decide)), if_neg (show ¬ x = 3 from ne 3 (by decide)), if_neg (show ¬ x = 4 from ne 4 (by decide)), if_neg (show ¬ x = 5 from ne 5 (by decide)), if_neg (show ¬ x = 6 from ne 6 (by decide))] at h'
      exact h'
  · exact h.elim
