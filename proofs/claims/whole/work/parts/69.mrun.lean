/-! DeltaRunsModel run -/
theorem zd_X8_run_0 : decode cX8_run 0 = .ok (.aload_n 0, 1) := by decide +kernel
theorem zd_X8_run_1 : decode cX8_run 1 = .ok (.invokevirtual 215, 3) := by decide +kernel
theorem zd_X8_run_4 : decode cX8_run 4 = .ok (.iconst 1, 1) := by decide +kernel
theorem zd_X8_run_5 : decode cX8_run 5 = .ok (.istore_n 3, 1) := by decide +kernel
theorem zd_X8_run_6 : decode cX8_run 6 = .ok (.iload_n 3, 1) := by decide +kernel
theorem zd_X8_run_7 : decode cX8_run 7 = .ok (.iload_n 2, 1) := by decide +kernel
theorem zd_X8_run_8 : decode cX8_run 8 = .ok (.if_icmp .gt 15, 3) := by decide +kernel
theorem zd_X8_run_11 : decode cX8_run 11 = .ok (.aload_n 0, 1) := by decide +kernel
theorem zd_X8_run_12 : decode cX8_run 12 = .ok (.iload_n 1, 1) := by decide +kernel
theorem zd_X8_run_13 : decode cX8_run 13 = .ok (.iload_n 3, 1) := by decide +kernel
theorem zd_X8_run_14 : decode cX8_run 14 = .ok (.invokevirtual 218, 3) := by decide +kernel
theorem zd_X8_run_17 : decode cX8_run 17 = .ok (.iinc 3 1, 3) := by decide +kernel
theorem zd_X8_run_20 : decode cX8_run 20 = .ok (.goto (-14), 3) := by decide +kernel
theorem zd_X8_run_23 : decode cX8_run 23 = .ok (.return_, 1) := by decide +kernel
def zb_X8_run_0 (K : zKt) (J : Nat → zPP) : zPP := zT_ald 0 (zT_V0 zok 8 38 zc_X8_begin (zT_push (.int 1) (zT_ist 3 (J 6))))
theorem zbs_X8_run_0 {X : zCt} (hR : zRX X = { frames := 5, cells := 0, slots := 0, locals := 126 }) (J : Nat → zPP) (hJ : ∀ h ∈ ([6] : List Nat), zSd X RX8 "run" cX8_run 4 none h (J h)) : zSd X RX8 "run" cX8_run 4 none 0 (zb_X8_run_0 (zKX X) J) := zs_aload_n zd_X8_run_0 rfl (zs_V (ci := 8) rfl rfl (zm_X8_begin _ _ _) gw_4_68 gw_4_65 gw_4_67 gw_0_32 gw_1_7 zdn_X8_begin (zrm hR (by decide) (by decide)) zd_X8_run_1 (zCl_V0 zok_l) (zs_iconst zd_X8_run_4 (by decide) (zs_istore_n zd_X8_run_5 rfl (by decide) (hJ 6 (by decide)))))
def zb_X8_run_6 (K : zKt) (J : Nat → zPP) : zPP := zT_ild 3 (zT_ild 2 (zT_if2 (fun x y => y < x) (zT_vret K) (zT_ald 0 (zT_ild 1 (zT_ild 3 (zT_V2 zok 8 38 zc_X8_year (zT_iinc 3 1 (J 6))))))))
theorem zbs_X8_run_6 {X : zCt} (hR : zRX X = { frames := 5, cells := 0, slots := 0, locals := 126 }) (J : Nat → zPP) (hJ : ∀ h ∈ ([6] : List Nat), zSd X RX8 "run" cX8_run 4 none h (J h)) : zSd X RX8 "run" cX8_run 4 none 6 (zb_X8_run_6 (zKX X) J) := zs_iload_n zd_X8_run_6 rfl (zs_iload_n zd_X8_run_7 rfl (zs_icmp_gt (tgt := 23) zd_X8_run_8 (by decide) (zs_vret rfl zd_X8_run_23) (zs_aload_n zd_X8_run_11 rfl (zs_iload_n zd_X8_run_12 rfl (zs_iload_n zd_X8_run_13 rfl (zs_V (ci := 8) rfl rfl (zm_X8_year _ _ _) gw_4_72 gw_4_69 gw_4_71 gw_0_33 gw_1_7 zdn_X8_year (zrm hR (by decide) (by decide)) zd_X8_run_14 (zCl_V2 zok_l) (zs_iinc zd_X8_run_17 (by decide) (by decide) (zs_goto (tgt := 6) zd_X8_run_20 (by decide) (hJ 6 (by decide))))))))))
def zB_X8_run (K : zKt) (J : Nat → zPP) (h : Nat) : zPP := if h = 6 then zb_X8_run_6 K J else (fun _ _ _ => False)
theorem zBs_X8_run {X : zCt} (hR : zRX X = { frames := 5, cells := 0, slots := 0, locals := 126 }) : ∀ J : Nat → zPP, (∀ h ∈ ([6] : List Nat), zSd X RX8 "run" cX8_run 4 none h (J h)) → ∀ h ∈ ([6] : List Nat), zSd X RX8 "run" cX8_run 4 none h (zB_X8_run (zKX X) J h) := by
  intro J hJ h hh
  unfold zB_X8_run
  simp only [List.mem_cons, List.not_mem_nil, or_false] at hh
  subst hh
  exact zbs_X8_run_6 hR J hJ
theorem zdn_X8_run : yX8_run.cls ≠ "java/lang/invoke/MethodHandle" ∧ yX8_run.cls ≠ "java/lang/invoke/VarHandle" ∧ (parseMethodDescriptor yX8_run.desc).map (fun d => d.parameters.length) = some 2 := by decide +kernel
def zc_X8_run (a : List Value) (M : zMm) (K : zKt) : Prop := match a with
  | [.ref k, .int r', .int y'] => k = 200 ∧ zMr M ∧ ∃ σ r n, zMS M σ ∧ r' = nI r ∧ r < 36 ∧ y' = nI n ∧ n ≤ 30 ∧ ∀ M', zsm [209, 210, 211, 212, 213, 214, 215] M M' → zmh M' (sW σ) (sH σ) (wHT σ r n) → (0 < n → zmg M' (sW σ) (sH σ) (wGT σ r (n - 1))) → K none M'
  | _ => False
set_option maxHeartbeats 1000000 in
theorem zm_X8_run (l : Launch) (D : va_G) (Y : Nat → ClassId) : zMt l D Y yX8_run cX8_run 4 none 5 126 0 0 zc_X8_run := by
  refine zwhile1 (h0 := 6) (by decide) (fun K J _ _ => zb_X8_run_0 K J) (fun K _ _ J => zb_X8_run_6 K J) (fun X hR J hJ => zbs_X8_run_0 hR J hJ) (fun X hR J hJ => zbs_X8_run_6 hR J hJ) (fun avs M K h => ?_)
  unfold zc_X8_run at h
  split at h
  · next k r' y' =>
    obtain ⟨rfl, g1, σ, r, n, g2, rfl, hr, rfl, hn, h⟩ := h
    obtain ⟨ok, -⟩ := id g2
    refine ⟨by simp [zent], fun q M' ls st => ∃ i, q = 40 - i ∧ i ≤ n ∧ ls = [some (.ref 200), some (.int (nI r)), some (.int (nI n)), some (.int (nI (i + 1)))] ∧ st = [] ∧ zsm [209, 210, 211, 212, 213, 214, 215] M M' ∧ zmh M' (sW σ) (sH σ) (wHD σ r i).1 ∧ zmd M' (sW σ) (sH σ) (wHD σ r i).2 ∧ (0 < i → zmg M' (sW σ) (sH σ) (wGT σ r (i - 1))), ?_, ?_⟩
    · rintro q J hJ M' ls st ⟨i, rfl, hi, rfl, rfl, hs, hh, hd, hg⟩
      simp only [zb_X8_run_6, zsh_200, zT_push, zT_bin, zT_div, zT_bil, zT_shl, zT_un, zT_i2l, zT_l2i, zT_lcmp, zT_ild, zT_lld, zT_ald, zT_ist, zT_lst, zT_ast, zT_iinc, zT_dup, zT_dup2, zT_pop, zT_if1, zT_if2, zT_ifn, zT_getI, zT_getJ, zT_getR, zT_putI, zT_putZ, zT_putJ, zT_putR, zT_ald0, zT_lald, zT_aald, zT_iast, zT_zast, zT_bast, zT_last, zT_aast, zT_iret, zT_nret, zT_aret, zT_vret, zT_oi, zT_mm, zT_ialX, zT_S1, zT_S2, zT_S3, zT_V0, zT_V1, zT_V2, zT_V3, zT_V4, zT_V5, zT_V6, zT_I0, zT_I1, zT_I2, zlg, zlset, zlpr, zent, zok, va_rf, List.length_cons, List.length_nil, List.replicate, List.cons_append, List.nil_append, List.append_nil, Option.toList_some, Option.toList_none, Option.toList, Nat.reduceAdd, Nat.reduceSub, Nat.reduceLeDiff, Nat.zero_add, Nat.zero_le, true_and, and_true, Nat.le_refl, ge_iff_le, Nat.reduceEqDiff]
      refine ⟨fun h1 => ?_, fun h1 => ?_⟩
      · have := (nI_ltI (by omega) (by omega)).mp h1
        have e : i = n := by omega
        subst e
        exact h M' hs hh hg
      · have hlt : i < n := by
          rcases Nat.lt_or_ge i n with z | z
          · exact z
          · exact absurd ((nI_ltI (by omega) (by omega)).mpr (by omega)) h1
        unfold zc_X8_year
        dsimp only
        refine ⟨rfl, g1.to hs, σ, r, i + 1, wHD σ r i, g2.to hs (by simp), rfl, hr, rfl, by omega, hh, hd, wHD_le ok r i, fun M2 hs2 hh2 hd2 hg2 => ?_⟩
        exact hJ (40 - (i + 1)) _ _ _ (by omega) ⟨i + 1, rfl, hlt, by rw [nI_1], rfl, hs.tr hs2, hh2, hd2, fun _ => hg2⟩
    · intro J hJ
      simp only [zb_X8_run_0, zsh_200, zT_push, zT_bin, zT_div, zT_bil, zT_shl, zT_un, zT_i2l, zT_l2i, zT_lcmp, zT_ild, zT_lld, zT_ald, zT_ist, zT_lst, zT_ast, zT_iinc, zT_dup, zT_dup2, zT_pop, zT_if1, zT_if2, zT_ifn, zT_getI, zT_getJ, zT_getR, zT_putI, zT_putZ, zT_putJ, zT_putR, zT_ald0, zT_lald, zT_aald, zT_iast, zT_zast, zT_bast, zT_last, zT_aast, zT_iret, zT_nret, zT_aret, zT_vret, zT_oi, zT_mm, zT_ialX, zT_S1, zT_S2, zT_S3, zT_V0, zT_V1, zT_V2, zT_V3, zT_V4, zT_V5, zT_V6, zT_I0, zT_I1, zT_I2, zlg, zlset, zlpr, zent, zok, va_rf, List.length_cons, List.length_nil, List.replicate, List.cons_append, List.nil_append, List.append_nil, Option.toList_some, Option.toList_none, Option.toList, Nat.reduceAdd, Nat.reduceSub, Nat.reduceLeDiff, Nat.zero_add, Nat.zero_le, true_and, and_true, Nat.le_refl, ge_iff_le, Nat.reduceEqDiff]
      unfold zc_X8_begin
      dsimp only
      refine ⟨rfl, g1, σ, g2, fun M2 hs2 hh2 hd2 hg2 => ?_⟩
      try simp only [zT_push, zT_bin, zT_div, zT_bil, zT_shl, zT_un, zT_i2l, zT_l2i, zT_lcmp, zT_ild, zT_lld, zT_ald, zT_ist, zT_lst, zT_ast, zT_iinc, zT_dup, zT_dup2, zT_pop, zT_if1, zT_if2, zT_ifn, zT_getI, zT_getJ, zT_getR, zT_putI, zT_putZ, zT_putJ, zT_putR, zT_ald0, zT_lald, zT_aald, zT_iast, zT_zast, zT_bast, zT_last, zT_aast, zT_iret, zT_nret, zT_aret, zT_vret, zT_oi, zT_mm, zT_ialX, zT_S1, zT_S2, zT_S3, zT_V0, zT_V1, zT_V2, zT_V3, zT_V4, zT_V5, zT_V6, zT_I0, zT_I1, zT_I2, zlg, zlset, zlpr, zent, zok, va_rf, List.length_cons, List.length_nil, List.replicate, List.cons_append, List.nil_append, List.append_nil, Option.toList_some, Option.toList_none, Option.toList, Nat.reduceAdd, Nat.reduceSub, Nat.reduceLeDiff, Nat.zero_add, Nat.zero_le, true_and, and_true, Nat.le_refl, ge_iff_le, Nat.reduceEqDiff]
      exact hJ 40 _ _ _ ⟨0, rfl, by omega, rfl, rfl, hs2.up (by simp), hh2, hd2, fun z => absurd z (Nat.lt_irrefl _)⟩
  · exact h.elim
/-! DeltaRunsModel height -/
theorem zd_X8_height_0 : decode cX8_height 0 = .ok (.aload_n 0, 1) := by decide +kernel
theorem zd_X8_height_1 : decode cX8_height 1 = .ok (.iconst 0, 1) := by decide +kernel
theorem zd_X8_height_2 : decode cX8_height 2 = .ok (.putfield 93, 3) := by decide +kernel
theorem zd_X8_height_5 : decode cX8_height 5 = .ok (.iload_n 1, 1) := by decide +kernel
theorem zd_X8_height_6 : decode cX8_height 6 = .ok (.invokestatic 224, 3) := by decide +kernel
theorem zd_X8_height_9 : decode cX8_height 9 = .ok (.ifCond .eq 20, 3) := by decide +kernel
theorem zd_X8_height_12 : decode cX8_height 12 = .ok (.iload_n 2, 1) := by decide +kernel
theorem zd_X8_height_13 : decode cX8_height 13 = .ok (.invokestatic 227, 3) := by decide +kernel
theorem zd_X8_height_16 : decode cX8_height 16 = .ok (.ifCond .eq 13, 3) := by decide +kernel
theorem zd_X8_height_19 : decode cX8_height 19 = .ok (.aload_n 0, 1) := by decide +kernel
theorem zd_X8_height_20 : decode cX8_height 20 = .ok (.iload_n 3, 1) := by decide +kernel
theorem zd_X8_height_21 : decode cX8_height 21 = .ok (.iload 4, 2) := by decide +kernel
theorem zd_X8_height_23 : decode cX8_height 23 = .ok (.invokevirtual 121, 3) := by decide +kernel
theorem zd_X8_height_26 : decode cX8_height 26 = .ok (.ifCond .ne 5, 3) := by decide +kernel
theorem zd_X8_height_29 : decode cX8_height 29 = .ok (.iconst (-1), 1) := by decide +kernel
theorem zd_X8_height_30 : decode cX8_height 30 = .ok (.ireturn, 1) := by decide +kernel
theorem zd_X8_height_31 : decode cX8_height 31 = .ok (.aload_n 0, 1) := by decide +kernel
theorem zd_X8_height_32 : decode cX8_height 32 = .ok (.iload_n 1, 1) := by decide +kernel
theorem zd_X8_height_33 : decode cX8_height 33 = .ok (.iload_n 2, 1) := by decide +kernel
theorem zd_X8_height_34 : decode cX8_height 34 = .ok (.invokevirtual 230, 3) := by decide +kernel
theorem zd_X8_height_37 : decode cX8_height 37 = .ok (.aload_n 0, 1) := by decide +kernel
theorem zd_X8_height_38 : decode cX8_height 38 = .ok (.getfield 50, 3) := by decide +kernel
theorem zd_X8_height_41 : decode cX8_height 41 = .ok (.iload 4, 2) := by decide +kernel
theorem zd_X8_height_43 : decode cX8_height 43 = .ok (.aload_n 0, 1) := by decide +kernel
theorem zd_X8_height_44 : decode cX8_height 44 = .ok (.getfield 7, 3) := by decide +kernel
theorem zd_X8_height_47 : decode cX8_height 47 = .ok (.imul, 1) := by decide +kernel
theorem zd_X8_height_48 : decode cX8_height 48 = .ok (.iload_n 3, 1) := by decide +kernel
theorem zd_X8_height_49 : decode cX8_height 49 = .ok (.iadd, 1) := by decide +kernel
theorem zd_X8_height_50 : decode cX8_height 50 = .ok (.iaload, 1) := by decide +kernel
theorem zd_X8_height_51 : decode cX8_height 51 = .ok (.ireturn, 1) := by decide +kernel
def zb_X8_height_29 (K : zKt) (J : Nat → zPP) : zPP := zT_push (.int (-1)) (zT_iret K)
theorem zbs_X8_height_29 {X : zCt} (hR : zRX X = { frames := 6, cells := 0, slots := 0, locals := 149 }) (J : Nat → zPP) (hJ : ∀ h ∈ ([] : List Nat), zSd X RX8 "height" cX8_height 5 (some .int) h (J h)) : zSd X RX8 "height" cX8_height 5 (some .int) 29 (zb_X8_height_29 (zKX X) J) := zs_iconst zd_X8_height_29 (by decide) (zs_iret rfl zd_X8_height_30)
def zb_X8_height_0 (K : zKt) (J : Nat → zPP) : zPP := zT_ald 0 (zT_push (.int 0) (zT_putI 8 0 38 (zT_ild 1 (zT_S1 zok zc_X8_isRule (zT_if1 (fun x => x = 0) (zb_X8_height_29 K J) (zT_ild 2 (zT_S1 zok zc_X8_isYear (zT_if1 (fun x => x = 0) (zb_X8_height_29 K J) (zT_ald 0 (zT_ild 3 (zT_ild 4 (zT_V2 zok 8 38 zc_X8_isCell (zT_if1 (fun x => x = 0) (zb_X8_height_29 K J) (zT_ald 0 (zT_ild 1 (zT_ild 2 (zT_V2 zok 8 38 zc_X8_run (zT_ald 0 (zT_getR 8 24 38 (zT_ild 4 (zT_ald 0 (zT_getI 8 2 38 (zT_bin (fun x y => x * y) (zT_ild 3 (zT_bin (fun x y => x + y) (zT_ald0 0 (zT_iret K)))))))))))))))))))))))))))
theorem zbs_X8_height_0 {X : zCt} (hR : zRX X = { frames := 6, cells := 0, slots := 0, locals := 149 }) (J : Nat → zPP) (hJ : ∀ h ∈ ([] : List Nat), zSd X RX8 "height" cX8_height 5 (some .int) h (J h)) : zSd X RX8 "height" cX8_height 5 (some .int) 0 (zb_X8_height_0 (zKX X) J) := zs_aload_n zd_X8_height_0 rfl (zs_iconst zd_X8_height_1 (by decide) (zs_putI (ci := 8) (j := 0) (T := TX8) rfl inX8 tyX8_ok nmX8 (by decide) gw_3_89 rfl rfl rfl zd_X8_height_2 (zs_iload_n zd_X8_height_5 rfl (zs_S (zm_X8_isRule _ _ _) gw_4_56 gw_4_54 gw_4_55 gw_1_7 zdn_X8_isRule (zrm hR (by decide) (by decide)) zd_X8_height_6 (zCl_S1 zok_l) (zs_if_eq (tgt := 29) zd_X8_height_9 (by decide) (zbs_X8_height_29 hR J hJ) (zs_iload_n zd_X8_height_12 rfl (zs_S (zm_X8_isYear _ _ _) gw_4_60 gw_4_58 gw_4_59 gw_1_7 zdn_X8_isYear (zrm hR (by decide) (by decide)) zd_X8_height_13 (zCl_S1 zok_l) (zs_if_eq (tgt := 29) zd_X8_height_16 (by decide) (zbs_X8_height_29 hR J hJ) (zs_aload_n zd_X8_height_19 rfl (zs_iload_n zd_X8_height_20 rfl (zs_iload zd_X8_height_21 (zs_V (ci := 8) rfl rfl (zm_X8_isCell _ _ _) gw_3_226 gw_3_223 gw_3_225 gw_0_24 gw_1_7 zdn_X8_isCell (zrm hR (by decide) (by decide)) zd_X8_height_23 (zCl_V2 zok_l) (zs_if_ne (tgt := 31) zd_X8_height_26 (by decide) (zs_aload_n zd_X8_height_31 rfl (zs_iload_n zd_X8_height_32 rfl (zs_iload_n zd_X8_height_33 rfl (zs_V (ci := 8) rfl rfl (zm_X8_run _ _ _) gw_4_64 gw_4_61 gw_4_63 gw_0_31 gw_1_7 zdn_X8_run (zrm hR (by decide) (by decide)) zd_X8_height_34 (zCl_V2 zok_l) (zs_aload_n zd_X8_height_37 rfl (zs_getR (ci := 8) (j := 24) (T := TX8) rfl inX8 (by decide) gw_3_113 rfl zd_X8_height_38 (zs_iload zd_X8_height_41 (zs_aload_n zd_X8_height_43 rfl (zs_getI (ci := 8) (j := 2) (T := TX8) rfl inX8 (by decide) gw_3_91 rfl zd_X8_height_44 (zs_imul zd_X8_height_47 (zs_iload_n zd_X8_height_48 rfl (zs_iadd zd_X8_height_49 (zs_iald zd_X8_height_50 (zs_iret rfl zd_X8_height_51)))))))))))))) (zbs_X8_height_29 hR J hJ))))))))))))))
theorem zdn_X8_height : yX8_height.cls ≠ "java/lang/invoke/MethodHandle" ∧ yX8_height.cls ≠ "java/lang/invoke/VarHandle" ∧ (parseMethodDescriptor yX8_height.desc).map (fun d => d.parameters.length) = some 4 := by decide +kernel
/-! DeltaRunsModel flow -/
theorem zd_X8_flow_0 : decode cX8_flow 0 = .ok (.aload_n 0, 1) := by decide +kernel
theorem zd_X8_flow_1 : decode cX8_flow 1 = .ok (.iconst 0, 1) := by decide +kernel
theorem zd_X8_flow_2 : decode cX8_flow 2 = .ok (.putfield 93, 3) := by decide +kernel
theorem zd_X8_flow_5 : decode cX8_flow 5 = .ok (.iload_n 1, 1) := by decide +kernel
theorem zd_X8_flow_6 : decode cX8_flow 6 = .ok (.invokestatic 224, 3) := by decide +kernel
theorem zd_X8_flow_9 : decode cX8_flow 9 = .ok (.ifCond .eq 24, 3) := by decide +kernel
theorem zd_X8_flow_12 : decode cX8_flow 12 = .ok (.iload_n 2, 1) := by decide +kernel
theorem zd_X8_flow_13 : decode cX8_flow 13 = .ok (.invokestatic 227, 3) := by decide +kernel
theorem zd_X8_flow_16 : decode cX8_flow 16 = .ok (.ifCond .eq 17, 3) := by decide +kernel
theorem zd_X8_flow_19 : decode cX8_flow 19 = .ok (.iload_n 2, 1) := by decide +kernel
theorem zd_X8_flow_20 : decode cX8_flow 20 = .ok (.ifCond .eq 13, 3) := by decide +kernel
theorem zd_X8_flow_23 : decode cX8_flow 23 = .ok (.aload_n 0, 1) := by decide +kernel
theorem zd_X8_flow_24 : decode cX8_flow 24 = .ok (.iload_n 3, 1) := by decide +kernel
theorem zd_X8_flow_25 : decode cX8_flow 25 = .ok (.iload 4, 2) := by decide +kernel
theorem zd_X8_flow_27 : decode cX8_flow 27 = .ok (.invokevirtual 121, 3) := by decide +kernel
theorem zd_X8_flow_30 : decode cX8_flow 30 = .ok (.ifCond .ne 5, 3) := by decide +kernel
theorem zd_X8_flow_33 : decode cX8_flow 33 = .ok (.iconst (-1), 1) := by decide +kernel
theorem zd_X8_flow_34 : decode cX8_flow 34 = .ok (.ireturn, 1) := by decide +kernel
theorem zd_X8_flow_35 : decode cX8_flow 35 = .ok (.aload_n 0, 1) := by decide +kernel
theorem zd_X8_flow_36 : decode cX8_flow 36 = .ok (.iload_n 1, 1) := by decide +kernel
theorem zd_X8_flow_37 : decode cX8_flow 37 = .ok (.iload_n 2, 1) := by decide +kernel
theorem zd_X8_flow_38 : decode cX8_flow 38 = .ok (.invokevirtual 230, 3) := by decide +kernel
theorem zd_X8_flow_41 : decode cX8_flow 41 = .ok (.aload_n 0, 1) := by decide +kernel
theorem zd_X8_flow_42 : decode cX8_flow 42 = .ok (.getfield 57, 3) := by decide +kernel
theorem zd_X8_flow_45 : decode cX8_flow 45 = .ok (.iload 4, 2) := by decide +kernel
theorem zd_X8_flow_47 : decode cX8_flow 47 = .ok (.aload_n 0, 1) := by decide +kernel
theorem zd_X8_flow_48 : decode cX8_flow 48 = .ok (.getfield 7, 3) := by decide +kernel
theorem zd_X8_flow_51 : decode cX8_flow 51 = .ok (.imul, 1) := by decide +kernel
theorem zd_X8_flow_52 : decode cX8_flow 52 = .ok (.iload_n 3, 1) := by decide +kernel
theorem zd_X8_flow_53 : decode cX8_flow 53 = .ok (.iadd, 1) := by decide +kernel
theorem zd_X8_flow_54 : decode cX8_flow 54 = .ok (.iaload, 1) := by decide +kernel
theorem zd_X8_flow_55 : decode cX8_flow 55 = .ok (.ireturn, 1) := by decide +kernel
def zb_X8_flow_33 (K : zKt) (J : Nat → zPP) : zPP := zT_push (.int (-1)) (zT_iret K)
theorem zbs_X8_flow_33 {X : zCt} (hR : zRX X = { frames := 6, cells := 0, slots := 0, locals := 149 }) (J : Nat → zPP) (hJ : ∀ h ∈ ([] : List Nat), zSd X RX8 "flow" cX8_flow 5 (some .int) h (J h)) : zSd X RX8 "flow" cX8_flow 5 (some .int) 33 (zb_X8_flow_33 (zKX X) J) := zs_iconst zd_X8_flow_33 (by decide) (zs_iret rfl zd_X8_flow_34)
def zb_X8_flow_0 (K : zKt) (J : Nat → zPP) : zPP := zT_ald 0 (zT_push (.int 0) (zT_putI 8 0 38 (zT_ild 1 (zT_S1 zok zc_X8_isRule (zT_if1 (fun x => x = 0) (zb_X8_flow_33 K J) (zT_ild 2 (zT_S1 zok zc_X8_isYear (zT_if1 (fun x => x = 0) (zb_X8_flow_33 K J) (zT_ild 2 (zT_if1 (fun x => x = 0) (zb_X8_flow_33 K J) (zT_ald 0 (zT_ild 3 (zT_ild 4 (zT_V2 zok 8 38 zc_X8_isCell (zT_if1 (fun x => x = 0) (zb_X8_flow_33 K J) (zT_ald 0 (zT_ild 1 (zT_ild 2 (zT_V2 zok 8 38 zc_X8_run (zT_ald 0 (zT_getR 8 26 38 (zT_ild 4 (zT_ald 0 (zT_getI 8 2 38 (zT_bin (fun x y => x * y) (zT_ild 3 (zT_bin (fun x y => x + y) (zT_ald0 0 (zT_iret K)))))))))))))))))))))))))))))
theorem zbs_X8_flow_0 {X : zCt} (hR : zRX X = { frames := 6, cells := 0, slots := 0, locals := 149 }) (J : Nat → zPP) (hJ : ∀ h ∈ ([] : List Nat), zSd X RX8 "flow" cX8_flow 5 (some .int) h (J h)) : zSd X RX8 "flow" cX8_flow 5 (some .int) 0 (zb_X8_flow_0 (zKX X) J) := zs_aload_n zd_X8_flow_0 rfl (zs_iconst zd_X8_flow_1 (by decide) (zs_putI (ci := 8) (j := 0) (T := TX8) rfl inX8 tyX8_ok nmX8 (by decide) gw_3_89 rfl rfl rfl zd_X8_flow_2 (zs_iload_n zd_X8_flow_5 rfl (zs_S (zm_X8_isRule _ _ _) gw_4_56 gw_4_54 gw_4_55 gw_1_7 zdn_X8_isRule (zrm hR (by decide) (by decide)) zd_X8_flow_6 (zCl_S1 zok_l) (zs_if_eq (tgt := 33) zd_X8_flow_9 (by decide) (zbs_X8_flow_33 hR J hJ) (zs_iload_n zd_X8_flow_12 rfl (zs_S (zm_X8_isYear _ _ _) gw_4_60 gw_4_58 gw_4_59 gw_1_7 zdn_X8_isYear (zrm hR (by decide) (by decide)) zd_X8_flow_13 (zCl_S1 zok_l) (zs_if_eq (tgt := 33) zd_X8_flow_16 (by decide) (zbs_X8_flow_33 hR J hJ) (zs_iload_n zd_X8_flow_19 rfl (zs_if_eq (tgt := 33) zd_X8_flow_20 (by decide) (zbs_X8_flow_33 hR J hJ) (zs_aload_n zd_X8_flow_23 rfl (zs_iload_n zd_X8_flow_24 rfl (zs_iload zd_X8_flow_25 (zs_V (ci := 8) rfl rfl (zm_X8_isCell _ _ _) gw_3_226 gw_3_223 gw_3_225 gw_0_24 gw_1_7 zdn_X8_isCell (zrm hR (by decide) (by decide)) zd_X8_flow_27 (zCl_V2 zok_l) (zs_if_ne (tgt := 35) zd_X8_flow_30 (by decide) (zs_aload_n zd_X8_flow_35 rfl (zs_iload_n zd_X8_flow_36 rfl (zs_iload_n zd_X8_flow_37 rfl (zs_V (ci := 8) rfl rfl (zm_X8_run _ _ _) gw_4_64 gw_4_61 gw_4_63 gw_0_31 gw_1_7 zdn_X8_run (zrm hR (by decide) (by decide)) zd_X8_flow_38 (zCl_V2 zok_l) (zs_aload_n zd_X8_flow_41 rfl (zs_getR (ci := 8) (j := 26) (T := TX8) rfl inX8 (by decide) gw_3_115 rfl zd_X8_flow_42 (zs_iload zd_X8_flow_45 (zs_aload_n zd_X8_flow_47 rfl (zs_getI (ci := 8) (j := 2) (T := TX8) rfl inX8 (by decide) gw_3_91 rfl zd_X8_flow_48 (zs_imul zd_X8_flow_51 (zs_iload_n zd_X8_flow_52 rfl (zs_iadd zd_X8_flow_53 (zs_iald zd_X8_flow_54 (zs_iret rfl zd_X8_flow_55)))))))))))))) (zbs_X8_flow_33 hR J hJ))))))))))))))))
theorem zdn_X8_flow : yX8_flow.cls ≠ "java/lang/invoke/MethodHandle" ∧ yX8_flow.cls ≠ "java/lang/invoke/VarHandle" ∧ (parseMethodDescriptor yX8_flow.desc).map (fun d => d.parameters.length) = some 4 := by decide +kernel
/-! DeltaRunsModel lake -/
theorem zd_X8_lake_0 : decode cX8_lake 0 = .ok (.aload_n 0, 1) := by decide +kernel
theorem zd_X8_lake_1 : decode cX8_lake 1 = .ok (.iconst 0, 1) := by decide +kernel
theorem zd_X8_lake_2 : decode cX8_lake 2 = .ok (.putfield 93, 3) := by decide +kernel
theorem zd_X8_lake_5 : decode cX8_lake 5 = .ok (.iload_n 1, 1) := by decide +kernel
theorem zd_X8_lake_6 : decode cX8_lake 6 = .ok (.invokestatic 224, 3) := by decide +kernel
theorem zd_X8_lake_9 : decode cX8_lake 9 = .ok (.ifCond .eq 10, 3) := by decide +kernel
theorem zd_X8_lake_12 : decode cX8_lake 12 = .ok (.iload_n 2, 1) := by decide +kernel
theorem zd_X8_lake_13 : decode cX8_lake 13 = .ok (.invokestatic 227, 3) := by decide +kernel
theorem zd_X8_lake_16 : decode cX8_lake 16 = .ok (.ifCond .ne 5, 3) := by decide +kernel
theorem zd_X8_lake_19 : decode cX8_lake 19 = .ok (.iconst (-1), 1) := by decide +kernel
theorem zd_X8_lake_20 : decode cX8_lake 20 = .ok (.ireturn, 1) := by decide +kernel
theorem zd_X8_lake_21 : decode cX8_lake 21 = .ok (.aload_n 0, 1) := by decide +kernel
theorem zd_X8_lake_22 : decode cX8_lake 22 = .ok (.iload_n 1, 1) := by decide +kernel
theorem zd_X8_lake_23 : decode cX8_lake 23 = .ok (.iload_n 2, 1) := by decide +kernel
theorem zd_X8_lake_24 : decode cX8_lake 24 = .ok (.invokevirtual 230, 3) := by decide +kernel
theorem zd_X8_lake_27 : decode cX8_lake 27 = .ok (.iconst 0, 1) := by decide +kernel
theorem zd_X8_lake_28 : decode cX8_lake 28 = .ok (.istore_n 3, 1) := by decide +kernel
theorem zd_X8_lake_29 : decode cX8_lake 29 = .ok (.iconst 0, 1) := by decide +kernel
theorem zd_X8_lake_30 : decode cX8_lake 30 = .ok (.istore 4, 2) := by decide +kernel
theorem zd_X8_lake_32 : decode cX8_lake 32 = .ok (.iload 4, 2) := by decide +kernel
theorem zd_X8_lake_34 : decode cX8_lake 34 = .ok (.aload_n 0, 1) := by decide +kernel
theorem zd_X8_lake_35 : decode cX8_lake 35 = .ok (.getfield 7, 3) := by decide +kernel
theorem zd_X8_lake_38 : decode cX8_lake 38 = .ok (.aload_n 0, 1) := by decide +kernel
theorem zd_X8_lake_39 : decode cX8_lake 39 = .ok (.getfield 13, 3) := by decide +kernel
theorem zd_X8_lake_42 : decode cX8_lake 42 = .ok (.imul, 1) := by decide +kernel
theorem zd_X8_lake_43 : decode cX8_lake 43 = .ok (.if_icmp .ge 31, 3) := by decide +kernel
theorem zd_X8_lake_46 : decode cX8_lake 46 = .ok (.iload_n 3, 1) := by decide +kernel
theorem zd_X8_lake_47 : decode cX8_lake 47 = .ok (.aload_n 0, 1) := by decide +kernel
theorem zd_X8_lake_48 : decode cX8_lake 48 = .ok (.getfield 50, 3) := by decide +kernel
theorem zd_X8_lake_51 : decode cX8_lake 51 = .ok (.iload 4, 2) := by decide +kernel
theorem zd_X8_lake_53 : decode cX8_lake 53 = .ok (.iaload, 1) := by decide +kernel
theorem zd_X8_lake_54 : decode cX8_lake 54 = .ok (.aload_n 0, 1) := by decide +kernel
theorem zd_X8_lake_55 : decode cX8_lake 55 = .ok (.getfield 16, 3) := by decide +kernel
theorem zd_X8_lake_58 : decode cX8_lake 58 = .ok (.if_icmp .ge 7, 3) := by decide +kernel
theorem zd_X8_lake_61 : decode cX8_lake 61 = .ok (.iconst 1, 1) := by decide +kernel
theorem zd_X8_lake_62 : decode cX8_lake 62 = .ok (.goto 4, 3) := by decide +kernel
theorem zd_X8_lake_65 : decode cX8_lake 65 = .ok (.iconst 0, 1) := by decide +kernel
theorem zd_X8_lake_66 : decode cX8_lake 66 = .ok (.iadd, 1) := by decide +kernel
theorem zd_X8_lake_67 : decode cX8_lake 67 = .ok (.istore_n 3, 1) := by decide +kernel
theorem zd_X8_lake_68 : decode cX8_lake 68 = .ok (.iinc 4 1, 3) := by decide +kernel
theorem zd_X8_lake_71 : decode cX8_lake 71 = .ok (.goto (-39), 3) := by decide +kernel
theorem zd_X8_lake_74 : decode cX8_lake 74 = .ok (.iload_n 3, 1) := by decide +kernel
theorem zd_X8_lake_75 : decode cX8_lake 75 = .ok (.ireturn, 1) := by decide +kernel
def zb_X8_lake_19 (K : zKt) (J : Nat → zPP) : zPP := zT_push (.int (-1)) (zT_iret K)
theorem zbs_X8_lake_19 {X : zCt} (hR : zRX X = { frames := 6, cells := 0, slots := 0, locals := 149 }) (J : Nat → zPP) (hJ : ∀ h ∈ ([32] : List Nat), zSd X RX8 "lake" cX8_lake 5 (some .int) h (J h)) : zSd X RX8 "lake" cX8_lake 5 (some .int) 19 (zb_X8_lake_19 (zKX X) J) := zs_iconst zd_X8_lake_19 (by decide) (zs_iret rfl zd_X8_lake_20)
def zb_X8_lake_0 (K : zKt) (J : Nat → zPP) : zPP := zT_ald 0 (zT_push (.int 0) (zT_putI 8 0 38 (zT_ild 1 (zT_S1 zok zc_X8_isRule (zT_if1 (fun x => x = 0) (zb_X8_lake_19 K J) (zT_ild 2 (zT_S1 zok zc_X8_isYear (zT_if1 (fun x => x = 0) (zb_X8_lake_19 K J) (zT_ald 0 (zT_ild 1 (zT_ild 2 (zT_V2 zok 8 38 zc_X8_run (zT_push (.int 0) (zT_ist 3 (zT_push (.int 0) (zT_ist 4 (J 32)))))))))))))))))
theorem zbs_X8_lake_0 {X : zCt} (hR : zRX X = { frames := 6, cells := 0, slots := 0, locals := 149 }) (J : Nat → zPP) (hJ : ∀ h ∈ ([32] : List Nat), zSd X RX8 "lake" cX8_lake 5 (some .int) h (J h)) : zSd X RX8 "lake" cX8_lake 5 (some .int) 0 (zb_X8_lake_0 (zKX X) J) := zs_aload_n zd_X8_lake_0 rfl (zs_iconst zd_X8_lake_1 (by decide) (zs_putI (ci := 8) (j := 0) (T := TX8) rfl inX8 tyX8_ok nmX8 (by decide) gw_3_89 rfl rfl rfl zd_X8_lake_2 (zs_iload_n zd_X8_lake_5 rfl (zs_S (zm_X8_isRule _ _ _) gw_4_56 gw_4_54 gw_4_55 gw_1_7 zdn_X8_isRule (zrm hR (by decide) (by decide)) zd_X8_lake_6 (zCl_S1 zok_l) (zs_if_eq (tgt := 19) zd_X8_lake_9 (by decide) (zbs_X8_lake_19 hR J hJ) (zs_iload_n zd_X8_lake_12 rfl (zs_S (zm_X8_isYear _ _ _) gw_4_60 gw_4_58 gw_4_59 gw_1_7 zdn_X8_isYear (zrm hR (by decide) (by decide)) zd_X8_lake_13 (zCl_S1 zok_l) (zs_if_ne (tgt := 21) zd_X8_lake_16 (by decide) (zs_aload_n zd_X8_lake_21 rfl (zs_iload_n zd_X8_lake_22 rfl (zs_iload_n zd_X8_lake_23 rfl (zs_V (ci := 8) rfl rfl (zm_X8_run _ _ _) gw_4_64 gw_4_61 gw_4_63 gw_0_31 gw_1_7 zdn_X8_run (zrm hR (by decide) (by decide)) zd_X8_lake_24 (zCl_V2 zok_l) (zs_iconst zd_X8_lake_27 (by decide) (zs_istore_n zd_X8_lake_28 rfl (by decide) (zs_iconst zd_X8_lake_29 (by decide) (zs_istore zd_X8_lake_30 (by decide) (hJ 32 (by decide)))))))))) (zbs_X8_lake_19 hR J hJ)))))))))
def zb_X8_lake_66 (K : zKt) (J : Nat → zPP) : zPP := zT_bin (fun x y => x + y) (zT_ist 3 (zT_iinc 4 1 (J 32)))
theorem zbs_X8_lake_66 {X : zCt} (hR : zRX X = { frames := 6, cells := 0, slots := 0, locals := 149 }) (J : Nat → zPP) (hJ : ∀ h ∈ ([32] : List Nat), zSd X RX8 "lake" cX8_lake 5 (some .int) h (J h)) : zSd X RX8 "lake" cX8_lake 5 (some .int) 66 (zb_X8_lake_66 (zKX X) J) := zs_iadd zd_X8_lake_66 (zs_istore_n zd_X8_lake_67 rfl (by decide) (zs_iinc zd_X8_lake_68 (by decide) (by decide) (zs_goto (tgt := 32) zd_X8_lake_71 (by decide) (hJ 32 (by decide)))))
def zb_X8_lake_32 (K : zKt) (J : Nat → zPP) : zPP := zT_ild 4 (zT_ald 0 (zT_getI 8 2 38 (zT_ald 0 (zT_getI 8 3 38 (zT_bin (fun x y => x * y) (zT_if2 (fun x y => y ≤ x) (zT_ild 3 (zT_iret K)) (zT_ild 3 (zT_ald 0 (zT_getR 8 24 38 (zT_ild 4 (zT_ald0 0 (zT_ald 0 (zT_getI 8 4 38 (zT_if2 (fun x y => y ≤ x) (zT_push (.int 0) (zb_X8_lake_66 K J)) (zT_push (.int 1) (zb_X8_lake_66 K J))))))))))))))))
theorem zbs_X8_lake_32 {X : zCt} (hR : zRX X = { frames := 6, cells := 0, slots := 0, locals := 149 }) (J : Nat → zPP) (hJ : ∀ h ∈ ([32] : List Nat), zSd X RX8 "lake" cX8_lake 5 (some .int) h (J h)) : zSd X RX8 "lake" cX8_lake 5 (some .int) 32 (zb_X8_lake_32 (zKX X) J) := zs_iload zd_X8_lake_32 (zs_aload_n zd_X8_lake_34 rfl (zs_getI (ci := 8) (j := 2) (T := TX8) rfl inX8 (by decide) gw_3_91 rfl zd_X8_lake_35 (zs_aload_n zd_X8_lake_38 rfl (zs_getI (ci := 8) (j := 3) (T := TX8) rfl inX8 (by decide) gw_3_92 rfl zd_X8_lake_39 (zs_imul zd_X8_lake_42 (zs_icmp_ge (tgt := 74) zd_X8_lake_43 (by decide) (zs_iload_n zd_X8_lake_74 rfl (zs_iret rfl zd_X8_lake_75)) (zs_iload_n zd_X8_lake_46 rfl (zs_aload_n zd_X8_lake_47 rfl (zs_getR (ci := 8) (j := 24) (T := TX8) rfl inX8 (by decide) gw_3_113 rfl zd_X8_lake_48 (zs_iload zd_X8_lake_51 (zs_iald zd_X8_lake_53 (zs_aload_n zd_X8_lake_54 rfl (zs_getI (ci := 8) (j := 4) (T := TX8) rfl inX8 (by decide) gw_3_93 rfl zd_X8_lake_55 (zs_icmp_ge (tgt := 65) zd_X8_lake_58 (by decide) (zs_iconst zd_X8_lake_65 (by decide) (zbs_X8_lake_66 hR J hJ)) (zs_iconst zd_X8_lake_61 (by decide) (zs_goto (tgt := 66) zd_X8_lake_62 (by decide) (zbs_X8_lake_66 hR J hJ)))))))))))))))))
def zB_X8_lake (K : zKt) (J : Nat → zPP) (h : Nat) : zPP := if h = 32 then zb_X8_lake_32 K J else (fun _ _ _ => False)
theorem zBs_X8_lake {X : zCt} (hR : zRX X = { frames := 6, cells := 0, slots := 0, locals := 149 }) : ∀ J : Nat → zPP, (∀ h ∈ ([32] : List Nat), zSd X RX8 "lake" cX8_lake 5 (some .int) h (J h)) → ∀ h ∈ ([32] : List Nat), zSd X RX8 "lake" cX8_lake 5 (some .int) h (zB_X8_lake (zKX X) J h) := by
  intro J hJ h hh
  unfold zB_X8_lake
  simp only [List.mem_cons, List.not_mem_nil, or_false] at hh
  subst hh
  exact zbs_X8_lake_32 hR J hJ
theorem zdn_X8_lake : yX8_lake.cls ≠ "java/lang/invoke/MethodHandle" ∧ yX8_lake.cls ≠ "java/lang/invoke/VarHandle" ∧ (parseMethodDescriptor yX8_lake.desc).map (fun d => d.parameters.length) = some 2 := by decide +kernel
theorem zMF.fl {M M' : zMm} {F : wFS} (h : zMF M F) {ks : List Nat} (hs : zsm ks M M') (hk : ∀ k ∈ ks, (209 ≤ k ∧ k ≤ 215) ∨ 220 ≤ k) : zMF M' F := h.to hs.R (fun j _ => by rw [hs.at (fun z => by have := hk _ z; omega)]) (fun k hk' => hs.at (fun z => by have := hk _ z; omega))
def zc_X8_height (a : List Value) (M : zMm) (K : zKt) : Prop := match a with
  | [.ref k, .int r, .int yr, .int x, .int y] => k = 200 ∧ ∃ F, zMF M F ∧ ∀ M', zMF M' (pHeight r yr x y F).2 → K (some (.int (pHeight r yr x y F).1)) M'
  | _ => False
set_option maxHeartbeats 1000000 in
theorem zm_X8_height (l : Launch) (D : va_G) (Y : Nat → ClassId) : zMt l D Y yX8_height cX8_height 5 (some .int) 6 149 0 0 zc_X8_height := by
  refine zflat (by decide) (fun K J lc lz => zb_X8_height_0 K J) (fun X hR => zbs_X8_height_0 hR zJ0 zJ0_ok) (fun avs M K h => ?_)
  unfold zc_X8_height at h
  split at h
  · next k r yr x y =>
    obtain ⟨rfl, F, hF, h⟩ := h
    have hF1 := hF.th
    refine ⟨by simp [zent], ?_⟩
    simp only [zb_X8_height_0, zsh_200, zT_push, zT_bin, zT_div, zT_bil, zT_shl, zT_un, zT_i2l, zT_l2i, zT_lcmp, zT_ild, zT_lld, zT_ald, zT_ist, zT_lst, zT_ast, zT_iinc, zT_dup, zT_dup2, zT_pop, zT_if1, zT_if2, zT_ifn, zT_getI, zT_getJ, zT_getR, zT_putI, zT_putZ, zT_putJ, zT_putR, zT_ald0, zT_lald, zT_aald, zT_iast, zT_zast, zT_bast, zT_last, zT_aast, zT_iret, zT_nret, zT_aret, zT_vret, zT_oi, zT_mm, zT_ialX, zT_S1, zT_S2, zT_S3, zT_V0, zT_V1, zT_V2, zT_V3, zT_V4, zT_V5, zT_V6, zT_I0, zT_I1, zT_I2, zlg, zlset, zlpr, zent, zok, va_rf, List.length_cons, List.length_nil, List.replicate, List.cons_append, List.nil_append, List.append_nil, Option.toList_some, Option.toList_none, Option.toList, Nat.reduceAdd, Nat.reduceSub, Nat.reduceLeDiff, Nat.zero_add, Nat.zero_le, true_and, and_true, Nat.le_refl, ge_iff_le, Nat.reduceEqDiff]
    generalize zwI M 200 0 0 = M1 at hF1 ⊢
    obtain ⟨g1, g2, g3, g4, g5, g6⟩ := id hF1
    obtain ⟨ok, w1, w2, w3, w4, w5, w6, w7⟩ := id g2
    obtain ⟨k1, k2, k3, k4, k5, k6, k7, k8, k9⟩ := id ok
    obtain ⟨r7, -, -, -, -, -, -, -, r24, r25, r26, -⟩ := id g1
    have bad : ¬ ((0 ≤ r ∧ r ≤ 35) ∧ (0 ≤ yr ∧ yr ≤ 30) ∧ pclD F.1 x y = true) → zb_X8_height_29 K zJ0 M1 [some (.ref 200), some (.int r), some (.int yr), some (.int x), some (.int y)] [] := by
      intro hb
      simp only [zb_X8_height_29, zT_push, zT_bin, zT_div, zT_bil, zT_shl, zT_un, zT_i2l, zT_l2i, zT_lcmp, zT_ild, zT_lld, zT_ald, zT_ist, zT_lst, zT_ast, zT_iinc, zT_dup, zT_dup2, zT_pop, zT_if1, zT_if2, zT_ifn, zT_getI, zT_getJ, zT_getR, zT_putI, zT_putZ, zT_putJ, zT_putR, zT_ald0, zT_lald, zT_aald, zT_iast, zT_zast, zT_bast, zT_last, zT_aast, zT_iret, zT_nret, zT_aret, zT_vret, zT_oi, zT_mm, zT_ialX, zT_S1, zT_S2, zT_S3, zT_V0, zT_V1, zT_V2, zT_V3, zT_V4, zT_V5, zT_V6, zT_I0, zT_I1, zT_I2, zlg, zlset, zlpr, zent, zok, va_rf, List.length_cons, List.length_nil, List.replicate, List.cons_append, List.nil_append, List.append_nil, Option.toList_some, Option.toList_none, Option.toList, Nat.reduceAdd, Nat.reduceSub, Nat.reduceLeDiff, Nat.zero_add, Nat.zero_le, true_and, and_true, Nat.le_refl, ge_iff_le, Nat.reduceEqDiff]
      unfold pHeight at h
      rw [if_neg hb] at h
      exact h M1 hF1
    unfold zc_X8_isRule zc_X8_isYear zc_X8_isCell
    simp only [zbI_0, zsh_200, zT_push, zT_bin, zT_div, zT_bil, zT_shl, zT_un, zT_i2l, zT_l2i, zT_lcmp, zT_ild, zT_lld, zT_ald, zT_ist, zT_lst, zT_ast, zT_iinc, zT_dup, zT_dup2, zT_pop, zT_if1, zT_if2, zT_ifn, zT_getI, zT_getJ, zT_getR, zT_putI, zT_putZ, zT_putJ, zT_putR, zT_ald0, zT_lald, zT_aald, zT_iast, zT_zast, zT_bast, zT_last, zT_aast, zT_iret, zT_nret, zT_aret, zT_vret, zT_oi, zT_mm, zT_ialX, zT_S1, zT_S2, zT_S3, zT_V0, zT_V1, zT_V2, zT_V3, zT_V4, zT_V5, zT_V6, zT_I0, zT_I1, zT_I2, zlg, zlset, zlpr, zent, zok, va_rf, List.length_cons, List.length_nil, List.replicate, List.cons_append, List.nil_append, List.append_nil, Option.toList_some, Option.toList_none, Option.toList, Nat.reduceAdd, Nat.reduceSub, Nat.reduceLeDiff, Nat.zero_add, Nat.zero_le, true_and, and_true, Nat.le_refl, ge_iff_le, Nat.reduceEqDiff]
    refine ⟨fun h1 => bad (fun z => h1 z.1), fun h1 => ⟨fun h2 => bad (fun z => h2 z.2.1), fun h2 => ⟨sW F.1, sH F.1, w1, w2, by omega, k2, by omega, k4, ?_⟩⟩⟩
    refine ⟨fun h3 => bad (fun z => h3 (pclD_t.mp z.2.2)), fun h3 => ?_⟩
    have c1 := Classical.not_not.mp h1
    have c2 := Classical.not_not.mp h2
    have c3 : pcl F.1 x y := Classical.not_not.mp h3
    obtain ⟨a1, a2⟩ := tn_nI (x := r) (b := 35) c1.1 c1.2 (by decide)
    obtain ⟨b1, b2⟩ := tn_nI (x := yr) (b := 30) c2.1 c2.2 (by decide)
    obtain ⟨x1, x2, y1, y2, x3, y3⟩ := pcl_n ok c3
    unfold pHeight at h
    rw [if_pos ⟨c1, c2, pclD_t.mpr c3⟩] at h
    unfold zc_X8_run
    dsimp only
    refine ⟨rfl, g1, F.1, tn r, tn yr, g2, a1, by omega, b1, b2, fun M2 hs2 hh2 hg2 => ?_⟩
    have eR := hs2.R
    have e0 : M2.2.1 200 = M1.2.1 200 := hs2.at (by simp)
    have hwil : wil (sW F.1) (sH F.1) (tn y * 12 + tn x) := ⟨by omega, by omega⟩
    have hmx := mI_xy (w := sW F.1) (x := tn x) (y := tn y) x3
    have hlt := mI_120 k2 k4 hwil
    have hc := (hh2 _ hwil).1
    rw [hmx] at hlt hc
    simp only [zsh_200, zsh_209, eR, r24, e0, w1, zT_push, zT_bin, zT_div, zT_bil, zT_shl, zT_un, zT_i2l, zT_l2i, zT_lcmp, zT_ild, zT_lld, zT_ald, zT_ist, zT_lst, zT_ast, zT_iinc, zT_dup, zT_dup2, zT_pop, zT_if1, zT_if2, zT_ifn, zT_getI, zT_getJ, zT_getR, zT_putI, zT_putZ, zT_putJ, zT_putR, zT_ald0, zT_lald, zT_aald, zT_iast, zT_zast, zT_bast, zT_last, zT_aast, zT_iret, zT_nret, zT_aret, zT_vret, zT_oi, zT_mm, zT_ialX, zT_S1, zT_S2, zT_S3, zT_V0, zT_V1, zT_V2, zT_V3, zT_V4, zT_V5, zT_V6, zT_I0, zT_I1, zT_I2, zlg, zlset, zlpr, zent, zok, va_rf, List.length_cons, List.length_nil, List.replicate, List.cons_append, List.nil_append, List.append_nil, Option.toList_some, Option.toList_none, Option.toList, Nat.reduceAdd, Nat.reduceSub, Nat.reduceLeDiff, Nat.zero_add, Nat.zero_le, true_and, and_true, Nat.le_refl, ge_iff_le, Nat.reduceEqDiff]
    rw [y1, x1, pk_mul, nI_add, nI_clamp (by omega), hc]
    exact ⟨vp_in_nI hlt (by decide), h M2 (hF1.fl hs2 (by simp))⟩
  · exact h.elim
def zc_X8_flow (a : List Value) (M : zMm) (K : zKt) : Prop := match a with
  | [.ref k, .int r, .int yr, .int x, .int y] => k = 200 ∧ ∃ F, zMF M F ∧ ∀ M', zMF M' (pFlow r yr x y F).2 → K (some (.int (pFlow r yr x y F).1)) M'
  | _ => False
set_option maxHeartbeats 1000000 in
theorem zm_X8_flow (l : Launch) (D : va_G) (Y : Nat → ClassId) : zMt l D Y yX8_flow cX8_flow 5 (some .int) 6 149 0 0 zc_X8_flow := by
  refine zflat (by decide) (fun K J lc lz => zb_X8_flow_0 K J) (fun X hR => zbs_X8_flow_0 hR zJ0 zJ0_ok) (fun avs M K h => ?_)
  unfold zc_X8_flow at h
  split at h
  · next k r yr x y =>
    obtain ⟨rfl, F, hF, h⟩ := h
    have hF1 := hF.th
    refine ⟨by simp [zent], ?_⟩
    simp only [zb_X8_flow_0, zsh_200, zT_push, zT_bin, zT_div, zT_bil, zT_shl, zT_un, zT_i2l, zT_l2i, zT_lcmp, zT_ild, zT_lld, zT_ald, zT_ist, zT_lst, zT_ast, zT_iinc, zT_dup, zT_dup2, zT_pop, zT_if1, zT_if2, zT_ifn, zT_getI, zT_getJ, zT_getR, zT_putI, zT_putZ, zT_putJ, zT_putR, zT_ald0, zT_lald, zT_aald, zT_iast, zT_zast, zT_bast, zT_last, zT_aast, zT_iret, zT_nret, zT_aret, zT_vret, zT_oi, zT_mm, zT_ialX, zT_S1, zT_S2, zT_S3, zT_V0, zT_V1, zT_V2, zT_V3, zT_V4, zT_V5, zT_V6, zT_I0, zT_I1, zT_I2, zlg, zlset, zlpr, zent, zok, va_rf, List.length_cons, List.length_nil, List.replicate, List.cons_append, List.nil_append, List.append_nil, Option.toList_some, Option.toList_none, Option.toList, Nat.reduceAdd, Nat.reduceSub, Nat.reduceLeDiff, Nat.zero_add, Nat.zero_le, true_and, and_true, Nat.le_refl, ge_iff_le, Nat.reduceEqDiff]
    generalize zwI M 200 0 0 = M1 at hF1 ⊢
    obtain ⟨g1, g2, g3, g4, g5, g6⟩ := id hF1
    obtain ⟨ok, w1, w2, w3, w4, w5, w6, w7⟩ := id g2
    obtain ⟨k1, k2, k3, k4, k5, k6, k7, k8, k9⟩ := id ok
    obtain ⟨r7, -, -, -, -, -, -, -, r24, r25, r26, -⟩ := id g1
    have bad : ¬ ((0 ≤ r ∧ r ≤ 35) ∧ (1 ≤ yr ∧ yr ≤ 30) ∧ pclD F.1 x y = true) → zb_X8_flow_33 K zJ0 M1 [some (.ref 200), some (.int r), some (.int yr), some (.int x), some (.int y)] [] := by
      intro hb
      simp only [zb_X8_flow_33, zT_push, zT_bin, zT_div, zT_bil, zT_shl, zT_un, zT_i2l, zT_l2i, zT_lcmp, zT_ild, zT_lld, zT_ald, zT_ist, zT_lst, zT_ast, zT_iinc, zT_dup, zT_dup2, zT_pop, zT_if1, zT_if2, zT_ifn, zT_getI, zT_getJ, zT_getR, zT_putI, zT_putZ, zT_putJ, zT_putR, zT_ald0, zT_lald, zT_aald, zT_iast, zT_zast, zT_bast, zT_last, zT_aast, zT_iret, zT_nret, zT_aret, zT_vret, zT_oi, zT_mm, zT_ialX, zT_S1, zT_S2, zT_S3, zT_V0, zT_V1, zT_V2, zT_V3, zT_V4, zT_V5, zT_V6, zT_I0, zT_I1, zT_I2, zlg, zlset, zlpr, zent, zok, va_rf, List.length_cons, List.length_nil, List.replicate, List.cons_append, List.nil_append, List.append_nil, Option.toList_some, Option.toList_none, Option.toList, Nat.reduceAdd, Nat.reduceSub, Nat.reduceLeDiff, Nat.zero_add, Nat.zero_le, true_and, and_true, Nat.le_refl, ge_iff_le, Nat.reduceEqDiff]
      unfold pFlow at h
      rw [if_neg hb] at h
      exact h M1 hF1
    have h01 : ∀ z : Int32, 1 ≤ z → 0 ≤ z := fun z q => Int32.le_trans (by decide) q
    unfold zc_X8_isRule zc_X8_isYear zc_X8_isCell
    simp only [zbI_0, zsh_200, zT_push, zT_bin, zT_div, zT_bil, zT_shl, zT_un, zT_i2l, zT_l2i, zT_lcmp, zT_ild, zT_lld, zT_ald, zT_ist, zT_lst, zT_ast, zT_iinc, zT_dup, zT_dup2, zT_pop, zT_if1, zT_if2, zT_ifn, zT_getI, zT_getJ, zT_getR, zT_putI, zT_putZ, zT_putJ, zT_putR, zT_ald0, zT_lald, zT_aald, zT_iast, zT_zast, zT_bast, zT_last, zT_aast, zT_iret, zT_nret, zT_aret, zT_vret, zT_oi, zT_mm, zT_ialX, zT_S1, zT_S2, zT_S3, zT_V0, zT_V1, zT_V2, zT_V3, zT_V4, zT_V5, zT_V6, zT_I0, zT_I1, zT_I2, zlg, zlset, zlpr, zent, zok, va_rf, List.length_cons, List.length_nil, List.replicate, List.cons_append, List.nil_append, List.append_nil, Option.toList_some, Option.toList_none, Option.toList, Nat.reduceAdd, Nat.reduceSub, Nat.reduceLeDiff, Nat.zero_add, Nat.zero_le, true_and, and_true, Nat.le_refl, ge_iff_le, Nat.reduceEqDiff]
    refine ⟨fun h1 => bad (fun z => h1 z.1), fun h1 => ⟨fun h2 => bad (fun z => h2 ⟨h01 _ z.2.1.1, z.2.1.2⟩), fun h2 => ⟨fun h4 => bad (fun z => absurd (h4 ▸ z.2.1.1) (by decide)), fun h4 => ⟨sW F.1, sH F.1, w1, w2, by omega, k2, by omega, k4, ?_⟩⟩⟩⟩
    refine ⟨fun h3 => bad (fun z => h3 (pclD_t.mp z.2.2)), fun h3 => ?_⟩
    have c1 := Classical.not_not.mp h1
    have c2 := Classical.not_not.mp h2
    have c3 : pcl F.1 x y := Classical.not_not.mp h3
    obtain ⟨a1, a2⟩ := tn_nI (x := r) (b := 35) c1.1 c1.2 (by decide)
    obtain ⟨b1, b2⟩ := tn_nI (x := yr) (b := 30) c2.1 c2.2 (by decide)
    obtain ⟨x1, x2, y1, y2, x3, y3⟩ := pcl_n ok c3
    have hpos : 0 < tn yr := by
      rcases Nat.eq_zero_or_pos (tn yr) with z | z
      · rw [z] at b1
        exact absurd b1 h4
      · exact z
    have c5 : 1 ≤ yr := by
      rw [b1]
      exact (nI_leI (a := 1) (by decide) (by omega)).mpr hpos
    unfold pFlow at h
    rw [if_pos ⟨c1, ⟨c5, c2.2⟩, pclD_t.mpr c3⟩] at h
    unfold zc_X8_run
    dsimp only
    refine ⟨rfl, g1, F.1, tn r, tn yr, g2, a1, by omega, b1, b2, fun M2 hs2 hh2 hg2 => ?_⟩
    have eR := hs2.R
    have e0 : M2.2.1 200 = M1.2.1 200 := hs2.at (by simp)
    have hwil : wil (sW F.1) (sH F.1) (tn y * 12 + tn x) := ⟨by omega, by omega⟩
    have hmx := mI_xy (w := sW F.1) (x := tn x) (y := tn y) x3
    have hlt := mI_120 k2 k4 hwil
    have hc := hg2 hpos _ hwil
    rw [hmx] at hlt hc
    simp only [zsh_200, zsh_211, eR, r26, e0, w1, zT_push, zT_bin, zT_div, zT_bil, zT_shl, zT_un, zT_i2l, zT_l2i, zT_lcmp, zT_ild, zT_lld, zT_ald, zT_ist, zT_lst, zT_ast, zT_iinc, zT_dup, zT_dup2, zT_pop, zT_if1, zT_if2, zT_ifn, zT_getI, zT_getJ, zT_getR, zT_putI, zT_putZ, zT_putJ, zT_putR, zT_ald0, zT_lald, zT_aald, zT_iast, zT_zast, zT_bast, zT_last, zT_aast, zT_iret, zT_nret, zT_aret, zT_vret, zT_oi, zT_mm, zT_ialX, zT_S1, zT_S2, zT_S3, zT_V0, zT_V1, zT_V2, zT_V3, zT_V4, zT_V5, zT_V6, zT_I0, zT_I1, zT_I2, zlg, zlset, zlpr, zent, zok, va_rf, List.length_cons, List.length_nil, List.replicate, List.cons_append, List.nil_append, List.append_nil, Option.toList_some, Option.toList_none, Option.toList, Nat.reduceAdd, Nat.reduceSub, Nat.reduceLeDiff, Nat.zero_add, Nat.zero_le, true_and, and_true, Nat.le_refl, ge_iff_le, Nat.reduceEqDiff]
    rw [y1, x1, pk_mul, nI_add, nI_clamp (by omega), hc]
    exact ⟨vp_in_nI hlt (by decide), h M2 (hF1.fl hs2 (by simp))⟩
  · exact h.elim
