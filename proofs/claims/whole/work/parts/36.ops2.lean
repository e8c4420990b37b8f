/-! DeltaRuns end -/
theorem zd_X7_end_0 : decode cX7_end 0 = .ok (.iload_n 1, 1) := by decide +kernel
theorem zd_X7_end_1 : decode cX7_end 1 = .ok (.iconst 0, 1) := by decide +kernel
theorem zd_X7_end_2 : decode cX7_end 2 = .ok (.aload_n 0, 1) := by decide +kernel
theorem zd_X7_end_3 : decode cX7_end 3 = .ok (.getfield 19, 3) := by decide +kernel
theorem zd_X7_end_6 : decode cX7_end 6 = .ok (.getfield 102, 3) := by decide +kernel
theorem zd_X7_end_9 : decode cX7_end 9 = .ok (.invokestatic 60, 3) := by decide +kernel
theorem zd_X7_end_12 : decode cX7_end 12 = .ok (.ifCond .ne 5, 3) := by decide +kernel
theorem zd_X7_end_15 : decode cX7_end 15 = .ok (.iconst (-1), 1) := by decide +kernel
theorem zd_X7_end_16 : decode cX7_end 16 = .ok (.ireturn, 1) := by decide +kernel
theorem zd_X7_end_17 : decode cX7_end 17 = .ok (.aload_n 0, 1) := by decide +kernel
theorem zd_X7_end_18 : decode cX7_end 18 = .ok (.getfield 19, 3) := by decide +kernel
theorem zd_X7_end_21 : decode cX7_end 21 = .ok (.iload_n 1, 1) := by decide +kernel
theorem zd_X7_end_22 : decode cX7_end 22 = .ok (.putfield 102, 3) := by decide +kernel
theorem zd_X7_end_25 : decode cX7_end 25 = .ok (.iload_n 1, 1) := by decide +kernel
theorem zd_X7_end_26 : decode cX7_end 26 = .ok (.ireturn, 1) := by decide +kernel
def zb_X7_end_0 (K : zKt) (J : Nat → zPP) : zPP := zT_ild 1 (zT_push (.int 0) (zT_ald 0 (zT_getR 7 1 9 (zT_getI 4 1 2 (zT_S3 zok zc_X7_within (zT_if1 (fun x => x = 0) (zT_push (.int (-1)) (zT_iret K)) (zT_ald 0 (zT_getR 7 1 9 (zT_ild 1 (zT_putI 4 1 2 (zT_ild 1 (zT_iret K))))))))))))
theorem zbs_X7_end_0 {X : zCt} (hR : zRX X = { frames := 1, cells := 0, slots := 0, locals := 22 }) (J : Nat → zPP) (hJ : ∀ h ∈ ([] : List Nat), zSd X RX7 "end" cX7_end 2 (some .int) h (J h)) : zSd X RX7 "end" cX7_end 2 (some .int) 0 (zb_X7_end_0 (zKX X) J) := zs_iload_n zd_X7_end_0 rfl (zs_iconst zd_X7_end_1 (by decide) (zs_aload_n zd_X7_end_2 rfl (zs_getR (ci := 7) (j := 1) (T := TX7) rfl inX7 (by decide) gw_1_186 rfl zd_X7_end_3 (zs_getI (ci := 4) (j := 1) (T := TX4) rfl inX4 (by decide) gw_1_70 rfl zd_X7_end_6 (zs_S (zm_X7_within _ _ _) gw_1_219 gw_1_217 gw_1_218 gw_1_1 zdn_X7_within (zrm hR (by decide) (by decide)) zd_X7_end_9 (zCl_S3 zok_l) (zs_if_ne (tgt := 17) zd_X7_end_12 (by decide) (zs_aload_n zd_X7_end_17 rfl (zs_getR (ci := 7) (j := 1) (T := TX7) rfl inX7 (by decide) gw_1_186 rfl zd_X7_end_18 (zs_iload_n zd_X7_end_21 rfl (zs_putI (ci := 4) (j := 1) (T := TX4) rfl inX4 tyX4_ok nmX4 (by decide) gw_1_70 rfl rfl rfl zd_X7_end_22 (zs_iload_n zd_X7_end_25 rfl (zs_iret rfl zd_X7_end_26)))))) (zs_iconst zd_X7_end_15 (by decide) (zs_iret rfl zd_X7_end_16))))))))
theorem zdn_X7_end : yX7_end.cls ≠ "java/lang/invoke/MethodHandle" ∧ yX7_end.cls ≠ "java/lang/invoke/VarHandle" ∧ (parseMethodDescriptor yX7_end.desc).map (fun d => d.parameters.length) = some 1 := by decide +kernel
theorem pcl_n {σ : wSP} {x y : Int32} (hok : wsok σ) (h : pcl σ x y) : x = nI (tn x) ∧ tn x < sW σ ∧ y = nI (tn y) ∧ tn y < sH σ ∧ tn x < 12 ∧ tn y < 10 := by
  obtain ⟨k1, k2, k3, k4, -⟩ := hok
  obtain ⟨h1, h2, h3, h4⟩ := h
  obtain ⟨e1, e2⟩ := tn_lt h1 h2 (by omega)
  obtain ⟨e3, e4⟩ := tn_lt h3 h4 (by omega)
  exact ⟨e1, e2, e3, e4, by omega, by omega⟩
def zc_X7_land (a : List Value) (M : zMm) (K : zKt) : Prop := match a with
  | [.ref k, .int x, .int y, .int u, .int v, .int g] => k = 0 ∧ ∃ F pk dk p, zXF M F pk dk p ∧ ∀ M', zXF M' (pLand x y u v g F).2 pk dk p → K (some (.int (pLand x y u v g F).1)) M'
  | _ => False
set_option maxHeartbeats 1000000 in
theorem zm_X7_land (l : Launch) (D : va_G) (Y : Nat → ClassId) : zMt l D Y yX7_land cX7_land 7 (some .int) 2 49 0 0 zc_X7_land := by
  refine zflat (by decide) (fun K J lc lz => zb_X7_land_0 K J) (fun X hR => zbs_X7_land_0 hR zJ0 zJ0_ok) (fun avs M K h => ?_)
  unfold zc_X7_land at h
  split at h
  · next k x y u v g =>
    obtain ⟨rfl, F, pk, dk, p, hF, h⟩ := h
    have hF' := hF
    obtain ⟨hxi, hEn, hel, hTp, hft, hst⟩ := hF
    have hx2 := hxi.x2
    obtain ⟨a0, a1, a2, a3, a4, a5, a6, a7, -⟩ := id hxi.1
    have q := hx2
    obtain ⟨-, ok, w1, w2, w3, w4, w5, w6, -⟩ := q
    have bad : (¬ (0 ≤ g ∧ g ≤ 200) ∨ u < x ∨ v < y) → zb_X7_land_23 K zJ0 M [some (.ref 0), some (.int x), some (.int y), some (.int u), some (.int v), some (.int g), none] [] := by
      intro hb
      simp only [zb_X7_land_23, zsh_0, zT_push, zT_bin, zT_div, zT_bil, zT_shl, zT_un, zT_i2l, zT_l2i, zT_lcmp, zT_ild, zT_lld, zT_ald, zT_ist, zT_lst, zT_ast, zT_iinc, zT_dup, zT_dup2, zT_pop, zT_if1, zT_if2, zT_ifn, zT_getI, zT_getJ, zT_getR, zT_putI, zT_putZ, zT_putJ, zT_putR, zT_ald0, zT_lald, zT_aald, zT_iast, zT_zast, zT_bast, zT_last, zT_aast, zT_iret, zT_nret, zT_aret, zT_vret, zT_oi, zT_mm, zT_ialX, zT_S1, zT_S2, zT_S3, zT_V0, zT_V1, zT_V2, zT_V3, zT_V4, zT_V5, zT_V6, zT_I0, zT_I1, zT_I2, zlg, zlset, zlpr, zent, zok, va_rf, List.length_cons, List.length_nil, List.replicate, List.cons_append, List.nil_append, List.append_nil, Option.toList_some, Option.toList_none, Option.toList, Nat.reduceAdd, Nat.reduceSub, Nat.reduceLeDiff, Nat.zero_add, Nat.zero_le, true_and, and_true, Nat.le_refl, ge_iff_le, Nat.reduceEqDiff]
      unfold zc_X7_refuse
      dsimp only
      refine ⟨rfl, ?_⟩
      have h2 := h (zwI M 0 8 (-1))
      unfold pLand at h2
      rw [if_pos hb] at h2
      exact h2 (hF'.refuse _)
    have bad2 : ¬ (¬ (0 ≤ g ∧ g ≤ 200) ∨ u < x ∨ v < y) → ¬ (pclD F.1 x y = true ∧ pclD F.1 u v = true) → zb_X7_land_54 K zJ0 M [some (.ref 0), some (.int x), some (.int y), some (.int u), some (.int v), some (.int g), none] [] := by
      intro hb hb2
      simp only [zb_X7_land_54, zsh_0, zT_push, zT_bin, zT_div, zT_bil, zT_shl, zT_un, zT_i2l, zT_l2i, zT_lcmp, zT_ild, zT_lld, zT_ald, zT_ist, zT_lst, zT_ast, zT_iinc, zT_dup, zT_dup2, zT_pop, zT_if1, zT_if2, zT_ifn, zT_getI, zT_getJ, zT_getR, zT_putI, zT_putZ, zT_putJ, zT_putR, zT_ald0, zT_lald, zT_aald, zT_iast, zT_zast, zT_bast, zT_last, zT_aast, zT_iret, zT_nret, zT_aret, zT_vret, zT_oi, zT_mm, zT_ialX, zT_S1, zT_S2, zT_S3, zT_V0, zT_V1, zT_V2, zT_V3, zT_V4, zT_V5, zT_V6, zT_I0, zT_I1, zT_I2, zlg, zlset, zlpr, zent, zok, va_rf, List.length_cons, List.length_nil, List.replicate, List.cons_append, List.nil_append, List.append_nil, Option.toList_some, Option.toList_none, Option.toList, Nat.reduceAdd, Nat.reduceSub, Nat.reduceLeDiff, Nat.zero_add, Nat.zero_le, true_and, and_true, Nat.le_refl, ge_iff_le, Nat.reduceEqDiff]
      unfold zc_X7_refuse
      dsimp only
      refine ⟨rfl, ?_⟩
      have h2 := h (zwI M 0 8 (-2))
      unfold pLand at h2
      rw [if_neg hb, if_neg hb2] at h2
      exact h2 (hF'.refuse _)
    refine ⟨by simp [zent], ?_⟩
    simp only [zb_X7_land_0, zT_push, zT_bin, zT_div, zT_bil, zT_shl, zT_un, zT_i2l, zT_l2i, zT_lcmp, zT_ild, zT_lld, zT_ald, zT_ist, zT_lst, zT_ast, zT_iinc, zT_dup, zT_dup2, zT_pop, zT_if1, zT_if2, zT_ifn, zT_getI, zT_getJ, zT_getR, zT_putI, zT_putZ, zT_putJ, zT_putR, zT_ald0, zT_lald, zT_aald, zT_iast, zT_zast, zT_bast, zT_last, zT_aast, zT_iret, zT_nret, zT_aret, zT_vret, zT_oi, zT_mm, zT_ialX, zT_S1, zT_S2, zT_S3, zT_V0, zT_V1, zT_V2, zT_V3, zT_V4, zT_V5, zT_V6, zT_I0, zT_I1, zT_I2, zlg, zlset, zlpr, zent, zok, va_rf, List.length_cons, List.length_nil, List.replicate, List.cons_append, List.nil_append, List.append_nil, Option.toList_some, Option.toList_none, Option.toList, Nat.reduceAdd, Nat.reduceSub, Nat.reduceLeDiff, Nat.zero_add, Nat.zero_le, true_and, and_true, Nat.le_refl, ge_iff_le, Nat.reduceEqDiff]
    unfold zc_X7_within
    dsimp only
    simp only [zbI_0, zsh_0, zsh_1, a0, zT_push, zT_bin, zT_div, zT_bil, zT_shl, zT_un, zT_i2l, zT_l2i, zT_lcmp, zT_ild, zT_lld, zT_ald, zT_ist, zT_lst, zT_ast, zT_iinc, zT_dup, zT_dup2, zT_pop, zT_if1, zT_if2, zT_ifn, zT_getI, zT_getJ, zT_getR, zT_putI, zT_putZ, zT_putJ, zT_putR, zT_ald0, zT_lald, zT_aald, zT_iast, zT_zast, zT_bast, zT_last, zT_aast, zT_iret, zT_nret, zT_aret, zT_vret, zT_oi, zT_mm, zT_ialX, zT_S1, zT_S2, zT_S3, zT_V0, zT_V1, zT_V2, zT_V3, zT_V4, zT_V5, zT_V6, zT_I0, zT_I1, zT_I2, zlg, zlset, zlpr, zent, zok, va_rf, List.length_cons, List.length_nil, List.replicate, List.cons_append, List.nil_append, List.append_nil, Option.toList_some, Option.toList_none, Option.toList, Nat.reduceAdd, Nat.reduceSub, Nat.reduceLeDiff, Nat.zero_add, Nat.zero_le, true_and, and_true, Nat.le_refl, ge_iff_le, Nat.reduceEqDiff]
    refine ⟨fun h1 => bad (Or.inl h1), fun h1 => ⟨fun h2 => bad (Or.inr (Or.inl h2)), fun h2 => ⟨fun h3 => ?_, fun h3 => bad (Or.inr (Or.inr (Int32.not_le.mp h3)))⟩⟩⟩
    have hn : ¬ (¬ (0 ≤ g ∧ g ≤ 200) ∨ u < x ∨ v < y) := by
      rintro (z | z | z)
      · exact h1 z
      · exact h2 z
      · exact Int32.not_le.mpr z h3
    have c1 := Classical.not_not.mp h1
    unfold zc_X1_has
    dsimp only
    refine ⟨rfl, ?_⟩
    simp only [zbI_0, w1, w2, zsh_0, zsh_1, a0, zT_push, zT_bin, zT_div, zT_bil, zT_shl, zT_un, zT_i2l, zT_l2i, zT_lcmp, zT_ild, zT_lld, zT_ald, zT_ist, zT_lst, zT_ast, zT_iinc, zT_dup, zT_dup2, zT_pop, zT_if1, zT_if2, zT_ifn, zT_getI, zT_getJ, zT_getR, zT_putI, zT_putZ, zT_putJ, zT_putR, zT_ald0, zT_lald, zT_aald, zT_iast, zT_zast, zT_bast, zT_last, zT_aast, zT_iret, zT_nret, zT_aret, zT_vret, zT_oi, zT_mm, zT_ialX, zT_S1, zT_S2, zT_S3, zT_V0, zT_V1, zT_V2, zT_V3, zT_V4, zT_V5, zT_V6, zT_I0, zT_I1, zT_I2, zlg, zlset, zlpr, zent, zok, va_rf, List.length_cons, List.length_nil, List.replicate, List.cons_append, List.nil_append, List.append_nil, Option.toList_some, Option.toList_none, Option.toList, Nat.reduceAdd, Nat.reduceSub, Nat.reduceLeDiff, Nat.zero_add, Nat.zero_le, true_and, and_true, Nat.le_refl, ge_iff_le, Nat.reduceEqDiff]
    refine ⟨fun h4 => bad2 hn (fun z => h4 (pclD_t.mp z.1)), fun h4 => ⟨fun h5 => bad2 hn (fun z => h5 (pclD_t.mp z.2)), fun h5 => ?_⟩⟩
    have c4 : pcl F.1 x y := Classical.not_not.mp h4
    have c5 : pcl F.1 u v := Classical.not_not.mp h5
    obtain ⟨x1, x2, y1, y2, x3, y3⟩ := pcl_n ok c4
    obtain ⟨u1, u2, v1, v2, u3, v3⟩ := pcl_n ok c5
    obtain ⟨g1, g2⟩ := tn_nI (x := g) (b := 200) c1.1 c1.2 (by decide)
    have xu : tn x ≤ tn u := by
      have z := Int32.not_lt.mp h2
      rw [x1, u1] at z
      exact (nI_leI (by omega) (by omega)).mp z
    have yv : tn y ≤ tn v := by
      have z := h3
      rw [y1, v1] at z
      exact (nI_leI (by omega) (by omega)).mp z
    unfold zc_X1_raise
    dsimp only
    refine ⟨rfl, a7, tn x, tn y, tn u, tn v, x1, y1, u1, v1, xu, yv, u3, v3, fun M1 hs1 hc1 => ?_⟩
    simp only [zsh_0, zT_push, zT_bin, zT_div, zT_bil, zT_shl, zT_un, zT_i2l, zT_l2i, zT_lcmp, zT_ild, zT_lld, zT_ald, zT_ist, zT_lst, zT_ast, zT_iinc, zT_dup, zT_dup2, zT_pop, zT_if1, zT_if2, zT_ifn, zT_getI, zT_getJ, zT_getR, zT_putI, zT_putZ, zT_putJ, zT_putR, zT_ald0, zT_lald, zT_aald, zT_iast, zT_zast, zT_bast, zT_last, zT_aast, zT_iret, zT_nret, zT_aret, zT_vret, zT_oi, zT_mm, zT_ialX, zT_S1, zT_S2, zT_S3, zT_V0, zT_V1, zT_V2, zT_V3, zT_V4, zT_V5, zT_V6, zT_I0, zT_I1, zT_I2, zlg, zlset, zlpr, zent, zok, va_rf, List.length_cons, List.length_nil, List.replicate, List.cons_append, List.nil_append, List.append_nil, Option.toList_some, Option.toList_none, Option.toList, Nat.reduceAdd, Nat.reduceSub, Nat.reduceLeDiff, Nat.zero_add, Nat.zero_le, true_and, and_true, Nat.le_refl, ge_iff_le, Nat.reduceEqDiff]
    have hx3 : zX2 M1 (sW F.1, sH F.1, sL F.1, sS F.1, sF F.1, fun e => if tn x ≤ e % 12 ∧ e % 12 ≤ tn u ∧ tn y ≤ e / 12 ∧ e / 12 ≤ tn v then tn g else sG F.1 e, sA F.1) pk dk p := by
      obtain ⟨k1, k2, k3, k4, k5, k6, k7, k8, k9⟩ := ok
      have e1 : M1.2.1 1 = M.2.1 1 := hs1.at (by simp)
      refine hx2.mv hs1 (by simp) ⟨k1, k2, k3, k4, k5, k6, k7, k8, fun e => ?_⟩ rfl (by rw [e1]; exact w1) (by rw [e1]; exact w2) (by rw [e1]; exact w3) (by rw [e1]; exact w4) (by rw [e1]; exact w5) (fun e he => ?_)
      · show (if tn x ≤ e % 12 ∧ e % 12 ≤ tn u ∧ tn y ≤ e / 12 ∧ e / 12 ≤ tn v then tn g else sG F.1 e) ≤ 200
        split
        · exact g2
        · exact k9 e
      · rw [hc1 e he]
        show _ = nI (if tn x ≤ e % 12 ∧ e % 12 ≤ tn u ∧ tn y ≤ e / 12 ∧ e / 12 ≤ tn v then tn g else sG F.1 e)
        split
        · exact g1
        · exact w6 e he
    unfold zc_X7_forgetRuns
    dsimp only
    refine ⟨rfl, by rw [hs1.R]; exact a4, hx3.2.2.2.2.2.2.2.2.2.2.1, fun M3 hf hl => ?_⟩
    simp only [zsh_0, zT_push, zT_bin, zT_div, zT_bil, zT_shl, zT_un, zT_i2l, zT_l2i, zT_lcmp, zT_ild, zT_lld, zT_ald, zT_ist, zT_lst, zT_ast, zT_iinc, zT_dup, zT_dup2, zT_pop, zT_if1, zT_if2, zT_ifn, zT_getI, zT_getJ, zT_getR, zT_putI, zT_putZ, zT_putJ, zT_putR, zT_ald0, zT_lald, zT_aald, zT_iast, zT_zast, zT_bast, zT_last, zT_aast, zT_iret, zT_nret, zT_aret, zT_vret, zT_oi, zT_mm, zT_ialX, zT_S1, zT_S2, zT_S3, zT_V0, zT_V1, zT_V2, zT_V3, zT_V4, zT_V5, zT_V6, zT_I0, zT_I1, zT_I2, zlg, zlset, zlpr, zent, zok, va_rf, List.length_cons, List.length_nil, List.replicate, List.cons_append, List.nil_append, List.append_nil, Option.toList_some, Option.toList_none, Option.toList, Nat.reduceAdd, Nat.reduceSub, Nat.reduceLeDiff, Nat.zero_add, Nat.zero_le, true_and, and_true, Nat.le_refl, ge_iff_le, Nat.reduceEqDiff]
    unfold zc_X7_accept
    dsimp only
    refine ⟨rfl, ?_⟩
    have h2' := h (zwI M3 0 8 0)
    unfold pLand at h2'
    rw [if_neg hn, if_pos ⟨pclD_t.mpr c4, pclD_t.mpr c5⟩] at h2'
    exact h2' (zXF.accept (F := F) hx3 (hEn.to (fun k a b => hs1.at (by simp; omega))) hel (hTp.to (fun k a b => hs1.at (by simp; omega))) (by rw [hs1.at (by simp)]; exact hft) hf hl)
  · exact h.elim
def zc_X7_spring (a : List Value) (M : zMm) (K : zKt) : Prop := match a with
  | [.ref k, .int x, .int y, .int f] => k = 0 ∧ ∃ F pk dk p, zXF M F pk dk p ∧ ∀ M', zXF M' (pSpring x y f F).2 pk dk p → K (some (.int (pSpring x y f F).1)) M'
  | _ => False
set_option maxHeartbeats 1000000 in
theorem zm_X7_spring (l : Launch) (D : va_G) (Y : Nat → ClassId) : zMt l D Y yX7_spring cX7_spring 4 (some .int) 1 22 0 0 zc_X7_spring := by
  refine zflat (by decide) (fun K J lc lz => zb_X7_spring_0 K J) (fun X hR => zbs_X7_spring_0 hR zJ0 zJ0_ok) (fun avs M K h => ?_)
  unfold zc_X7_spring at h
  split at h
  · next k x y f =>
    obtain ⟨rfl, F, pk, dk, p, hF, h⟩ := h
    have hF' := hF
    obtain ⟨hxi, hEn, hel, hTp, hft, hst⟩ := hF
    have hx2 := hxi.x2
    obtain ⟨a0, a1, a2, a3, a4, a5, a6, a7, -⟩ := id hxi.1
    have q := hx2
    obtain ⟨-, ok, w1, w2, w3, w4, w5, w6, -⟩ := q
    refine ⟨by simp [zent], ?_⟩
    simp only [zb_X7_spring_0, zT_push, zT_bin, zT_div, zT_bil, zT_shl, zT_un, zT_i2l, zT_l2i, zT_lcmp, zT_ild, zT_lld, zT_ald, zT_ist, zT_lst, zT_ast, zT_iinc, zT_dup, zT_dup2, zT_pop, zT_if1, zT_if2, zT_ifn, zT_getI, zT_getJ, zT_getR, zT_putI, zT_putZ, zT_putJ, zT_putR, zT_ald0, zT_lald, zT_aald, zT_iast, zT_zast, zT_bast, zT_last, zT_aast, zT_iret, zT_nret, zT_aret, zT_vret, zT_oi, zT_mm, zT_ialX, zT_S1, zT_S2, zT_S3, zT_V0, zT_V1, zT_V2, zT_V3, zT_V4, zT_V5, zT_V6, zT_I0, zT_I1, zT_I2, zlg, zlset, zlpr, zent, zok, va_rf, List.length_cons, List.length_nil, List.replicate, List.cons_append, List.nil_append, List.append_nil, Option.toList_some, Option.toList_none, Option.toList, Nat.reduceAdd, Nat.reduceSub, Nat.reduceLeDiff, Nat.zero_add, Nat.zero_le, true_and, and_true, Nat.le_refl, ge_iff_le, Nat.reduceEqDiff]
    unfold zc_X7_within
    dsimp only
    simp only [zbI_0, zsh_0, zsh_1, a0, zT_push, zT_bin, zT_div, zT_bil, zT_shl, zT_un, zT_i2l, zT_l2i, zT_lcmp, zT_ild, zT_lld, zT_ald, zT_ist, zT_lst, zT_ast, zT_iinc, zT_dup, zT_dup2, zT_pop, zT_if1, zT_if2, zT_ifn, zT_getI, zT_getJ, zT_getR, zT_putI, zT_putZ, zT_putJ, zT_putR, zT_ald0, zT_lald, zT_aald, zT_iast, zT_zast, zT_bast, zT_last, zT_aast, zT_iret, zT_nret, zT_aret, zT_vret, zT_oi, zT_mm, zT_ialX, zT_S1, zT_S2, zT_S3, zT_V0, zT_V1, zT_V2, zT_V3, zT_V4, zT_V5, zT_V6, zT_I0, zT_I1, zT_I2, zlg, zlset, zlpr, zent, zok, va_rf, List.length_cons, List.length_nil, List.replicate, List.cons_append, List.nil_append, List.append_nil, Option.toList_some, Option.toList_none, Option.toList, Nat.reduceAdd, Nat.reduceSub, Nat.reduceLeDiff, Nat.zero_add, Nat.zero_le, true_and, and_true, Nat.le_refl, ge_iff_le, Nat.reduceEqDiff]
    refine ⟨fun h1 => ?_, fun h1 => ?_⟩
    · unfold zc_X7_refuse
      dsimp only
      refine ⟨rfl, ?_⟩
      have h2 := h (zwI M 0 8 (-1))
      unfold pSpring at h2
      rw [if_neg h1] at h2
      exact h2 (hF'.refuse _)
    · have c1 := Classical.not_not.mp h1
      unfold zc_X1_has
      dsimp only
      refine ⟨rfl, ?_⟩
      simp only [zbI_0, w1, w2, zT_push, zT_bin, zT_div, zT_bil, zT_shl, zT_un, zT_i2l, zT_l2i, zT_lcmp, zT_ild, zT_lld, zT_ald, zT_ist, zT_lst, zT_ast, zT_iinc, zT_dup, zT_dup2, zT_pop, zT_if1, zT_if2, zT_ifn, zT_getI, zT_getJ, zT_getR, zT_putI, zT_putZ, zT_putJ, zT_putR, zT_ald0, zT_lald, zT_aald, zT_iast, zT_zast, zT_bast, zT_last, zT_aast, zT_iret, zT_nret, zT_aret, zT_vret, zT_oi, zT_mm, zT_ialX, zT_S1, zT_S2, zT_S3, zT_V0, zT_V1, zT_V2, zT_V3, zT_V4, zT_V5, zT_V6, zT_I0, zT_I1, zT_I2, zlg, zlset, zlpr, zent, zok, va_rf, List.length_cons, List.length_nil, List.replicate, List.cons_append, List.nil_append, List.append_nil, Option.toList_some, Option.toList_none, Option.toList, Nat.reduceAdd, Nat.reduceSub, Nat.reduceLeDiff, Nat.zero_add, Nat.zero_le, true_and, and_true, Nat.le_refl, ge_iff_le, Nat.reduceEqDiff]
      refine ⟨fun h4 => ?_, fun h4 => ?_⟩
      · unfold zc_X7_refuse
        dsimp only
        refine ⟨rfl, ?_⟩
        have h2 := h (zwI M 0 8 (-2))
        unfold pSpring at h2
        rw [if_pos c1, if_neg (fun z => h4 (pclD_t.mp z))] at h2
        exact h2 (hF'.refuse _)
      · have c4 : pcl F.1 x y := Classical.not_not.mp h4
        obtain ⟨x1, x2, y1, y2, x3, y3⟩ := pcl_n ok c4
        obtain ⟨f1, f2⟩ := tn_nI (x := f) (b := 1000) c1.1 c1.2 (by decide)
        unfold zc_X7_cellAt
        dsimp only
        simp only [zsh_0, zsh_1, a0, zwI_R, zT_push, zT_bin, zT_div, zT_bil, zT_shl, zT_un, zT_i2l, zT_l2i, zT_lcmp, zT_ild, zT_lld, zT_ald, zT_ist, zT_lst, zT_ast, zT_iinc, zT_dup, zT_dup2, zT_pop, zT_if1, zT_if2, zT_ifn, zT_getI, zT_getJ, zT_getR, zT_putI, zT_putZ, zT_putJ, zT_putR, zT_ald0, zT_lald, zT_aald, zT_iast, zT_zast, zT_bast, zT_last, zT_aast, zT_iret, zT_nret, zT_aret, zT_vret, zT_oi, zT_mm, zT_ialX, zT_S1, zT_S2, zT_S3, zT_V0, zT_V1, zT_V2, zT_V3, zT_V4, zT_V5, zT_V6, zT_I0, zT_I1, zT_I2, zlg, zlset, zlpr, zent, zok, va_rf, List.length_cons, List.length_nil, List.replicate, List.cons_append, List.nil_append, List.append_nil, Option.toList_some, Option.toList_none, Option.toList, Nat.reduceAdd, Nat.reduceSub, Nat.reduceLeDiff, Nat.zero_add, Nat.zero_le, true_and, and_true, Nat.le_refl, ge_iff_le, Nat.reduceEqDiff]
        have ec : y * 12 + x = nI (tn y * 12 + tn x) := by
          conv => lhs; rw [x1, y1]
          exact wcell
        have hs2 : zsm [1] M (zwI (zwI M 1 3 (y * 12 + x)) 1 4 f) := (zsm.rf.w (by simp)).w (by simp)
        have hx3 : zX2 (zwI (zwI M 1 3 (y * 12 + x)) 1 4 f) (sW F.1, sH F.1, sL F.1, tn y * 12 + tn x, tn f, sG F.1, sA F.1) pk dk p := by
          obtain ⟨k1, k2, k3, k4, k5, k6, k7, k8, k9⟩ := ok
          refine hx2.mv hs2 (by simp) ⟨k1, k2, k3, k4, k5, by show tn y * 12 + tn x < 120; omega, ⟨by show (tn y * 12 + tn x) % 12 < sW F.1; omega, by show (tn y * 12 + tn x) / 12 < sH F.1; omega⟩, f2, k9⟩ rfl ?_ ?_ ?_ ?_ ?_ (fun e he => ?_)
          · simp only [zwI_L, zwI_I, zwI_J, zwI_R, zwJ_L, zwJ_I, zwJ_J, zwJ_R, zwR_L, zwR_I, zwR_J, zwR_R, zw2_s, zw2_n, ne_eq, not_false_eq_true, reduceCtorEq, not_true_eq_false, Nat.reduceEqDiff]; rw [zup_n (by decide), zup_n (by decide)]; exact w1
          · simp only [zwI_L, zwI_I, zwI_J, zwI_R, zwJ_L, zwJ_I, zwJ_J, zwJ_R, zwR_L, zwR_I, zwR_J, zwR_R, zw2_s, zw2_n, ne_eq, not_false_eq_true, reduceCtorEq, not_true_eq_false, Nat.reduceEqDiff]; rw [zup_n (by decide), zup_n (by decide)]; exact w2
          · simp only [zwI_L, zwI_I, zwI_J, zwI_R, zwJ_L, zwJ_I, zwJ_J, zwJ_R, zwR_L, zwR_I, zwR_J, zwR_R, zw2_s, zw2_n, ne_eq, not_false_eq_true, reduceCtorEq, not_true_eq_false, Nat.reduceEqDiff]; rw [zup_n (by decide), zup_s]; exact ec
          · simp only [zwI_L, zwI_I, zwI_J, zwI_R, zwJ_L, zwJ_I, zwJ_J, zwJ_R, zwR_L, zwR_I, zwR_J, zwR_R, zw2_s, zw2_n, ne_eq, not_false_eq_true, reduceCtorEq, not_true_eq_false, Nat.reduceEqDiff]; rw [zup_s]; exact f1
          · simp only [zwI_L, zwI_I, zwI_J, zwI_R, zwJ_L, zwJ_I, zwJ_J, zwJ_R, zwR_L, zwR_I, zwR_J, zwR_R, zw2_s, zw2_n, ne_eq, not_false_eq_true, reduceCtorEq, not_true_eq_false, Nat.reduceEqDiff]; rw [zup_n (by decide), zup_n (by decide)]; exact w5
          · simp only [zwI_L, zwI_I, zwI_J, zwI_R, zwJ_L, zwJ_I, zwJ_J, zwJ_R, zwR_L, zwR_I, zwR_J, zwR_R, zw2_s, zw2_n, ne_eq, not_false_eq_true, reduceCtorEq, not_true_eq_false, Nat.reduceEqDiff]; exact w6 e he
        unfold zc_X7_forgetRuns
        dsimp only
        refine ⟨rfl, a4, hx3.2.2.2.2.2.2.2.2.2.2.1, fun M3 hf hl => ?_⟩
        simp only [zsh_0, zT_push, zT_bin, zT_div, zT_bil, zT_shl, zT_un, zT_i2l, zT_l2i, zT_lcmp, zT_ild, zT_lld, zT_ald, zT_ist, zT_lst, zT_ast, zT_iinc, zT_dup, zT_dup2, zT_pop, zT_if1, zT_if2, zT_ifn, zT_getI, zT_getJ, zT_getR, zT_putI, zT_putZ, zT_putJ, zT_putR, zT_ald0, zT_lald, zT_aald, zT_iast, zT_zast, zT_bast, zT_last, zT_aast, zT_iret, zT_nret, zT_aret, zT_vret, zT_oi, zT_mm, zT_ialX, zT_S1, zT_S2, zT_S3, zT_V0, zT_V1, zT_V2, zT_V3, zT_V4, zT_V5, zT_V6, zT_I0, zT_I1, zT_I2, zlg, zlset, zlpr, zent, zok, va_rf, List.length_cons, List.length_nil, List.replicate, List.cons_append, List.nil_append, List.append_nil, Option.toList_some, Option.toList_none, Option.toList, Nat.reduceAdd, Nat.reduceSub, Nat.reduceLeDiff, Nat.zero_add, Nat.zero_le, true_and, and_true, Nat.le_refl, ge_iff_le, Nat.reduceEqDiff]
        unfold zc_X7_accept
        dsimp only
        refine ⟨rfl, ?_⟩
        have h2 := h (zwI M3 0 8 0)
        unfold pSpring at h2
        rw [if_pos c1, if_pos (pclD_t.mpr c4)] at h2
        exact h2 (zXF.accept (F := F) hx3 (hEn.to (fun k a b => hs2.at (by simp; omega))) hel (hTp.to (fun k a b => hs2.at (by simp; omega))) (by rw [hs2.at (by simp)]; exact hft) hf hl)
  · exact h.elim
/-! end, fault, status -/
def pEnd (n : Int32) (F : wFS) : Int32 × wFS := if 0 ≤ n ∧ n ≤ nI F.2.2.1.length then (n, (F.1, F.2.1, F.2.2.1.take (tn n), F.2.2.2.1, F.2.2.2.2)) else (-1, F)
def zc_X7_end (a : List Value) (M : zMm) (K : zKt) : Prop := match a with
  | [.ref k, .int n] => k = 0 ∧ ∃ F pk dk p, zXF M F pk dk p ∧ ∀ M', zXF M' (pEnd n F).2 pk dk p → K (some (.int (pEnd n F).1)) M'
  | _ => False
theorem zm_X7_end (l : Launch) (D : va_G) (Y : Nat → ClassId) : zMt l D Y yX7_end cX7_end 2 (some .int) 1 22 0 0 zc_X7_end := by
  refine zflat (by decide) (fun K J lc lz => zb_X7_end_0 K J) (fun X hR => zbs_X7_end_0 hR zJ0 zJ0_ok) (fun avs M K h => ?_)
  unfold zc_X7_end at h
  split at h
  · next k n =>
    obtain ⟨rfl, F, pk, dk, p, hF, h⟩ := h
    have hF' := hF
    obtain ⟨hxi, hEn, hel, hTp, hft, hst⟩ := hF
    obtain ⟨a0, a1, -⟩ := id hxi.1
    obtain ⟨t1, t2, t3⟩ := id hTp
    refine ⟨by simp [zent], ?_⟩
    simp only [zb_X7_end_0, zsh_0, zsh_3, a1, zT_push, zT_bin, zT_div, zT_bil, zT_shl, zT_un, zT_i2l, zT_l2i, zT_lcmp, zT_ild, zT_lld, zT_ald, zT_ist, zT_lst, zT_ast, zT_iinc, zT_dup, zT_dup2, zT_pop, zT_if1, zT_if2, zT_ifn, zT_getI, zT_getJ, zT_getR, zT_putI, zT_putZ, zT_putJ, zT_putR, zT_ald0, zT_lald, zT_aald, zT_iast, zT_zast, zT_bast, zT_last, zT_aast, zT_iret, zT_nret, zT_aret, zT_vret, zT_oi, zT_mm, zT_ialX, zT_S1, zT_S2, zT_S3, zT_V0, zT_V1, zT_V2, zT_V3, zT_V4, zT_V5, zT_V6, zT_I0, zT_I1, zT_I2, zlg, zlset, zlpr, zent, zok, va_rf, List.length_cons, List.length_nil, List.replicate, List.cons_append, List.nil_append, List.append_nil, Option.toList_some, Option.toList_none, Option.toList, Nat.reduceAdd, Nat.reduceSub, Nat.reduceLeDiff, Nat.zero_add, Nat.zero_le, true_and, and_true, Nat.le_refl, ge_iff_le, Nat.reduceEqDiff]
    unfold zc_X7_within
    dsimp only
    simp only [zbI_0, zsh_0, zsh_3, a1, t1, zT_push, zT_bin, zT_div, zT_bil, zT_shl, zT_un, zT_i2l, zT_l2i, zT_lcmp, zT_ild, zT_lld, zT_ald, zT_ist, zT_lst, zT_ast, zT_iinc, zT_dup, zT_dup2, zT_pop, zT_if1, zT_if2, zT_ifn, zT_getI, zT_getJ, zT_getR, zT_putI, zT_putZ, zT_putJ, zT_putR, zT_ald0, zT_lald, zT_aald, zT_iast, zT_zast, zT_bast, zT_last, zT_aast, zT_iret, zT_nret, zT_aret, zT_vret, zT_oi, zT_mm, zT_ialX, zT_S1, zT_S2, zT_S3, zT_V0, zT_V1, zT_V2, zT_V3, zT_V4, zT_V5, zT_V6, zT_I0, zT_I1, zT_I2, zlg, zlset, zlpr, zent, zok, va_rf, List.length_cons, List.length_nil, List.replicate, List.cons_append, List.nil_append, List.append_nil, Option.toList_some, Option.toList_none, Option.toList, Nat.reduceAdd, Nat.reduceSub, Nat.reduceLeDiff, Nat.zero_add, Nat.zero_le, true_and, and_true, Nat.le_refl, ge_iff_le, Nat.reduceEqDiff]
    refine ⟨fun h1 => ?_, fun h1 => ?_⟩
    · have h2 := h M
      unfold pEnd at h2
      rw [if_neg h1] at h2
      exact h2 hF'
    · have c1 := Classical.not_not.mp h1
      obtain ⟨e1, e2⟩ := tn_nI c1.1 c1.2 (by omega)
      have h2 := h (zwI M 3 1 n)
      unfold pEnd at h2
      rw [if_pos c1] at h2
      have hs : zsm [3] M (zwI M 3 1 n) := zsm.rf.w (by simp)
      refine h2 ⟨hxi.mv hs (by simp), hEn.to (fun k a b => hs.at (by simp; omega)), hel, ⟨?_, ?_, fun i b hb => ?_⟩, by rw [hs.at (by simp)]; exact hft, by rw [hs.at (by simp)]; exact hst⟩
      · simp only [zwI_L, zwI_I, zwI_J, zwI_R, zwJ_L, zwJ_I, zwJ_J, zwJ_R, zwR_L, zwR_I, zwR_J, zwR_R, zw2_s, zw2_n, ne_eq, not_false_eq_true, reduceCtorEq, not_true_eq_false, Nat.reduceEqDiff, List.length_take]
        rw [zup_s, Nat.min_eq_left e2]
        exact e1
      · show (F.2.2.1.take (tn n)).length ≤ 300
        rw [List.length_take, Nat.min_eq_left e2]
        omega
      · rw [hs.at (by simp)]
        refine t3 i b ?_
        have hb' : (F.2.2.1.take (tn n))[i]? = some b := hb
        rw [List.getElem?_take] at hb'
        split at hb'
        · exact hb'
        · cases hb'
  · exact h.elim
def pFault (F : wFS) : Int32 × wFS := (F.2.2.2.1, F)
def pStatus (F : wFS) : Int32 × wFS := (F.2.2.2.2, F)
def zc_X7_fault (a : List Value) (M : zMm) (K : zKt) : Prop := match a with
  | [.ref k] => k = 0 ∧ ∃ F pk dk p, zXF M F pk dk p ∧ ∀ M', zXF M' (pFault F).2 pk dk p → K (some (.int (pFault F).1)) M'
  | _ => False
theorem zm_X7_fault (l : Launch) (D : va_G) (Y : Nat → ClassId) : zMt l D Y yX7_fault cX7_fault 1 (some .int) 0 0 0 0 zc_X7_fault := by
  refine zflat (by decide) (fun K J lc lz => zb_X7_fault_0 K J) (fun X hR => zbs_X7_fault_0 hR zJ0 zJ0_ok) (fun avs M K h => ?_)
  unfold zc_X7_fault at h
  split at h
  · obtain ⟨rfl, F, pk, dk, p, hF, h⟩ := h
    refine ⟨by simp [zent], ?_⟩
    simp only [zb_X7_fault_0, zsh_0, zT_push, zT_bin, zT_div, zT_bil, zT_shl, zT_un, zT_i2l, zT_l2i, zT_lcmp, zT_ild, zT_lld, zT_ald, zT_ist, zT_lst, zT_ast, zT_iinc, zT_dup, zT_dup2, zT_pop, zT_if1, zT_if2, zT_ifn, zT_getI, zT_getJ, zT_getR, zT_putI, zT_putZ, zT_putJ, zT_putR, zT_ald0, zT_lald, zT_aald, zT_iast, zT_zast, zT_bast, zT_last, zT_aast, zT_iret, zT_nret, zT_aret, zT_vret, zT_oi, zT_mm, zT_ialX, zT_S1, zT_S2, zT_S3, zT_V0, zT_V1, zT_V2, zT_V3, zT_V4, zT_V5, zT_V6, zT_I0, zT_I1, zT_I2, zlg, zlset, zlpr, zent, zok, va_rf, List.length_cons, List.length_nil, List.replicate, List.cons_append, List.nil_append, List.append_nil, Option.toList_some, Option.toList_none, Option.toList, Nat.reduceAdd, Nat.reduceSub, Nat.reduceLeDiff, Nat.zero_add, Nat.zero_le, true_and, and_true, Nat.le_refl, ge_iff_le, Nat.reduceEqDiff]
    rw [hF.2.2.2.2.1]
    exact h M hF
  · exact h.elim
def zc_X7_status (a : List Value) (M : zMm) (K : zKt) : Prop := match a with
  | [.ref k] => k = 0 ∧ ∃ F pk dk p, zXF M F pk dk p ∧ ∀ M', zXF M' (pStatus F).2 pk dk p → K (some (.int (pStatus F).1)) M'
  | _ => False
theorem zm_X7_status (l : Launch) (D : va_G) (Y : Nat → ClassId) : zMt l D Y yX7_status cX7_status 1 (some .int) 0 0 0 0 zc_X7_status := by
  refine zflat (by decide) (fun K J lc lz => zb_X7_status_0 K J) (fun X hR => zbs_X7_status_0 hR zJ0 zJ0_ok) (fun avs M K h => ?_)
  unfold zc_X7_status at h
  split at h
  · obtain ⟨rfl, F, pk, dk, p, hF, h⟩ := h
    refine ⟨by simp [zent], ?_⟩
    simp only [zb_X7_status_0, zsh_0, zT_push, zT_bin, zT_div, zT_bil, zT_shl, zT_un, zT_i2l, zT_l2i, zT_lcmp, zT_ild, zT_lld, zT_ald, zT_ist, zT_lst, zT_ast, zT_iinc, zT_dup, zT_dup2, zT_pop, zT_if1, zT_if2, zT_ifn, zT_getI, zT_getJ, zT_getR, zT_putI, zT_putZ, zT_putJ, zT_putR, zT_ald0, zT_lald, zT_aald, zT_iast, zT_zast, zT_bast, zT_last, zT_aast, zT_iret, zT_nret, zT_aret, zT_vret, zT_oi, zT_mm, zT_ialX, zT_S1, zT_S2, zT_S3, zT_V0, zT_V1, zT_V2, zT_V3, zT_V4, zT_V5, zT_V6, zT_I0, zT_I1, zT_I2, zlg, zlset, zlpr, zent, zok, va_rf, List.length_cons, List.length_nil, List.replicate, List.cons_append, List.nil_append, List.append_nil, Option.toList_some, Option.toList_none, Option.toList, Nat.reduceAdd, Nat.reduceSub, Nat.reduceLeDiff, Nat.zero_add, Nat.zero_le, true_and, and_true, Nat.le_refl, ge_iff_le, Nat.reduceEqDiff]
    rw [hF.2.2.2.2.2]
    exact h M hF
  · exact h.elim
