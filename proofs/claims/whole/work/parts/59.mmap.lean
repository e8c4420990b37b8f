def zc_X8_map (a : List Value) (M : zMm) (K : zKt) : Prop := match a with
  | [.ref k, .int yr, .int x, .int y, .int g, .int d] => k = 200 ∧ ∃ F, zMF M F ∧ ∀ M', zMF M' (pMap yr x y g d F).2 → K (some (.int (pMap yr x y g d F).1)) M'
  | _ => False
set_option maxHeartbeats 2000000 in
theorem zm_X8_map (l : Launch) (D : va_G) (Y : Nat → ClassId) : zMt l D Y yX8_map cX8_map 6 (some .int) 2 47 0 0 zc_X8_map := by
  refine zflat (by decide) (fun K J lc lz => zb_X8_map_0 K J) (fun X hR => zbs_X8_map_0 hR zJ0 zJ0_ok) (fun avs M K h => ?_)
  unfold zc_X8_map at h
  split at h
  · next k yr x y g d =>
    obtain ⟨rfl, F, hF, h⟩ := h
    have hF1 := hF.th
    refine ⟨by simp [zent], ?_⟩
    simp only [zb_X8_map_0, zsh_200, zT_push, zT_bin, zT_div, zT_bil, zT_shl, zT_un, zT_i2l, zT_l2i, zT_lcmp, zT_ild, zT_lld, zT_ald, zT_ist, zT_lst, zT_ast, zT_iinc, zT_dup, zT_dup2, zT_pop, zT_if1, zT_if2, zT_ifn, zT_getI, zT_getJ, zT_getR, zT_putI, zT_putZ, zT_putJ, zT_putR, zT_ald0, zT_lald, zT_aald, zT_iast, zT_zast, zT_bast, zT_last, zT_aast, zT_iret, zT_nret, zT_aret, zT_vret, zT_oi, zT_mm, zT_ialX, zT_S1, zT_S2, zT_S3, zT_V0, zT_V1, zT_V2, zT_V3, zT_V4, zT_V5, zT_V6, zT_I0, zT_I1, zT_I2, zlg, zlset, zlpr, zent, zok, va_rf, List.length_cons, List.length_nil, List.replicate, List.cons_append, List.nil_append, List.append_nil, Option.toList_some, Option.toList_none, Option.toList, Nat.reduceAdd, Nat.reduceSub, Nat.reduceLeDiff, Nat.zero_add, Nat.zero_le, true_and, and_true, Nat.le_refl, ge_iff_le, Nat.reduceEqDiff]
    generalize zwI M 200 0 0 = M1 at hF1 ⊢
    obtain ⟨g1, ⟨ok, w1, w2, w3, w4, w5, w6, w7⟩, g3, g4, g5, g6⟩ := id hF1
    obtain ⟨k1, k2, k3, k4, k5, k6, k7, k8, k9⟩ := id ok
    obtain ⟨en1, en2, en3⟩ := id g3
    obtain ⟨-, -, -, -, -, -, -, -, -, -, -, -, -, -, -, r32, r33, r34, r35, -⟩ := id g1
    have bad : ¬ ((0 ≤ yr ∧ yr ≤ 30) ∧ (0 ≤ g ∧ g ≤ 200) ∧ 0 ≤ d ∧ d ≤ 1000) → zb_X8_map_38 K zJ0 M1 [some (.ref 200), some (.int yr), some (.int x), some (.int y), some (.int g), some (.int d)] [] := by
      intro hb
      simp only [zb_X8_map_38, zsh_200, zT_push, zT_bin, zT_div, zT_bil, zT_shl, zT_un, zT_i2l, zT_l2i, zT_lcmp, zT_ild, zT_lld, zT_ald, zT_ist, zT_lst, zT_ast, zT_iinc, zT_dup, zT_dup2, zT_pop, zT_if1, zT_if2, zT_ifn, zT_getI, zT_getJ, zT_getR, zT_putI, zT_putZ, zT_putJ, zT_putR, zT_ald0, zT_lald, zT_aald, zT_iast, zT_zast, zT_bast, zT_last, zT_aast, zT_iret, zT_nret, zT_aret, zT_vret, zT_oi, zT_mm, zT_ialX, zT_S1, zT_S2, zT_S3, zT_V0, zT_V1, zT_V2, zT_V3, zT_V4, zT_V5, zT_V6, zT_I0, zT_I1, zT_I2, zlg, zlset, zlpr, zent, zok, va_rf, List.length_cons, List.length_nil, List.replicate, List.cons_append, List.nil_append, List.append_nil, Option.toList_some, Option.toList_none, Option.toList, Nat.reduceAdd, Nat.reduceSub, Nat.reduceLeDiff, Nat.zero_add, Nat.zero_le, true_and, and_true, Nat.le_refl, ge_iff_le, Nat.reduceEqDiff]
      unfold zc_X8_told
      dsimp only
      refine ⟨rfl, ?_⟩
      have h2 := h (zwI M1 200 1 (-1))
      unfold pMap at h2
      rw [if_neg hb] at h2
      exact h2 (hF1.told (-1))
    unfold zc_X8_isYear zc_X8_in
    dsimp only
    have e1 : zbI (0 ≤ g.toInt64 ∧ g.toInt64 ≤ 200) = zbI (0 ≤ g ∧ g ≤ 200) := zin_c (a := 0) (b := 200) (by decide) (by decide)
    have e2 : zbI (0 ≤ d.toInt64 ∧ d.toInt64 ≤ 1000) = zbI (0 ≤ d ∧ d ≤ 1000) := zin_c (a := 0) (b := 1000) (by decide) (by decide)
    simp only [e1, e2, zbI_0, zsh_200, zT_push, zT_bin, zT_div, zT_bil, zT_shl, zT_un, zT_i2l, zT_l2i, zT_lcmp, zT_ild, zT_lld, zT_ald, zT_ist, zT_lst, zT_ast, zT_iinc, zT_dup, zT_dup2, zT_pop, zT_if1, zT_if2, zT_ifn, zT_getI, zT_getJ, zT_getR, zT_putI, zT_putZ, zT_putJ, zT_putR, zT_ald0, zT_lald, zT_aald, zT_iast, zT_zast, zT_bast, zT_last, zT_aast, zT_iret, zT_nret, zT_aret, zT_vret, zT_oi, zT_mm, zT_ialX, zT_S1, zT_S2, zT_S3, zT_V0, zT_V1, zT_V2, zT_V3, zT_V4, zT_V5, zT_V6, zT_I0, zT_I1, zT_I2, zlg, zlset, zlpr, zent, zok, va_rf, List.length_cons, List.length_nil, List.replicate, List.cons_append, List.nil_append, List.append_nil, Option.toList_some, Option.toList_none, Option.toList, Nat.reduceAdd, Nat.reduceSub, Nat.reduceLeDiff, Nat.zero_add, Nat.zero_le, true_and, and_true, Nat.le_refl, ge_iff_le, Nat.reduceEqDiff]
    refine ⟨fun h1 => bad (fun z => h1 z.1), fun h1 => ⟨fun h2 => bad (fun z => h2 z.2.1), fun h2 => ⟨fun h3 => bad (fun z => h3 z.2.2), fun h3 => ?_⟩⟩⟩
    have c1 := Classical.not_not.mp h1
    have c2 := Classical.not_not.mp h2
    have c3 := Classical.not_not.mp h3
    unfold zc_X8_isCell
    dsimp only
    refine ⟨rfl, sW F.1, sH F.1, w1, w2, by omega, k2, by omega, k4, ?_⟩
    have hcl : (nI F.2.1.length).toNatClampNeg = F.2.1.length := nI_clamp (by omega)
    simp only [zbI_0, zsh_200, zsh_216, zsh_217, zsh_218, zsh_219, en1, w1, r32, r33, r34, r35, zwI_R, zwI_I, zw2_n (show (200 : Nat) ≠ 216 by decide), zw2_n (show (200 : Nat) ≠ 217 by decide), zw2_n (show (200 : Nat) ≠ 218 by decide), zw2_n (show (200 : Nat) ≠ 219 by decide), hcl, nI_1, zT_push, zT_bin, zT_div, zT_bil, zT_shl, zT_un, zT_i2l, zT_l2i, zT_lcmp, zT_ild, zT_lld, zT_ald, zT_ist, zT_lst, zT_ast, zT_iinc, zT_dup, zT_dup2, zT_pop, zT_if1, zT_if2, zT_ifn, zT_getI, zT_getJ, zT_getR, zT_putI, zT_putZ, zT_putJ, zT_putR, zT_ald0, zT_lald, zT_aald, zT_iast, zT_zast, zT_bast, zT_last, zT_aast, zT_iret, zT_nret, zT_aret, zT_vret, zT_oi, zT_mm, zT_ialX, zT_S1, zT_S2, zT_S3, zT_V0, zT_V1, zT_V2, zT_V3, zT_V4, zT_V5, zT_V6, zT_I0, zT_I1, zT_I2, zlg, zlset, zlpr, zent, zok, va_rf, List.length_cons, List.length_nil, List.replicate, List.cons_append, List.nil_append, List.append_nil, Option.toList_some, Option.toList_none, Option.toList, Nat.reduceAdd, Nat.reduceSub, Nat.reduceLeDiff, Nat.zero_add, Nat.zero_le, true_and, and_true, Nat.le_refl, ge_iff_le, Nat.reduceEqDiff]
    refine ⟨fun h4 => ?_, fun h4 => ⟨fun h5 => ?_, fun h5 => ?_⟩⟩
    · unfold zc_X8_told
      dsimp only
      refine ⟨rfl, ?_⟩
      have h2 := h (zwI M1 200 1 (-2))
      unfold pMap at h2
      rw [if_pos ⟨c1, c2, c3⟩, if_neg (fun z => h4 (pclD_t.mp z))] at h2
      exact h2 (hF1.told (-2))
    · have c4 : pcl F.1 x y := Classical.not_not.mp h4
      have c5 : F.2.1.length = 200 := (nI_eq (b := 200) (by omega) (by decide)).mp h5
      unfold zc_X8_told
      dsimp only
      refine ⟨rfl, ?_⟩
      have h2 := h (zwI M1 200 1 (-5))
      unfold pMap at h2
      rw [if_pos ⟨c1, c2, c3⟩, if_pos (pclD_t.mpr c4), if_neg (by omega)] at h2
      exact h2 (hF1.told (-5))
    · have c4 : pcl F.1 x y := Classical.not_not.mp h4
      have c5 : F.2.1.length < 200 := by
        rcases Nat.lt_or_ge F.2.1.length 200 with z | z
        · exact z
        · exact absurd (by rw [show F.2.1.length = 200 by omega]; rfl) h5
      obtain ⟨x1, x2, y1, y2, x3, y3⟩ := pcl_n ok c4
      obtain ⟨n1, n2⟩ := tn_nI (x := yr) (b := 30) c1.1 c1.2 (by decide)
      obtain ⟨gg1, gg2⟩ := tn_nI (x := g) (b := 200) c2.1 c2.2 (by decide)
      obtain ⟨d1, d2⟩ := tn_nI (x := d) (b := 1000) c3.1 c3.2 (by decide)
      have ec : y * nI (sW F.1) + x = nI (mI (sW F.1) (tn y * 12 + tn x)) := by
        conv => lhs; rw [x1, y1]
        rw [pk_mul, nI_add]
        unfold mI
        rw [show (tn y * 12 + tn x) / 12 = tn y by omega, show (tn y * 12 + tn x) % 12 = tn x by omega]
      have hin : vp_in (nI F.2.1.length) 200 := vp_in_nI c5 (by decide)
      refine ⟨hin, hin, hin, hin, ?_⟩
      rw [zw2_s, zup_s, ec]
      unfold zc_X8_told
      dsimp only
      refine ⟨rfl, ?_⟩
      have hpos : ¬ nI (F.2.1.length + 1) < 0 := Int32.not_lt.mpr ((nI_leI (a := 0) (by decide) (by omega)).mpr (Nat.zero_le _))
      rw [if_neg hpos]
      have h2 := h (zwI (zwI (zwI (zwI (zwI (zwI M1 216 F.2.1.length yr) 217 F.2.1.length (nI (mI (sW F.1) (tn y * 12 + tn x)))) 218 F.2.1.length g) 219 F.2.1.length d) 200 31 (nI (F.2.1.length + 1))) 200 1 0)
      unfold pMap at h2
      rw [if_pos ⟨c1, c2, c3⟩, if_pos (pclD_t.mpr c4), if_pos c5] at h2
      refine h2 (zMF.told (F := (F.1, F.2.1 ++ [(tn yr, tn y * 12 + tn x, tn g, tn d)], F.2.2.1, F.2.2.2.1, F.2.2.2.2)) ?_ 0)
      refine ⟨g1, ?_, ⟨?_, ?_, fun i e hi => ?_⟩, ?_, ?_, ?_⟩
      · unfold zMS
        simp only [zwI_L, zwI_I, zwI_J, zwI_R, zwJ_L, zwJ_I, zwJ_J, zwJ_R, zwR_L, zwR_I, zwR_J, zwR_R, zw2_s, zw2_n, ne_eq, not_false_eq_true, reduceCtorEq, not_true_eq_false, Nat.reduceEqDiff, zup_n (show (2 : Nat) ≠ 31 by decide), zup_n (show (3 : Nat) ≠ 31 by decide), zup_n (show (4 : Nat) ≠ 31 by decide), zup_n (show (5 : Nat) ≠ 31 by decide), zup_n (show (6 : Nat) ≠ 31 by decide), zup_n (show (8 : Nat) ≠ 31 by decide)]
        exact ⟨ok, w1, w2, w3, w4, w5, w6, w7⟩
      · simp only [zwI_L, zwI_I, zwI_J, zwI_R, zwJ_L, zwJ_I, zwJ_J, zwJ_R, zwR_L, zwR_I, zwR_J, zwR_R, zw2_s, zw2_n, ne_eq, not_false_eq_true, reduceCtorEq, not_true_eq_false, Nat.reduceEqDiff, List.length_append, List.length_singleton]
        rw [zup_s]
      · show (F.2.1 ++ [_]).length ≤ 200
        rw [List.length_append, List.length_singleton]; omega
      · simp only [zwI_L, zwI_I, zwI_J, zwI_R, zwJ_L, zwJ_I, zwJ_J, zwJ_R, zwR_L, zwR_I, zwR_J, zwR_R, zw2_s, zw2_n, ne_eq, not_false_eq_true, reduceCtorEq, not_true_eq_false, Nat.reduceEqDiff]
        by_cases q : i < F.2.1.length
        · have hi' : (F.2.1 ++ [(tn yr, tn y * 12 + tn x, tn g, tn d)])[i]? = some e := hi
          rw [List.getElem?_append_left q] at hi'
          have ne : i ≠ F.2.1.length := by omega
          rw [zup_n ne, zup_n ne, zup_n ne, zup_n ne]
          exact en3 i e hi'
        · have hi' : (F.2.1 ++ [(tn yr, tn y * 12 + tn x, tn g, tn d)])[i]? = some e := hi
          rw [List.getElem?_append_right (by omega)] at hi'
          have q2 : i = F.2.1.length := by
            rcases Nat.lt_or_ge (i - F.2.1.length) 1 with z | z
            · omega
            · rw [List.getElem?_eq_none (by simpa using z)] at hi'; cases hi'
          subst q2
          simp at hi'
          subst hi'
          rw [zup_s, zup_s, zup_s, zup_s]
          exact ⟨⟨n2, by show tn y * 12 + tn x < 120; omega, gg2, d2⟩, ⟨by show (tn y * 12 + tn x) % 12 < sW F.1; omega, by show (tn y * 12 + tn x) / 12 < sH F.1; omega⟩, n1, rfl, gg1, d1⟩
      · unfold zMT
        simp only [zwI_L, zwI_I, zwI_J, zwI_R, zwJ_L, zwJ_I, zwJ_J, zwJ_R, zwR_L, zwR_I, zwR_J, zwR_R, zw2_s, zw2_n, ne_eq, not_false_eq_true, reduceCtorEq, not_true_eq_false, Nat.reduceEqDiff, zup_n (show (17 : Nat) ≠ 31 by decide)]
        exact g4
      · simp only [zwI_L, zwI_I, zwI_J, zwI_R, zwJ_L, zwJ_I, zwJ_J, zwJ_R, zwR_L, zwR_I, zwR_J, zwR_R, zw2_s, zw2_n, ne_eq, not_false_eq_true, reduceCtorEq, not_true_eq_false, Nat.reduceEqDiff, zup_n (show (22 : Nat) ≠ 31 by decide)]
        exact g5
      · simp only [zwI_L, zwI_I, zwI_J, zwI_R, zwJ_L, zwJ_I, zwJ_J, zwJ_R, zwR_L, zwR_I, zwR_J, zwR_R, zw2_s, zw2_n, ne_eq, not_false_eq_true, reduceCtorEq, not_true_eq_false, Nat.reduceEqDiff, zup_n (show (1 : Nat) ≠ 31 by decide)]
        exact g6
  · exact h.elim
