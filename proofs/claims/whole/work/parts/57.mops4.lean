def zc_X8_count (a : List Value) (M : zMm) (K : zKt) : Prop := match a with
  | [.ref k, .int x] => k = 200 ∧ ∃ F, zMF M F ∧ ∀ M', zMF M' (pCount x F).2 → K (some (.int (pCount x F).1)) M'
  | _ => False
set_option maxHeartbeats 1000000 in
theorem zm_X8_count (l : Launch) (D : va_G) (Y : Nat → ClassId) : zMt l D Y yX8_count cX8_count 2 (some .int) 0 0 0 0 zc_X8_count := by
  refine zflat (by decide) (fun K J lc lz => zb_X8_count_0 K J) (fun X hR => zbs_X8_count_0 hR zJ0 zJ0_ok) (fun avs M K h => ?_)
  unfold zc_X8_count at h
  split at h
  · next k x =>
    obtain ⟨rfl, F, hF, h⟩ := h
    have hF1 := hF.th
    have h' := h _ hF1
    unfold pCount at h'
    dsimp only at h'
    refine ⟨by simp [zent], ?_⟩
    simp only [zb_X8_count_0, zT_tab, zsh_200, zT_push, zT_bin, zT_div, zT_bil, zT_shl, zT_un, zT_i2l, zT_l2i, zT_lcmp, zT_ild, zT_lld, zT_ald, zT_ist, zT_lst, zT_ast, zT_iinc, zT_dup, zT_dup2, zT_pop, zT_if1, zT_if2, zT_ifn, zT_getI, zT_getJ, zT_getR, zT_putI, zT_putZ, zT_putJ, zT_putR, zT_ald0, zT_lald, zT_aald, zT_iast, zT_zast, zT_bast, zT_last, zT_aast, zT_iret, zT_nret, zT_aret, zT_vret, zT_oi, zT_mm, zT_ialX, zT_S1, zT_S2, zT_S3, zT_V0, zT_V1, zT_V2, zT_V3, zT_V4, zT_V5, zT_V6, zT_I0, zT_I1, zT_I2, zlg, zlset, zlpr, zent, zok, va_rf, List.length_cons, List.length_nil, List.replicate, List.cons_append, List.nil_append, List.append_nil, Option.toList_some, Option.toList_none, Option.toList, Nat.reduceAdd, Nat.reduceSub, Nat.reduceLeDiff, Nat.zero_add, Nat.zero_le, true_and, and_true, Nat.le_refl, ge_iff_le, Nat.reduceEqDiff]
    generalize zwI M 200 0 0 = M1 at hF1 h' ⊢
    obtain ⟨g1, ⟨ok, w1, w2, w3, w4, w5, w6, w7, -⟩, g3, g4, g5, g6⟩ := id hF1
    refine ⟨fun j Q hQ hx => ?_, fun hx => ?_⟩
    · rcases j with _ | _ | _ | _ | _ | _ | _ | j
      · have e := tab_eq (by decide) hx
        subst e
        simp only [List.getElem?_cons_zero, Option.some.injEq] at hQ
        subst hQ
        simp only [zsh_200, w1, zT_push, zT_bin, zT_div, zT_bil, zT_shl, zT_un, zT_i2l, zT_l2i, zT_lcmp, zT_ild, zT_lld, zT_ald, zT_ist, zT_lst, zT_ast, zT_iinc, zT_dup, zT_dup2, zT_pop, zT_if1, zT_if2, zT_ifn, zT_getI, zT_getJ, zT_getR, zT_putI, zT_putZ, zT_putJ, zT_putR, zT_ald0, zT_lald, zT_aald, zT_iast, zT_zast, zT_bast, zT_last, zT_aast, zT_iret, zT_nret, zT_aret, zT_vret, zT_oi, zT_mm, zT_ialX, zT_S1, zT_S2, zT_S3, zT_V0, zT_V1, zT_V2, zT_V3, zT_V4, zT_V5, zT_V6, zT_I0, zT_I1, zT_I2, zlg, zlset, zlpr, zent, zok, va_rf, List.length_cons, List.length_nil, List.replicate, List.cons_append, List.nil_append, List.append_nil, Option.toList_some, Option.toList_none, Option.toList, Nat.reduceAdd, Nat.reduceSub, Nat.reduceLeDiff, Nat.zero_add, Nat.zero_le, true_and, and_true, Nat.le_refl, ge_iff_le, Nat.reduceEqDiff]
        exact h'
      · have e := tab_eq (by decide) hx
        subst e
        simp only [List.getElem?_cons_zero, List.getElem?_cons_succ, Option.some.injEq] at hQ
        subst hQ
        simp only [zsh_200, w2, zT_push, zT_bin, zT_div, zT_bil, zT_shl, zT_un, zT_i2l, zT_l2i, zT_lcmp, zT_ild, zT_lld, zT_ald, zT_ist, zT_lst, zT_ast, zT_iinc, zT_dup, zT_dup2, zT_pop, zT_if1, zT_if2, zT_ifn, zT_getI, zT_getJ, zT_getR, zT_putI, zT_putZ, zT_putJ, zT_putR, zT_ald0, zT_lald, zT_aald, zT_iast, zT_zast, zT_bast, zT_last, zT_aast, zT_iret, zT_nret, zT_aret, zT_vret, zT_oi, zT_mm, zT_ialX, zT_S1, zT_S2, zT_S3, zT_V0, zT_V1, zT_V2, zT_V3, zT_V4, zT_V5, zT_V6, zT_I0, zT_I1, zT_I2, zlg, zlset, zlpr, zent, zok, va_rf, List.length_cons, List.length_nil, List.replicate, List.cons_append, List.nil_append, List.append_nil, Option.toList_some, Option.toList_none, Option.toList, Nat.reduceAdd, Nat.reduceSub, Nat.reduceLeDiff, Nat.zero_add, Nat.zero_le, true_and, and_true, Nat.le_refl, ge_iff_le, Nat.reduceEqDiff]
        exact h'
      · have e := tab_eq (by decide) hx
        subst e
        simp only [List.getElem?_cons_zero, List.getElem?_cons_succ, Option.some.injEq] at hQ
        subst hQ
        simp only [zsh_200, w3, zT_push, zT_bin, zT_div, zT_bil, zT_shl, zT_un, zT_i2l, zT_l2i, zT_lcmp, zT_ild, zT_lld, zT_ald, zT_ist, zT_lst, zT_ast, zT_iinc, zT_dup, zT_dup2, zT_pop, zT_if1, zT_if2, zT_ifn, zT_getI, zT_getJ, zT_getR, zT_putI, zT_putZ, zT_putJ, zT_putR, zT_ald0, zT_lald, zT_aald, zT_iast, zT_zast, zT_bast, zT_last, zT_aast, zT_iret, zT_nret, zT_aret, zT_vret, zT_oi, zT_mm, zT_ialX, zT_S1, zT_S2, zT_S3, zT_V0, zT_V1, zT_V2, zT_V3, zT_V4, zT_V5, zT_V6, zT_I0, zT_I1, zT_I2, zlg, zlset, zlpr, zent, zok, va_rf, List.length_cons, List.length_nil, List.replicate, List.cons_append, List.nil_append, List.append_nil, Option.toList_some, Option.toList_none, Option.toList, Nat.reduceAdd, Nat.reduceSub, Nat.reduceLeDiff, Nat.zero_add, Nat.zero_le, true_and, and_true, Nat.le_refl, ge_iff_le, Nat.reduceEqDiff]
        exact h'
      · have e := tab_eq (by decide) hx
        subst e
        simp only [List.getElem?_cons_zero, List.getElem?_cons_succ, Option.some.injEq] at hQ
        subst hQ
        simp only [zsh_200, w5, zT_push, zT_bin, zT_div, zT_bil, zT_shl, zT_un, zT_i2l, zT_l2i, zT_lcmp, zT_ild, zT_lld, zT_ald, zT_ist, zT_lst, zT_ast, zT_iinc, zT_dup, zT_dup2, zT_pop, zT_if1, zT_if2, zT_ifn, zT_getI, zT_getJ, zT_getR, zT_putI, zT_putZ, zT_putJ, zT_putR, zT_ald0, zT_lald, zT_aald, zT_iast, zT_zast, zT_bast, zT_last, zT_aast, zT_iret, zT_nret, zT_aret, zT_vret, zT_oi, zT_mm, zT_ialX, zT_S1, zT_S2, zT_S3, zT_V0, zT_V1, zT_V2, zT_V3, zT_V4, zT_V5, zT_V6, zT_I0, zT_I1, zT_I2, zlg, zlset, zlpr, zent, zok, va_rf, List.length_cons, List.length_nil, List.replicate, List.cons_append, List.nil_append, List.append_nil, Option.toList_some, Option.toList_none, Option.toList, Nat.reduceAdd, Nat.reduceSub, Nat.reduceLeDiff, Nat.zero_add, Nat.zero_le, true_and, and_true, Nat.le_refl, ge_iff_le, Nat.reduceEqDiff]
        exact h'
      · have e := tab_eq (by decide) hx
        subst e
        simp only [List.getElem?_cons_zero, List.getElem?_cons_succ, Option.some.injEq] at hQ
        subst hQ
        simp only [zsh_200, w7, zT_push, zT_bin, zT_div, zT_bil, zT_shl, zT_un, zT_i2l, zT_l2i, zT_lcmp, zT_ild, zT_lld, zT_ald, zT_ist, zT_lst, zT_ast, zT_iinc, zT_dup, zT_dup2, zT_pop, zT_if1, zT_if2, zT_ifn, zT_getI, zT_getJ, zT_getR, zT_putI, zT_putZ, zT_putJ, zT_putR, zT_ald0, zT_lald, zT_aald, zT_iast, zT_zast, zT_bast, zT_last, zT_aast, zT_iret, zT_nret, zT_aret, zT_vret, zT_oi, zT_mm, zT_ialX, zT_S1, zT_S2, zT_S3, zT_V0, zT_V1, zT_V2, zT_V3, zT_V4, zT_V5, zT_V6, zT_I0, zT_I1, zT_I2, zlg, zlset, zlpr, zent, zok, va_rf, List.length_cons, List.length_nil, List.replicate, List.cons_append, List.nil_append, List.append_nil, Option.toList_some, Option.toList_none, Option.toList, Nat.reduceAdd, Nat.reduceSub, Nat.reduceLeDiff, Nat.zero_add, Nat.zero_le, true_and, and_true, Nat.le_refl, ge_iff_le, Nat.reduceEqDiff]
        exact h'
      · have e := tab_eq (by decide) hx
        subst e
        simp only [List.getElem?_cons_zero, List.getElem?_cons_succ, Option.some.injEq] at hQ
        subst hQ
        simp only [zsh_200, g3.1, zT_push, zT_bin, zT_div, zT_bil, zT_shl, zT_un, zT_i2l, zT_l2i, zT_lcmp, zT_ild, zT_lld, zT_ald, zT_ist, zT_lst, zT_ast, zT_iinc, zT_dup, zT_dup2, zT_pop, zT_if1, zT_if2, zT_ifn, zT_getI, zT_getJ, zT_getR, zT_putI, zT_putZ, zT_putJ, zT_putR, zT_ald0, zT_lald, zT_aald, zT_iast, zT_zast, zT_bast, zT_last, zT_aast, zT_iret, zT_nret, zT_aret, zT_vret, zT_oi, zT_mm, zT_ialX, zT_S1, zT_S2, zT_S3, zT_V0, zT_V1, zT_V2, zT_V3, zT_V4, zT_V5, zT_V6, zT_I0, zT_I1, zT_I2, zlg, zlset, zlpr, zent, zok, va_rf, List.length_cons, List.length_nil, List.replicate, List.cons_append, List.nil_append, List.append_nil, Option.toList_some, Option.toList_none, Option.toList, Nat.reduceAdd, Nat.reduceSub, Nat.reduceLeDiff, Nat.zero_add, Nat.zero_le, true_and, and_true, Nat.le_refl, ge_iff_le, Nat.reduceEqDiff]
        exact h'
      · have e := tab_eq (by decide) hx
        subst e
        simp only [List.getElem?_cons_zero, List.getElem?_cons_succ, Option.some.injEq] at hQ
        subst hQ
        simp only [zsh_200, g4.1, zT_push, zT_bin, zT_div, zT_bil, zT_shl, zT_un, zT_i2l, zT_l2i, zT_lcmp, zT_ild, zT_lld, zT_ald, zT_ist, zT_lst, zT_ast, zT_iinc, zT_dup, zT_dup2, zT_pop, zT_if1, zT_if2, zT_ifn, zT_getI, zT_getJ, zT_getR, zT_putI, zT_putZ, zT_putJ, zT_putR, zT_ald0, zT_lald, zT_aald, zT_iast, zT_zast, zT_bast, zT_last, zT_aast, zT_iret, zT_nret, zT_aret, zT_vret, zT_oi, zT_mm, zT_ialX, zT_S1, zT_S2, zT_S3, zT_V0, zT_V1, zT_V2, zT_V3, zT_V4, zT_V5, zT_V6, zT_I0, zT_I1, zT_I2, zlg, zlset, zlpr, zent, zok, va_rf, List.length_cons, List.length_nil, List.replicate, List.cons_append, List.nil_append, List.append_nil, Option.toList_some, Option.toList_none, Option.toList, Nat.reduceAdd, Nat.reduceSub, Nat.reduceLeDiff, Nat.zero_add, Nat.zero_le, true_and, and_true, Nat.le_refl, ge_iff_le, Nat.reduceEqDiff]
        exact h'
      · simp at hQ
    · have ne : ∀ j : Nat, j < 7 → x ≠ nI j := by
        intro j hj e
        subst e
        rw [nI_toInt (by omega)] at hx
        simp at hx
        omega
      rw [if_neg (show ¬ x = 0 from ne 0 (by decide)), if_neg (show ¬ x = 1 from ne 1 (by decide)), if_neg (show ¬ x = 2 from ne 2 (by decide)), if_neg (show ¬ x = 3 from ne 3 (by decide)), if_neg (show ¬ x = 4 from ne 4 (by decide)), if_neg (show ¬ x = 5 from ne 5 (by decide)), if_neg (show ¬ x = 6 from ne 6 (by decide))] at h'
      exact h'
  · exact h.elim
def zc_X8_four (a : List Value) (M : zMm) (K : zKt) : Prop := match a with
  | [.ref k, .int v] => k = 200 ∧ M.2.2.2 200 16 = some 208 ∧ ∃ tp, zMT M tp ∧ tp.length + 4 ≤ 300 ∧ ∀ M', zsm [200, 208] M M' → (∀ j, j ≠ 17 → M'.2.1 200 j = M.2.1 200 j) → zMT M' (tp ++ pF4 v) → K none M'
  | _ => False
theorem zMT.add {M : zMm} {tp : List Nat} {x : Int32} (h : zMT M tp) (hl : tp.length < 300) : zMT (zwI (zwI M 208 tp.length (x &&& 255)) 200 17 (nI tp.length + 1)) (tp ++ [pby x]) := by
  obtain ⟨h1, h2, h3⟩ := h
  refine ⟨?_, by rw [List.length_append, List.length_singleton]; omega, fun i b hi => ?_⟩
  · simp only [zwI_L, zwI_I, zwI_J, zwI_R, zwJ_L, zwJ_I, zwJ_J, zwJ_R, zwR_L, zwR_I, zwR_J, zwR_R, zw2_s, zw2_n, ne_eq, not_false_eq_true, reduceCtorEq, not_true_eq_false, Nat.reduceEqDiff, List.length_append, List.length_singleton]
    rw [zup_s, nI_1]
  · simp only [zwI_L, zwI_I, zwI_J, zwI_R, zwJ_L, zwJ_I, zwJ_J, zwJ_R, zwR_L, zwR_I, zwR_J, zwR_R, zw2_s, zw2_n, ne_eq, not_false_eq_true, reduceCtorEq, not_true_eq_false, Nat.reduceEqDiff]
    by_cases q : i < tp.length
    · rw [List.getElem?_append_left q] at hi
      rw [zup_n (by omega)]
      exact h3 i b hi
    · rw [List.getElem?_append_right (by omega)] at hi
      have q2 : i = tp.length := by
        rcases Nat.lt_or_ge (i - tp.length) 1 with z | z
        · omega
        · rw [List.getElem?_eq_none (by simpa using z)] at hi; cases hi
      subst q2
      simp at hi
      subst hi
      rw [zup_s]
      exact ⟨pby_lt x, pby_and x⟩
set_option maxHeartbeats 1000000 in
theorem zm_X8_four (l : Launch) (D : va_G) (Y : Nat → ClassId) : zMt l D Y yX8_four cX8_four 3 none 0 0 0 0 zc_X8_four := by
  refine zwhile1 (h0 := 3) (by decide) (fun K J _ _ => zb_X8_four_0 K J) (fun K _ _ J => zb_X8_four_3 K J) (fun X hR J hJ => zbs_X8_four_0 hR J hJ) (fun X hR J hJ => zbs_X8_four_3 hR J hJ) (fun avs M K h => ?_)
  unfold zc_X8_four at h
  split at h
  · next k v =>
    obtain ⟨rfl, hr, tp, hT, hl, h⟩ := h
    refine ⟨by simp [zent], fun q M' ls st => ∃ t, q = 4 - t ∧ t ≤ 4 ∧ ls = [some (.ref 200), some (.int v), some (.int (24 - nI (8 * t)))] ∧ st = [] ∧ zsm [200, 208] M M' ∧ (∀ j, j ≠ 17 → M'.2.1 200 j = M.2.1 200 j) ∧ zMT M' (tp ++ (pF4 v).take t), ?_, ?_⟩
    · rintro q J hJ M' ls st ⟨t, rfl, ht, rfl, rfl, hs, hj, hT'⟩
      have hr' : M'.2.2.2 200 16 = some 208 := by rw [hs.R]; exact hr
      have hl' : (tp ++ (pF4 v).take t).length = tp.length + t := by
        rw [List.length_append, List.length_take, pF4_len, Nat.min_eq_left ht]
      have t1 := hT'.1
      simp only [zb_X8_four_3, zsh_200, zsh_208, hr', t1, hl', zwI_R, zwI_I, zw2_n (show (200 : Nat) ≠ 208 by decide), zT_push, zT_bin, zT_div, zT_bil, zT_shl, zT_un, zT_i2l, zT_l2i, zT_lcmp, zT_ild, zT_lld, zT_ald, zT_ist, zT_lst, zT_ast, zT_iinc, zT_dup, zT_dup2, zT_pop, zT_if1, zT_if2, zT_ifn, zT_getI, zT_getJ, zT_getR, zT_putI, zT_putZ, zT_putJ, zT_putR, zT_ald0, zT_lald, zT_aald, zT_iast, zT_zast, zT_bast, zT_last, zT_aast, zT_iret, zT_nret, zT_aret, zT_vret, zT_oi, zT_mm, zT_ialX, zT_S1, zT_S2, zT_S3, zT_V0, zT_V1, zT_V2, zT_V3, zT_V4, zT_V5, zT_V6, zT_I0, zT_I1, zT_I2, zlg, zlset, zlpr, zent, zok, va_rf, List.length_cons, List.length_nil, List.replicate, List.cons_append, List.nil_append, List.append_nil, Option.toList_some, Option.toList_none, Option.toList, Nat.reduceAdd, Nat.reduceSub, Nat.reduceLeDiff, Nat.zero_add, Nat.zero_le, true_and, and_true, Nat.le_refl, ge_iff_le, Nat.reduceEqDiff]
      have t4 : ¬ (24 - nI (8 * t) < 0) → t < 4 := by
        intro h1
        rcases Nat.lt_or_ge t 4 with q | q
        · exact q
        · have e : t = 4 := by omega
          subst e
          exact absurd (by decide) h1
      refine ⟨fun h1 => ?_, fun h1 => ?_⟩
      · have e : t = 4 := by
          rcases t with _ | _ | _ | _ | _ | t
          · exact absurd h1 (by decide)
          · exact absurd h1 (by decide)
          · exact absurd h1 (by decide)
          · exact absurd h1 (by decide)
          · rfl
          · omega
        subst e
        exact h M' hs hj hT'
      · have hlt := t4 h1
        refine ⟨vp_in_nI (by omega) (by decide), ?_⟩
        rw [nI_clamp (by omega)]
        refine hJ (4 - (t + 1)) _ _ _ (by omega) ⟨t + 1, rfl, by omega, ?_, rfl, (hs.w (by simp)).w (by simp), fun j hj' => ?_, ?_⟩
        · have : ∀ t, t < 4 → 24 - nI (8 * t) + (-8) = 24 - nI (8 * (t + 1)) := by decide
          rw [this t hlt]
        · simp only [zwI_L, zwI_I, zwI_J, zwI_R, zwJ_L, zwJ_I, zwJ_J, zwJ_R, zwR_L, zwR_I, zwR_J, zwR_R, zw2_s, zw2_n, ne_eq, not_false_eq_true, reduceCtorEq, not_true_eq_false, Nat.reduceEqDiff]
          rw [zup_n hj']
          exact hj j hj'
        · have := hT'.add (x := v >>> ((24 - nI (8 * t)) &&& 31)) (by omega)
          rw [hl'] at this
          have e : (tp ++ (pF4 v).take t) ++ [pby (v >>> ((24 - nI (8 * t)) &&& 31))] = tp ++ (pF4 v).take (t + 1) := by
            rw [List.append_assoc]
            congr 1
            rcases t with _ | _ | _ | _ | t
            · rfl
            · rfl
            · rfl
            · rfl
            · omega
          rw [e] at this
          exact this
    · intro J hJ
      simp only [zb_X8_four_0, zT_push, zT_bin, zT_div, zT_bil, zT_shl, zT_un, zT_i2l, zT_l2i, zT_lcmp, zT_ild, zT_lld, zT_ald, zT_ist, zT_lst, zT_ast, zT_iinc, zT_dup, zT_dup2, zT_pop, zT_if1, zT_if2, zT_ifn, zT_getI, zT_getJ, zT_getR, zT_putI, zT_putZ, zT_putJ, zT_putR, zT_ald0, zT_lald, zT_aald, zT_iast, zT_zast, zT_bast, zT_last, zT_aast, zT_iret, zT_nret, zT_aret, zT_vret, zT_oi, zT_mm, zT_ialX, zT_S1, zT_S2, zT_S3, zT_V0, zT_V1, zT_V2, zT_V3, zT_V4, zT_V5, zT_V6, zT_I0, zT_I1, zT_I2, zlg, zlset, zlpr, zent, zok, va_rf, List.length_cons, List.length_nil, List.replicate, List.cons_append, List.nil_append, List.append_nil, Option.toList_some, Option.toList_none, Option.toList, Nat.reduceAdd, Nat.reduceSub, Nat.reduceLeDiff, Nat.zero_add, Nat.zero_le, true_and, and_true, Nat.le_refl, ge_iff_le, Nat.reduceEqDiff]
      refine hJ 4 _ _ _ ⟨0, rfl, by omega, rfl, rfl, zsm.rf, fun _ _ => rfl, ?_⟩
      rw [List.take_zero, List.append_nil]
      exact hT
  · exact h.elim
