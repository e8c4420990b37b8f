def zc_X8_size (a : List Value) (M : zMm) (K : zKt) : Prop := match a with
  | [.ref k, .int w, .int h] => k = 200 ∧ ∃ F, zMF M F ∧ ∀ M', zMF M' (pSize w h F).2 → K (some (.int (pSize w h F).1)) M'
  | _ => False
set_option maxHeartbeats 1000000 in
theorem zm_X8_size (l : Launch) (D : va_G) (Y : Nat → ClassId) : zMt l D Y yX8_size cX8_size 3 (some .int) 1 25 0 0 zc_X8_size := by
  refine zflat (by decide) (fun K J lc lz => zb_X8_size_0 K J) (fun X hR => zbs_X8_size_0 hR zJ0 zJ0_ok) (fun avs M K h => ?_)
  unfold zc_X8_size at h
  split at h
  · next k w h' =>
    obtain ⟨rfl, F, hF, h⟩ := h
    have hF1 := hF.th
    refine ⟨by simp [zent], ?_⟩
    simp only [zb_X8_size_0, zsh_200, zT_push, zT_bin, zT_div, zT_bil, zT_shl, zT_un, zT_i2l, zT_l2i, zT_lcmp, zT_ild, zT_lld, zT_ald, zT_ist, zT_lst, zT_ast, zT_iinc, zT_dup, zT_dup2, zT_pop, zT_if1, zT_if2, zT_ifn, zT_getI, zT_getJ, zT_getR, zT_putI, zT_putZ, zT_putJ, zT_putR, zT_ald0, zT_lald, zT_aald, zT_iast, zT_zast, zT_bast, zT_last, zT_aast, zT_iret, zT_nret, zT_aret, zT_vret, zT_oi, zT_mm, zT_ialX, zT_S1, zT_S2, zT_S3, zT_V0, zT_V1, zT_V2, zT_V3, zT_V4, zT_V5, zT_V6, zT_I0, zT_I1, zT_I2, zlg, zlset, zlpr, zent, zok, va_rf, List.length_cons, List.length_nil, List.replicate, List.cons_append, List.nil_append, List.append_nil, Option.toList_some, Option.toList_none, Option.toList, Nat.reduceAdd, Nat.reduceSub, Nat.reduceLeDiff, Nat.zero_add, Nat.zero_le, true_and, and_true, Nat.le_refl, ge_iff_le, Nat.reduceEqDiff]
    generalize zwI M 200 0 0 = M1 at hF1 ⊢
    have bad : ¬ ((2 ≤ w ∧ w ≤ 12) ∧ 2 ≤ h' ∧ h' ≤ 10) → zb_X8_size_33 K zJ0 M1 [some (.ref 200), some (.int w), some (.int h')] [] := by
      intro hb
      simp only [zb_X8_size_33, zsh_200, zT_push, zT_bin, zT_div, zT_bil, zT_shl, zT_un, zT_i2l, zT_l2i, zT_lcmp, zT_ild, zT_lld, zT_ald, zT_ist, zT_lst, zT_ast, zT_iinc, zT_dup, zT_dup2, zT_pop, zT_if1, zT_if2, zT_ifn, zT_getI, zT_getJ, zT_getR, zT_putI, zT_putZ, zT_putJ, zT_putR, zT_ald0, zT_lald, zT_aald, zT_iast, zT_zast, zT_bast, zT_last, zT_aast, zT_iret, zT_nret, zT_aret, zT_vret, zT_oi, zT_mm, zT_ialX, zT_S1, zT_S2, zT_S3, zT_V0, zT_V1, zT_V2, zT_V3, zT_V4, zT_V5, zT_V6, zT_I0, zT_I1, zT_I2, zlg, zlset, zlpr, zent, zok, va_rf, List.length_cons, List.length_nil, List.replicate, List.cons_append, List.nil_append, List.append_nil, Option.toList_some, Option.toList_none, Option.toList, Nat.reduceAdd, Nat.reduceSub, Nat.reduceLeDiff, Nat.zero_add, Nat.zero_le, true_and, and_true, Nat.le_refl, ge_iff_le, Nat.reduceEqDiff]
      unfold zc_X8_told
      dsimp only
      refine ⟨rfl, ?_⟩
      have h2 := h (zwI M1 200 1 (-1))
      unfold pSize at h2
      rw [if_neg hb] at h2
      exact h2 (hF1.told (-1))
    unfold zc_X8_in
    dsimp only
    have e1 : zbI (2 ≤ w.toInt64 ∧ w.toInt64 ≤ 12) = zbI (2 ≤ w ∧ w ≤ 12) := zin_c (a := 2) (b := 12) (by decide) (by decide)
    have e2 : zbI (2 ≤ h'.toInt64 ∧ h'.toInt64 ≤ 10) = zbI (2 ≤ h' ∧ h' ≤ 10) := zin_c (a := 2) (b := 10) (by decide) (by decide)
    rw [e1, e2]
    simp only [zbI_0, zsh_200, zT_push, zT_bin, zT_div, zT_bil, zT_shl, zT_un, zT_i2l, zT_l2i, zT_lcmp, zT_ild, zT_lld, zT_ald, zT_ist, zT_lst, zT_ast, zT_iinc, zT_dup, zT_dup2, zT_pop, zT_if1, zT_if2, zT_ifn, zT_getI, zT_getJ, zT_getR, zT_putI, zT_putZ, zT_putJ, zT_putR, zT_ald0, zT_lald, zT_aald, zT_iast, zT_zast, zT_bast, zT_last, zT_aast, zT_iret, zT_nret, zT_aret, zT_vret, zT_oi, zT_mm, zT_ialX, zT_S1, zT_S2, zT_S3, zT_V0, zT_V1, zT_V2, zT_V3, zT_V4, zT_V5, zT_V6, zT_I0, zT_I1, zT_I2, zlg, zlset, zlpr, zent, zok, va_rf, List.length_cons, List.length_nil, List.replicate, List.cons_append, List.nil_append, List.append_nil, Option.toList_some, Option.toList_none, Option.toList, Nat.reduceAdd, Nat.reduceSub, Nat.reduceLeDiff, Nat.zero_add, Nat.zero_le, true_and, and_true, Nat.le_refl, ge_iff_le, Nat.reduceEqDiff]
    refine ⟨fun h1 => bad (fun z => h1 z.1), fun h1 => ⟨fun h2 => bad (fun z => h2 z.2), fun h2 => ?_⟩⟩
    have c1 := Classical.not_not.mp h1
    have c2 := Classical.not_not.mp h2
    obtain ⟨x1, x2⟩ := tn_nI (x := w) (b := 12) (Int32.le_trans (by decide) c1.1) c1.2 (by decide)
    obtain ⟨x3, x4⟩ := tn_nI (x := h') (b := 10) (Int32.le_trans (by decide) c2.1) c2.2 (by decide)
    have c1' : 2 ≤ tn w := by have := c1.1; rw [x1] at this; exact (nI_leI (a := 2) (by decide) (by omega)).mp this
    have c2' : 2 ≤ tn h' := by have := c2.1; rw [x3] at this; exact (nI_leI (a := 2) (by decide) (by omega)).mp this
    obtain ⟨g1, ⟨ok, w1, w2, w3, w4, w5, w6, w7⟩, g3, g4, g5, g6⟩ := hF1
    unfold zc_X8_flat
    dsimp only
    refine ⟨rfl, g1.1, fun M2 hs q5 q31 q qL => ?_⟩
    simp only [zsh_200, zT_push, zT_bin, zT_div, zT_bil, zT_shl, zT_un, zT_i2l, zT_l2i, zT_lcmp, zT_ild, zT_lld, zT_ald, zT_ist, zT_lst, zT_ast, zT_iinc, zT_dup, zT_dup2, zT_pop, zT_if1, zT_if2, zT_ifn, zT_getI, zT_getJ, zT_getR, zT_putI, zT_putZ, zT_putJ, zT_putR, zT_ald0, zT_lald, zT_aald, zT_iast, zT_zast, zT_bast, zT_last, zT_aast, zT_iret, zT_nret, zT_aret, zT_vret, zT_oi, zT_mm, zT_ialX, zT_S1, zT_S2, zT_S3, zT_V0, zT_V1, zT_V2, zT_V3, zT_V4, zT_V5, zT_V6, zT_I0, zT_I1, zT_I2, zlg, zlset, zlpr, zent, zok, va_rf, List.length_cons, List.length_nil, List.replicate, List.cons_append, List.nil_append, List.append_nil, Option.toList_some, Option.toList_none, Option.toList, Nat.reduceAdd, Nat.reduceSub, Nat.reduceLeDiff, Nat.zero_add, Nat.zero_le, true_and, and_true, Nat.le_refl, ge_iff_le, Nat.reduceEqDiff]
    unfold zc_X8_told
    dsimp only
    refine ⟨rfl, ?_⟩
    have h4 := h (zwI M2 200 1 0)
    unfold pSize at h4
    rw [if_pos ⟨c1, c2⟩] at h4
    refine h4 (zMF.told (F := ((tn w, tn h', sL F.1, 0, sF F.1, fun _ => 50, sA F.1), [], F.2.2.1, F.2.2.2.1, F.2.2.2.2)) ?_ 0)
    have qj : ∀ j, j ≠ 5 → j ≠ 31 → j ≠ 2 → j ≠ 3 → M2.2.1 200 j = M1.2.1 200 j := fun j a b c d => by
      rw [q j a b]
      simp only [zwI_L, zwI_I, zwI_J, zwI_R, zwJ_L, zwJ_I, zwJ_J, zwJ_R, zwR_L, zwR_I, zwR_J, zwR_R, zw2_s, zw2_n, ne_eq, not_false_eq_true, reduceCtorEq, not_true_eq_false, Nat.reduceEqDiff]
      rw [zup_n d, zup_n c]
    have q2 : M2.2.1 200 2 = w := by rw [q 2 (by decide) (by decide)]; simp only [zwI_L, zwI_I, zwI_J, zwI_R, zwJ_L, zwJ_I, zwJ_J, zwJ_R, zwR_L, zwR_I, zwR_J, zwR_R, zw2_s, zw2_n, ne_eq, not_false_eq_true, reduceCtorEq, not_true_eq_false, Nat.reduceEqDiff]; rw [zup_n (by decide), zup_s]
    have q3 : M2.2.1 200 3 = h' := by rw [q 3 (by decide) (by decide)]; simp only [zwI_L, zwI_I, zwI_J, zwI_R, zwJ_L, zwJ_I, zwJ_J, zwJ_R, zwR_L, zwR_I, zwR_J, zwR_R, zw2_s, zw2_n, ne_eq, not_false_eq_true, reduceCtorEq, not_true_eq_false, Nat.reduceEqDiff]; rw [zup_s]
    have qI : ∀ k, k ≠ 200 → k ≠ 201 → M2.2.1 k = M1.2.1 k := fun k a b => by
      rw [hs.at (by simp; omega)]
      show zw2 (zw2 M1.2.1 200 2 w) 200 3 h' k = _
      rw [zw2_n a, zw2_n a]
    obtain ⟨k1, k2, k3, k4, k5, k6, k7, k8, k9⟩ := ok
    refine ⟨?_, ⟨⟨c1', x2, c2', x4, k5, by show 0 < 120; decide, ⟨by show 0 % 12 < tn w; omega, by show 0 / 12 < tn h'; omega⟩, k8, fun e => by show 50 ≤ 200; decide⟩, q2.trans x1, q3.trans x3, (qj 4 (by decide) (by decide) (by decide) (by decide)).trans w3, ?_, (qj 6 (by decide) (by decide) (by decide) (by decide)).trans w5, fun e he => ?_, ?_⟩, ⟨q31, Nat.zero_le _, fun i e hi => by simp at hi⟩, ?_, (qj 22 (by decide) (by decide) (by decide) (by decide)).trans g5, (qj 1 (by decide) (by decide) (by decide) (by decide)).trans g6⟩
    · have : M2.2.2.2 = M1.2.2.2 := hs.R
      unfold zMr; rw [this]; exact g1
    · rw [q5]
      show (0 : Int32) = nI (mI (tn w) 0)
      unfold mI
      simp
      rfl
    · exact (qL _ (mI_120 x2 x4 he)).trans rfl
    · rw [qj 8 (by decide) (by decide) (by decide) (by decide), qI 202 (by omega) (by omega), qI 203 (by omega) (by omega), qI 204 (by omega) (by omega), qI 205 (by omega) (by omega), qI 206 (by omega) (by omega)]
      exact w7
    · unfold zMT
      rw [qj 17 (by decide) (by decide) (by decide) (by decide), qI 208 (by omega) (by omega)]
      exact g4
  · exact h.elim
def zc_X8_end (a : List Value) (M : zMm) (K : zKt) : Prop := match a with
  | [.ref k, .int n] => k = 200 ∧ ∃ F, zMF M F ∧ ∀ M', zMF M' (pEnd n F).2 → K (some (.int (pEnd n F).1)) M'
  | _ => False
set_option maxHeartbeats 1000000 in
theorem zm_X8_end (l : Launch) (D : va_G) (Y : Nat → ClassId) : zMt l D Y yX8_end cX8_end 2 (some .int) 0 0 0 0 zc_X8_end := by
  refine zflat (by decide) (fun K J lc lz => zb_X8_end_0 K J) (fun X hR => zbs_X8_end_0 hR zJ0 zJ0_ok) (fun avs M K h => ?_)
  unfold zc_X8_end at h
  split at h
  · next k n =>
    obtain ⟨rfl, F, hF, h⟩ := h
    have hF1 := hF.th
    refine ⟨by simp [zent], ?_⟩
    simp only [zb_X8_end_0, zsh_200, zT_push, zT_bin, zT_div, zT_bil, zT_shl, zT_un, zT_i2l, zT_l2i, zT_lcmp, zT_ild, zT_lld, zT_ald, zT_ist, zT_lst, zT_ast, zT_iinc, zT_dup, zT_dup2, zT_pop, zT_if1, zT_if2, zT_ifn, zT_getI, zT_getJ, zT_getR, zT_putI, zT_putZ, zT_putJ, zT_putR, zT_ald0, zT_lald, zT_aald, zT_iast, zT_zast, zT_bast, zT_last, zT_aast, zT_iret, zT_nret, zT_aret, zT_vret, zT_oi, zT_mm, zT_ialX, zT_S1, zT_S2, zT_S3, zT_V0, zT_V1, zT_V2, zT_V3, zT_V4, zT_V5, zT_V6, zT_I0, zT_I1, zT_I2, zlg, zlset, zlpr, zent, zok, va_rf, List.length_cons, List.length_nil, List.replicate, List.cons_append, List.nil_append, List.append_nil, Option.toList_some, Option.toList_none, Option.toList, Nat.reduceAdd, Nat.reduceSub, Nat.reduceLeDiff, Nat.zero_add, Nat.zero_le, true_and, and_true, Nat.le_refl, ge_iff_le, Nat.reduceEqDiff]
    generalize zwI M 200 0 0 = M1 at hF1 ⊢
    obtain ⟨g1, g2, g3, ⟨t1, t2, t3⟩, g5, g6⟩ := id hF1
    have bad : ¬ (0 ≤ n ∧ n ≤ nI F.2.2.1.length) → K (some (.int (-1))) M1 := by
      intro hb
      have h2 := h M1
      unfold pEnd at h2
      rw [if_neg hb] at h2
      exact h2 hF1
    simp only [zb_X8_end_17, t1, zT_push, zT_bin, zT_div, zT_bil, zT_shl, zT_un, zT_i2l, zT_l2i, zT_lcmp, zT_ild, zT_lld, zT_ald, zT_ist, zT_lst, zT_ast, zT_iinc, zT_dup, zT_dup2, zT_pop, zT_if1, zT_if2, zT_ifn, zT_getI, zT_getJ, zT_getR, zT_putI, zT_putZ, zT_putJ, zT_putR, zT_ald0, zT_lald, zT_aald, zT_iast, zT_zast, zT_bast, zT_last, zT_aast, zT_iret, zT_nret, zT_aret, zT_vret, zT_oi, zT_mm, zT_ialX, zT_S1, zT_S2, zT_S3, zT_V0, zT_V1, zT_V2, zT_V3, zT_V4, zT_V5, zT_V6, zT_I0, zT_I1, zT_I2, zlg, zlset, zlpr, zent, zok, va_rf, List.length_cons, List.length_nil, List.replicate, List.cons_append, List.nil_append, List.append_nil, Option.toList_some, Option.toList_none, Option.toList, Nat.reduceAdd, Nat.reduceSub, Nat.reduceLeDiff, Nat.zero_add, Nat.zero_le, true_and, and_true, Nat.le_refl, ge_iff_le, Nat.reduceEqDiff]
    refine ⟨fun h1 => bad (fun z => Int32.not_lt.mpr z.1 h1), fun h1 => ⟨fun h2 => ?_, fun h2 => bad (fun z => h2 z.2)⟩⟩
    have c1 : 0 ≤ n ∧ n ≤ nI F.2.2.1.length := ⟨Int32.not_lt.mp h1, h2⟩
    obtain ⟨e1, e2⟩ := tn_nI c1.1 c1.2 (by omega)
    have h3 := h (zwI M1 200 17 n)
    unfold pEnd at h3
    rw [if_pos c1] at h3
    have q : ∀ j, j ≠ 17 → (zwI M1 200 17 n).2.1 200 j = M1.2.1 200 j := fun j hj => by simp only [zwI_L, zwI_I, zwI_J, zwI_R, zwJ_L, zwJ_I, zwJ_J, zwJ_R, zwR_L, zwR_I, zwR_J, zwR_R, zw2_s, zw2_n, ne_eq, not_false_eq_true, reduceCtorEq, not_true_eq_false, Nat.reduceEqDiff]; rw [zup_n hj]
    have qI : ∀ k, k ≠ 200 → (zwI M1 200 17 n).2.1 k = M1.2.1 k := fun k hk => zw2_n hk
    refine h3 ⟨g1, ?_, ?_, ⟨?_, ?_, fun i b hb => ?_⟩, (q 22 (by decide)).trans g5, (q 1 (by decide)).trans g6⟩
    · unfold zMS
      rw [q 2 (by omega), q 3 (by omega), q 4 (by omega), q 5 (by omega), q 6 (by omega), q 8 (by omega), qI 201 (by omega), qI 202 (by omega), qI 203 (by omega), qI 204 (by omega), qI 205 (by omega), qI 206 (by omega)]
      exact g2
    · unfold zME
      rw [q 31 (by omega), qI 216 (by omega), qI 217 (by omega), qI 218 (by omega), qI 219 (by omega)]
      exact g3
    · simp only [zwI_L, zwI_I, zwI_J, zwI_R, zwJ_L, zwJ_I, zwJ_J, zwJ_R, zwR_L, zwR_I, zwR_J, zwR_R, zw2_s, zw2_n, ne_eq, not_false_eq_true, reduceCtorEq, not_true_eq_false, Nat.reduceEqDiff, List.length_take]
      rw [zup_s, Nat.min_eq_left e2]
      exact e1
    · show (F.2.2.1.take (tn n)).length ≤ 300
      rw [List.length_take, Nat.min_eq_left e2]
      omega
    · rw [qI 208 (by decide)]
      refine t3 i b ?_
      have hb' : (F.2.2.1.take (tn n))[i]? = some b := hb
      rw [List.getElem?_take] at hb'
      split at hb'
      · exact hb'
      · cases hb'
  · exact h.elim
