theorem pWasted_2 (d : Int32) (F : wFS) : (pWasted d F).2 = F := by
  unfold pWasted
  split <;> rfl
theorem woi_lt {o : Option Nat} (h : ∀ j, o = some j → j < 2 ^ 31) : woi o < 0 ↔ o = none := by
  rcases o with _ | j
  · exact ⟨fun _ => rfl, fun _ => by decide⟩
  · refine ⟨fun z => ?_, fun z => by cases z⟩
    have hj := h j rfl
    have z' : nI j < 0 := z
    have := (nI_leI (a := 0) (b := j) (by decide) hj).mpr (Nat.zero_le _)
    exact absurd z' (Int32.not_lt.mpr this)
def zc_X8_wasted (a : List Value) (M : zMm) (K : zKt) : Prop := match a with
  | [.ref k, .int d] => k = 200 ∧ ∃ F, zMF M F ∧ ∀ M', zMF M' (pWasted d F).2 → K (some (.int (pWasted d F).1)) M'
  | _ => False
set_option maxHeartbeats 1000000 in
theorem zm_X8_wasted (l : Launch) (D : va_G) (Y : Nat → ClassId) : zMt l D Y yX8_wasted cX8_wasted 4 (some .int) 7 173 0 0 zc_X8_wasted := by
  refine zwhile1 (h0 := 23) (by decide) (fun K J _ _ => zb_X8_wasted_0 K J) (fun K _ _ J => zb_X8_wasted_23 K J) (fun X hR J hJ => zbs_X8_wasted_0 hR J hJ) (fun X hR J hJ => zbs_X8_wasted_23 hR J hJ) (fun avs M K h => ?_)
  unfold zc_X8_wasted at h
  split at h
  · next k d =>
    obtain ⟨rfl, F, hF, h⟩ := h
    have hF1 := hF.th
    obtain ⟨-, -, ⟨-, en2, -⟩, -⟩ := id hF
    rw [pWasted_2] at h
    refine ⟨by simp [zent], fun q M' ls st => ∃ r f, q = 36 - r ∧ r ≤ 36 ∧ (0 ≤ d ∧ d ≤ 1000) ∧ zMF M' F ∧ mbf M' F (tn d) ∧ wws F.1 F.2.1 (tn d) r = some f ∧ (∀ j, f = some j → j < 200) ∧ ls = [some (.ref 200), some (.int d), some (.int (woi f)), some (.int (nI r))] ∧ st = [], ?_, ?_⟩
    · rintro q J hJ M' ls st ⟨r, f, rfl, hr, hc, hF', hb, hw, hfb, rfl, rfl⟩
      obtain ⟨g1, -⟩ := id hF'
      obtain ⟨r7, -, -, -, -, -, -, -, r24, r25, r26, r27, r28, r29, r30, r32, r33, r34, r35, r36, r37⟩ := id g1
      simp only [zb_X8_wasted_23, zsh_200, zsh_220, zsh_221, r36, r37, zT_push, zT_bin, zT_div, zT_bil, zT_shl, zT_un, zT_i2l, zT_l2i, zT_lcmp, zT_ild, zT_lld, zT_ald, zT_ist, zT_lst, zT_ast, zT_iinc, zT_dup, zT_dup2, zT_pop, zT_if1, zT_if2, zT_ifn, zT_getI, zT_getJ, zT_getR, zT_putI, zT_putZ, zT_putJ, zT_putR, zT_ald0, zT_lald, zT_aald, zT_iast, zT_zast, zT_bast, zT_last, zT_aast, zT_iret, zT_nret, zT_aret, zT_vret, zT_oi, zT_mm, zT_ialX, zT_S1, zT_S2, zT_S3, zT_V0, zT_V1, zT_V2, zT_V3, zT_V4, zT_V5, zT_V6, zT_I0, zT_I1, zT_I2, zlg, zlset, zlpr, zent, zok, va_rf, List.length_cons, List.length_nil, List.replicate, List.cons_append, List.nil_append, List.append_nil, Option.toList_some, Option.toList_none, Option.toList, Nat.reduceAdd, Nat.reduceSub, Nat.reduceLeDiff, Nat.zero_add, Nat.zero_le, true_and, and_true, Nat.le_refl, ge_iff_le, Nat.reduceEqDiff]
      rw [nI_clamp (by omega)]
      unfold pWasted at h
      rw [if_pos hc] at h
      refine ⟨fun h1 => ?_, fun h1 => ?_⟩
      · have := zn_ge' (b := 36) h1 (by omega) (by omega)
        have e : r = 36 := by omega
        subst e
        rw [hw] at h
        exact h M' hF'
      · have hlt := zn_ge (b := 36) h1 (by omega) (by omega)
        obtain ⟨hb1, hb2⟩ := hb r hlt
        rw [hb1, hb2]
        have hin : vp_in (nI r) 36 := vp_in_nI hlt (by decide)
        have hwle : wct (mbk F.1 F.2.1 r (tn d)) F.2.1.length ≤ 200 := Nat.le_trans (wct_le _ _) en2
        have hun : wws F.1 F.2.1 (tn d) (r + 1) = wwst F.1 F.2.1 (tn d) r f := by
          show (wws F.1 F.2.1 (tn d) r).bind (wwst F.1 F.2.1 (tn d) r) = _
          rw [hw]
          rfl
        have S71 : ∀ f', wws F.1 F.2.1 (tn d) (r + 1) = some f' → (∀ j, f' = some j → j < 200) → ∀ v, v = woi f' → zb_X8_wasted_71 K J M' [some (.ref 200), some (.int d), some (.int v), some (.int (nI r))] [] := by
          intro f' hf' hb' v hv
          simp only [zb_X8_wasted_71, zT_push, zT_bin, zT_div, zT_bil, zT_shl, zT_un, zT_i2l, zT_l2i, zT_lcmp, zT_ild, zT_lld, zT_ald, zT_ist, zT_lst, zT_ast, zT_iinc, zT_dup, zT_dup2, zT_pop, zT_if1, zT_if2, zT_ifn, zT_getI, zT_getJ, zT_getR, zT_putI, zT_putZ, zT_putJ, zT_putR, zT_ald0, zT_lald, zT_aald, zT_iast, zT_zast, zT_bast, zT_last, zT_aast, zT_iret, zT_nret, zT_aret, zT_vret, zT_oi, zT_mm, zT_ialX, zT_S1, zT_S2, zT_S3, zT_V0, zT_V1, zT_V2, zT_V3, zT_V4, zT_V5, zT_V6, zT_I0, zT_I1, zT_I2, zlg, zlset, zlpr, zent, zok, va_rf, List.length_cons, List.length_nil, List.replicate, List.cons_append, List.nil_append, List.append_nil, Option.toList_some, Option.toList_none, Option.toList, Nat.reduceAdd, Nat.reduceSub, Nat.reduceLeDiff, Nat.zero_add, Nat.zero_le, true_and, and_true, Nat.le_refl, ge_iff_le, Nat.reduceEqDiff]
          exact hJ (36 - (r + 1)) _ _ _ (by omega) ⟨r + 1, f', rfl, hlt, hc, hF', hb, hf', hb', by rw [nI_1, hv], rfl⟩
        have S64 : ∀ e, wAG F.1 F.2.1 r (tn d) 0 = some e → wws F.1 F.2.1 (tn d) (r + 1) = some (some e) → zb_X8_wasted_64 K J M' [some (.ref 200), some (.int d), some (.int (woi f)), some (.int (nI r))] [] := by
          intro e he hf'
          simp only [zb_X8_wasted_64, zsh_200, zsh_221, r37, zT_push, zT_bin, zT_div, zT_bil, zT_shl, zT_un, zT_i2l, zT_l2i, zT_lcmp, zT_ild, zT_lld, zT_ald, zT_ist, zT_lst, zT_ast, zT_iinc, zT_dup, zT_dup2, zT_pop, zT_if1, zT_if2, zT_ifn, zT_getI, zT_getJ, zT_getR, zT_putI, zT_putZ, zT_putJ, zT_putR, zT_ald0, zT_lald, zT_aald, zT_iast, zT_zast, zT_bast, zT_last, zT_aast, zT_iret, zT_nret, zT_aret, zT_vret, zT_oi, zT_mm, zT_ialX, zT_S1, zT_S2, zT_S3, zT_V0, zT_V1, zT_V2, zT_V3, zT_V4, zT_V5, zT_V6, zT_I0, zT_I1, zT_I2, zlg, zlset, zlpr, zent, zok, va_rf, List.length_cons, List.length_nil, List.replicate, List.cons_append, List.nil_append, List.append_nil, Option.toList_some, Option.toList_none, Option.toList, Nat.reduceAdd, Nat.reduceSub, Nat.reduceLeDiff, Nat.zero_add, Nat.zero_le, true_and, and_true, Nat.le_refl, ge_iff_le, Nat.reduceEqDiff]
          rw [nI_clamp (by omega), hb2]
          refine ⟨hin, S71 (some e) hf' (fun j hj => ?_) _ (by rw [he])⟩
          cases hj
          have := wAG_bd (Nat.zero_le _) he
          omega
        refine ⟨hin, fun h2 => ?_, fun h2 => ⟨hin, fun h3 => ?_, fun h3 => ?_⟩⟩
        · have hn := mbk_0.mp ((nI_eq (b := 0) (by omega) (by decide)).mp h2)
          have hnn : wws F.1 F.2.1 (tn d) (r + 1) = none := by
            rw [hun]
            unfold wwst
            rw [hn]
          have := wws_none hnn (36 - (r + 1))
          rw [show r + 1 + (36 - (r + 1)) = 36 by omega] at this
          rw [this] at h
          exact h M' hF'
        · have h0 : ¬ wAG F.1 F.2.1 r (tn d) 0 = none := fun z => h2 (by rw [mbk_0.mpr z]; rfl)
          obtain ⟨e, he⟩ : ∃ e, wAG F.1 F.2.1 r (tn d) 0 = some e := by
            cases q : wAG F.1 F.2.1 r (tn d) 0 with
            | none => exact absurd q h0
            | some e => exact ⟨e, rfl⟩
          have h1e := (mbk_1 he).mp ((nI_eq (b := 1) (by omega) (by decide)).mp h3)
          have hunE : wws F.1 F.2.1 (tn d) (r + 1) = wmn f e := by
            rw [hun]
            unfold wwst
            rw [he]
            dsimp only
            rw [if_pos h1e]
          have hel : e < 200 := by
            have := wAG_bd (Nat.zero_le _) he
            omega
          rw [he]
          rcases f with _ | g
          · exact ⟨fun _ => S64 e he hunE, fun z => absurd (by decide : (-1 : Int32) < 0) z⟩
          · have hg := hfb g rfl
            have hun2 : wmn (some g) e = if e < g then some (some e) else some (some g) := rfl
            rw [hun2] at hunE
            show (nI g < 0 → _) ∧ (¬ nI g < 0 → _ ∧ (nI g ≤ nI e → _) ∧ _)
            refine ⟨fun z => absurd z (Int32.not_lt.mpr ((nI_leI (a := 0) (by decide) (by omega)).mpr (Nat.zero_le _))), fun _ => ⟨hin, fun h5 => S71 (some g) ?_ hfb _ rfl, fun h5 => S64 e he ?_⟩⟩
            · have := zn_ge' h5 (by omega) (by omega)
              rw [hunE, if_neg (by omega)]
            · have := zn_ge h5 (by omega) (by omega)
              rw [hunE, if_pos (by omega)]
        · have h0 : ¬ wAG F.1 F.2.1 r (tn d) 0 = none := fun z => h2 (by rw [mbk_0.mpr z]; rfl)
          obtain ⟨e, he⟩ : ∃ e, wAG F.1 F.2.1 r (tn d) 0 = some e := by
            cases q : wAG F.1 F.2.1 r (tn d) 0 with
            | none => exact absurd q h0
            | some e => exact ⟨e, rfl⟩
          have h1e : ¬ wAG F.1 F.2.1 r (tn d) (e + 1) = none := fun z => h3 (by rw [(mbk_1 he).mpr z]; rfl)
          refine S71 f ?_ hfb _ rfl
          rw [hun]
          unfold wwst
          rw [he]
          dsimp only
          rw [if_neg h1e]
    · intro J hJ
      simp only [zb_X8_wasted_0, zsh_200, zT_push, zT_bin, zT_div, zT_bil, zT_shl, zT_un, zT_i2l, zT_l2i, zT_lcmp, zT_ild, zT_lld, zT_ald, zT_ist, zT_lst, zT_ast, zT_iinc, zT_dup, zT_dup2, zT_pop, zT_if1, zT_if2, zT_ifn, zT_getI, zT_getJ, zT_getR, zT_putI, zT_putZ, zT_putJ, zT_putR, zT_ald0, zT_lald, zT_aald, zT_iast, zT_zast, zT_bast, zT_last, zT_aast, zT_iret, zT_nret, zT_aret, zT_vret, zT_oi, zT_mm, zT_ialX, zT_S1, zT_S2, zT_S3, zT_V0, zT_V1, zT_V2, zT_V3, zT_V4, zT_V5, zT_V6, zT_I0, zT_I1, zT_I2, zlg, zlset, zlpr, zent, zok, va_rf, List.length_cons, List.length_nil, List.replicate, List.cons_append, List.nil_append, List.append_nil, Option.toList_some, Option.toList_none, Option.toList, Nat.reduceAdd, Nat.reduceSub, Nat.reduceLeDiff, Nat.zero_add, Nat.zero_le, true_and, and_true, Nat.le_refl, ge_iff_le, Nat.reduceEqDiff]
      generalize zwI M 200 0 0 = M1 at hF1 ⊢
      unfold zc_X8_isKnown
      simp only [zbI_0, zsh_200, zT_push, zT_bin, zT_div, zT_bil, zT_shl, zT_un, zT_i2l, zT_l2i, zT_lcmp, zT_ild, zT_lld, zT_ald, zT_ist, zT_lst, zT_ast, zT_iinc, zT_dup, zT_dup2, zT_pop, zT_if1, zT_if2, zT_ifn, zT_getI, zT_getJ, zT_getR, zT_putI, zT_putZ, zT_putJ, zT_putR, zT_ald0, zT_lald, zT_aald, zT_iast, zT_zast, zT_bast, zT_last, zT_aast, zT_iret, zT_nret, zT_aret, zT_vret, zT_oi, zT_mm, zT_ialX, zT_S1, zT_S2, zT_S3, zT_V0, zT_V1, zT_V2, zT_V3, zT_V4, zT_V5, zT_V6, zT_I0, zT_I1, zT_I2, zlg, zlset, zlpr, zent, zok, va_rf, List.length_cons, List.length_nil, List.replicate, List.cons_append, List.nil_append, List.append_nil, Option.toList_some, Option.toList_none, Option.toList, Nat.reduceAdd, Nat.reduceSub, Nat.reduceLeDiff, Nat.zero_add, Nat.zero_le, true_and, and_true, Nat.le_refl, ge_iff_le, Nat.reduceEqDiff]
      refine ⟨fun h2 => ?_, fun h2 => ?_⟩
      · unfold pWasted at h
        rw [if_neg h2] at h
        exact h M1 hF1
      · have c2 := Classical.not_not.mp h2
        obtain ⟨b1, b2⟩ := tn_nI (x := d) (b := 1000) c2.1 c2.2 (by decide)
        unfold zc_X8_compareAll
        dsimp only
        refine ⟨rfl, F, tn d, hF1, b1, b2, fun M2 hs2 hb => ?_⟩
        try simp only [zT_push, zT_bin, zT_div, zT_bil, zT_shl, zT_un, zT_i2l, zT_l2i, zT_lcmp, zT_ild, zT_lld, zT_ald, zT_ist, zT_lst, zT_ast, zT_iinc, zT_dup, zT_dup2, zT_pop, zT_if1, zT_if2, zT_ifn, zT_getI, zT_getJ, zT_getR, zT_putI, zT_putZ, zT_putJ, zT_putR, zT_ald0, zT_lald, zT_aald, zT_iast, zT_zast, zT_bast, zT_last, zT_aast, zT_iret, zT_nret, zT_aret, zT_vret, zT_oi, zT_mm, zT_ialX, zT_S1, zT_S2, zT_S3, zT_V0, zT_V1, zT_V2, zT_V3, zT_V4, zT_V5, zT_V6, zT_I0, zT_I1, zT_I2, zlg, zlset, zlpr, zent, zok, va_rf, List.length_cons, List.length_nil, List.replicate, List.cons_append, List.nil_append, List.append_nil, Option.toList_some, Option.toList_none, Option.toList, Nat.reduceAdd, Nat.reduceSub, Nat.reduceLeDiff, Nat.zero_add, Nat.zero_le, true_and, and_true, Nat.le_refl, ge_iff_le, Nat.reduceEqDiff]
        exact hJ 36 _ _ _ ⟨0, none, rfl, by omega, c2, hF1.fl hs2 (by simp), hb, rfl, fun j hj => (by cases hj), rfl, rfl⟩
  · exact h.elim
def mlo (S : Option (Nat × Nat)) : Int32 := match S with
  | none => -100
  | some p => nI p.1
def mhi (S : Option (Nat × Nat)) : Int32 := match S with
  | none => -100
  | some p => nI p.2
def zc_X8_foretold (a : List Value) (M : zMm) (K : zKt) : Prop := match a with
  | [.ref k, .int x, .int y, .int yr, .int d, .int what] => k = 200 ∧ ∃ F, zMF M F ∧ ∀ M', zMF M' (pForetold x y yr d what F).2 → K (some (.int (pForetold x y yr d what F).1)) M'
  | _ => False
set_option maxHeartbeats 2000000 in
theorem zm_X8_foretold (l : Launch) (D : va_G) (Y : Nat → ClassId) : zMt l D Y yX8_foretold cX8_foretold 10 (some .int) 7 173 0 0 zc_X8_foretold := by
  refine zwhile1 (h0 := 72) (by decide) (fun K J _ _ => zb_X8_foretold_0 K J) (fun K _ _ J => zb_X8_foretold_72 K J) (fun X hR J hJ => zbs_X8_foretold_0 hR J hJ) (fun X hR J hJ => zbs_X8_foretold_72 hR J hJ) (fun avs M K h => ?_)
  unfold zc_X8_foretold at h
  split at h
  · next k x y yr d what =>
    obtain ⟨rfl, F, hF, h⟩ := h
    have hF1 := hF.th
    obtain ⟨-, ⟨ok, -⟩, ⟨-, en2, -⟩, -⟩ := id hF
    obtain ⟨k1, k2, k3, k4, k5, k6, k7, k8, k9⟩ := id ok
    have hHTle : ∀ r n e, wHT F.1 r n e ≤ 200 := fun r n e => wHD_le ok r n e
    refine ⟨by simp [zent], fun q M' ls st => ∃ r, q = 36 - r ∧ r ≤ 36 ∧ (pcl F.1 x y ∧ (0 ≤ yr ∧ yr ≤ 30) ∧ (0 ≤ d ∧ d ≤ 1000) ∧ 0 ≤ what ∧ what ≤ 2) ∧ zMF M' F ∧ mbf M' F (tn d) ∧ wmb (wmm F.1 F.2.1 (tn d) (tn yr) (tn y * 12 + tn x) r) ∧ ls = [some (.ref 200), some (.int x), some (.int y), some (.int yr), some (.int d), some (.int what), some (.int (nI (mI (sW F.1) (tn y * 12 + tn x)))), some (.int (mlo (wmm F.1 F.2.1 (tn d) (tn yr) (tn y * 12 + tn x) r))), some (.int (mhi (wmm F.1 F.2.1 (tn d) (tn yr) (tn y * 12 + tn x) r))), some (.int (nI r))] ∧ st = [], ?_, ?_⟩
    · rintro q J hJ M' ls st ⟨r, rfl, hr, ⟨c1, c2, c3, c4⟩, hF', hb, hmb, rfl, rfl⟩
      obtain ⟨g1, g2, -⟩ := id hF'
      obtain ⟨-, w1, w2, w3, w4, w5, w6, w7⟩ := id g2
      obtain ⟨r7, -, -, -, -, -, -, -, r24, r25, r26, r27, r28, r29, r30, r32, r33, r34, r35, r36, r37⟩ := id g1
      obtain ⟨b1, b2⟩ := tn_nI (x := yr) (b := 30) c2.1 c2.2 (by decide)
      obtain ⟨x1, x2, y1, y2, x3, y3⟩ := pcl_n ok c1
      have hwil : wil (sW F.1) (sH F.1) (tn y * 12 + tn x) := ⟨by omega, by omega⟩
      have hlt2 := mI_120 k2 k4 hwil
      have hinc : vp_in (nI (mI (sW F.1) (tn y * 12 + tn x))) 120 := vp_in_nI hlt2 (by decide)
      simp only [zb_X8_foretold_72, zb_X8_foretold_225, zsh_200, zsh_201, zsh_220, r7, r36, zT_push, zT_bin, zT_div, zT_bil, zT_shl, zT_un, zT_i2l, zT_l2i, zT_lcmp, zT_ild, zT_lld, zT_ald, zT_ist, zT_lst, zT_ast, zT_iinc, zT_dup, zT_dup2, zT_pop, zT_if1, zT_if2, zT_ifn, zT_getI, zT_getJ, zT_getR, zT_putI, zT_putZ, zT_putJ, zT_putR, zT_ald0, zT_lald, zT_aald, zT_iast, zT_zast, zT_bast, zT_last, zT_aast, zT_iret, zT_nret, zT_aret, zT_vret, zT_oi, zT_mm, zT_ialX, zT_S1, zT_S2, zT_S3, zT_V0, zT_V1, zT_V2, zT_V3, zT_V4, zT_V5, zT_V6, zT_I0, zT_I1, zT_I2, zlg, zlset, zlpr, zent, zok, va_rf, List.length_cons, List.length_nil, List.replicate, List.cons_append, List.nil_append, List.append_nil, Option.toList_some, Option.toList_none, Option.toList, Nat.reduceAdd, Nat.reduceSub, Nat.reduceLeDiff, Nat.zero_add, Nat.zero_le, true_and, and_true, Nat.le_refl, ge_iff_le, Nat.reduceEqDiff]
      unfold pForetold at h
      rw [if_pos ⟨pclD_t.mpr c1, c2, c3, c4⟩] at h
      rw [nI_clamp (n := r) (by omega), nI_clamp (n := mI (sW F.1) (tn y * 12 + tn x)) (by omega), w6 _ hwil]
      generalize hS : wmm F.1 F.2.1 (tn d) (tn yr) (tn y * 12 + tn x) r = S at hmb
      have n100 : ∀ n, n < 2 ^ 31 → ¬ nI n = -100 := fun n hn z => by
        have := (nI_leI (a := 0) (by decide) hn).mpr (Nat.zero_le _)
        rw [z] at this
        exact absurd this (by decide)
      refine ⟨fun h1 => ?_, fun h1 => ?_⟩
      · have := zn_ge' (b := 36) h1 (by omega) (by omega)
        have e : r = 36 := by omega
        subst e
        rw [hS] at h
        have k9' := k9 (tn y * 12 + tn x)
        rcases S with _ | ⟨l, m⟩
        · exact ⟨fun _ => h M' hF', fun z => absurd rfl z⟩
        · obtain ⟨m1, m2⟩ := hmb _ rfl
          dsimp only at m1 m2
          show (nI l = -100 → _) ∧ (¬ nI l = -100 → (what = 0 → K (some (.int (nI l))) M') ∧ (¬ what = 0 → (what = 1 → K (some (.int (nI m))) M') ∧ (¬ what = 1 → _ ∧ (nI l ≤ nI (sG F.1 (tn y * 12 + tn x)) → _ ∧ (nI (sG F.1 (tn y * 12 + tn x)) ≤ nI m → _) ∧ _) ∧ _)))
          have hfa : ∀ v, v = wfa (some (l, m)) (sG F.1 (tn y * 12 + tn x)) what → K (some (.int v)) M' := fun v hv => by
            rw [hv]
            exact h M' hF'
          have hwf : wfa (some (l, m)) (sG F.1 (tn y * 12 + tn x)) what = if what = 2 then (if sG F.1 (tn y * 12 + tn x) < l then 1 else if m < sG F.1 (tn y * 12 + tn x) then -1 else 0) else if what = 0 then nI l else nI m := rfl
          rw [hwf] at hfa
          refine ⟨fun z => absurd z (n100 _ (by omega)), fun _ => ⟨fun h2 => hfa _ ?_, fun h2 => ⟨fun h3 => hfa _ ?_, fun h3 => ?_⟩⟩⟩
          · rw [h2]; rfl
          · rw [h3]; rfl
          · have e2 : what = 2 := by
              obtain ⟨z1, z2⟩ := tn_nI (x := what) (b := 2) c4.1 c4.2 (by decide)
              have z3 : ¬ tn what = 0 := fun z => h2 (by rw [z1, z]; rfl)
              have z4 : ¬ tn what = 1 := fun z => h3 (by rw [z1, z]; rfl)
              rw [z1, show tn what = 2 by omega]
              rfl
            rw [if_pos e2] at hfa
            refine ⟨hinc, fun h4 => ⟨hinc, fun h5 => hfa _ ?_, fun h5 => hfa _ ?_⟩, fun h4 => hfa _ ?_⟩
            · have := zn_ge' h4 (by omega) (by omega)
              have := zn_ge' h5 (by omega) (by omega)
              rw [if_neg (by omega), if_neg (by omega)]
            · have := zn_ge' h4 (by omega) (by omega)
              have := zn_ge h5 (by omega) (by omega)
              rw [if_neg (by omega), if_pos (by omega)]
            · have := zn_ge h4 (by omega) (by omega)
              rw [if_pos (by omega)]
      · have hlt := zn_ge (b := 36) h1 (by omega) (by omega)
        have hin : vp_in (nI r) 36 := vp_in_nI hlt (by decide)
        obtain ⟨hb1, hb2⟩ := hb r hlt
        rw [hb1]
        have hwle : wct (mbk F.1 F.2.1 r (tn d)) F.2.1.length ≤ 200 := Nat.le_trans (wct_le _ _) en2
        have S155 : ∀ M2 S', zMF M2 F → mbf M2 F (tn d) → wmm F.1 F.2.1 (tn d) (tn yr) (tn y * 12 + tn x) (r + 1) = S' → wmb S' → ∀ l m, l = mlo S' → m = mhi S' → zb_X8_foretold_155 K J M2 [some (.ref 200), some (.int x), some (.int y), some (.int yr), some (.int d), some (.int what), some (.int (nI (mI (sW F.1) (tn y * 12 + tn x)))), some (.int l), some (.int m), some (.int (nI r))] [] := by
          intro M2 S' hF2 hb2 hS' hmb' l m hl hm
          simp only [zb_X8_foretold_155, zT_push, zT_bin, zT_div, zT_bil, zT_shl, zT_un, zT_i2l, zT_l2i, zT_lcmp, zT_ild, zT_lld, zT_ald, zT_ist, zT_lst, zT_ast, zT_iinc, zT_dup, zT_dup2, zT_pop, zT_if1, zT_if2, zT_ifn, zT_getI, zT_getJ, zT_getR, zT_putI, zT_putZ, zT_putJ, zT_putR, zT_ald0, zT_lald, zT_aald, zT_iast, zT_zast, zT_bast, zT_last, zT_aast, zT_iret, zT_nret, zT_aret, zT_vret, zT_oi, zT_mm, zT_ialX, zT_S1, zT_S2, zT_S3, zT_V0, zT_V1, zT_V2, zT_V3, zT_V4, zT_V5, zT_V6, zT_I0, zT_I1, zT_I2, zlg, zlset, zlpr, zent, zok, va_rf, List.length_cons, List.length_nil, List.replicate, List.cons_append, List.nil_append, List.append_nil, Option.toList_some, Option.toList_none, Option.toList, Nat.reduceAdd, Nat.reduceSub, Nat.reduceLeDiff, Nat.zero_add, Nat.zero_le, true_and, and_true, Nat.le_refl, ge_iff_le, Nat.reduceEqDiff]
          exact hJ (36 - (r + 1)) _ _ _ (by omega) ⟨r + 1, rfl, hlt, ⟨c1, c2, c3, c4⟩, hF2, hb2, by rw [hS']; exact hmb', by rw [nI_1, hl, hm, hS'], rfl⟩
        have hunf : wmm F.1 F.2.1 (tn d) (tn yr) (tn y * 12 + tn x) (r + 1) = if wsy F.1 F.2.1 (tn d) r = true then wm1 S (wHT F.1 r (tn yr) (tn y * 12 + tn x)) else S := by
          rw [← hS]
          rfl
        refine ⟨hin, fun h2 => ?_, fun h2 => ?_⟩
        · have hy := mbk_y.mp ((nI_eq (b := 0) (by omega) (by decide)).mp h2)
          rw [if_pos hy] at hunf
          unfold zc_X8_run
          dsimp only
          refine ⟨rfl, g1, F.1, r, tn yr, g2, rfl, hlt, b1, b2, fun M2 hs2 hh2 hg2 => ?_⟩
          have eR := hs2.R
          have hF2 := hF'.fl hs2 (by simp)
          have hb2 : mbf M2 F (tn d) := fun r hr => by
            rw [hs2.at (by simp), hs2.at (by simp)]
            exact hb r hr
          have hval := hh2 _ hwil
          obtain ⟨hv1, hv2⟩ := hval
          simp only [zsh_200, zsh_209, eR, r24, zT_push, zT_bin, zT_div, zT_bil, zT_shl, zT_un, zT_i2l, zT_l2i, zT_lcmp, zT_ild, zT_lld, zT_ald, zT_ist, zT_lst, zT_ast, zT_iinc, zT_dup, zT_dup2, zT_pop, zT_if1, zT_if2, zT_ifn, zT_getI, zT_getJ, zT_getR, zT_putI, zT_putZ, zT_putJ, zT_putR, zT_ald0, zT_lald, zT_aald, zT_iast, zT_zast, zT_bast, zT_last, zT_aast, zT_iret, zT_nret, zT_aret, zT_vret, zT_oi, zT_mm, zT_ialX, zT_S1, zT_S2, zT_S3, zT_V0, zT_V1, zT_V2, zT_V3, zT_V4, zT_V5, zT_V6, zT_I0, zT_I1, zT_I2, zlg, zlset, zlpr, zent, zok, va_rf, List.length_cons, List.length_nil, List.replicate, List.cons_append, List.nil_append, List.append_nil, Option.toList_some, Option.toList_none, Option.toList, Nat.reduceAdd, Nat.reduceSub, Nat.reduceLeDiff, Nat.zero_add, Nat.zero_le, true_and, and_true, Nat.le_refl, ge_iff_le, Nat.reduceEqDiff]
          rw [nI_clamp (n := mI (sW F.1) (tn y * 12 + tn x)) (by omega), hv1]
          generalize wHT F.1 r (tn yr) (tn y * 12 + tn x) = g at hv1 hv2 hunf
          have S153 : ∀ l0 m0 m, (∃ l', l0 = mlo (wm1 S g) ∧ m = mhi (wm1 S g) ∧ l' = l0) → zb_X8_foretold_153 K J M2 [some (.ref 200), some (.int x), some (.int y), some (.int yr), some (.int d), some (.int what), some (.int (nI (mI (sW F.1) (tn y * 12 + tn x)))), some (.int l0), some (.int m0), some (.int (nI r))] [.int m] := by
            rintro l0 m0 m ⟨l', hl, hm, -⟩
            simp only [zb_X8_foretold_153, zT_push, zT_bin, zT_div, zT_bil, zT_shl, zT_un, zT_i2l, zT_l2i, zT_lcmp, zT_ild, zT_lld, zT_ald, zT_ist, zT_lst, zT_ast, zT_iinc, zT_dup, zT_dup2, zT_pop, zT_if1, zT_if2, zT_ifn, zT_getI, zT_getJ, zT_getR, zT_putI, zT_putZ, zT_putJ, zT_putR, zT_ald0, zT_lald, zT_aald, zT_iast, zT_zast, zT_bast, zT_last, zT_aast, zT_iret, zT_nret, zT_aret, zT_vret, zT_oi, zT_mm, zT_ialX, zT_S1, zT_S2, zT_S3, zT_V0, zT_V1, zT_V2, zT_V3, zT_V4, zT_V5, zT_V6, zT_I0, zT_I1, zT_I2, zlg, zlset, zlpr, zent, zok, va_rf, List.length_cons, List.length_nil, List.replicate, List.cons_append, List.nil_append, List.append_nil, Option.toList_some, Option.toList_none, Option.toList, Nat.reduceAdd, Nat.reduceSub, Nat.reduceLeDiff, Nat.zero_add, Nat.zero_le, true_and, and_true, Nat.le_refl, ge_iff_le, Nat.reduceEqDiff]
            refine S155 M2 _ hF2 hb2 hunf ?_ _ _ hl hm
            intro p hp
            rcases S with _ | ⟨l, m⟩
            · cases hp
              exact ⟨hv2, hv2⟩
            · obtain ⟨m1, m2⟩ := hmb _ rfl
              dsimp only at m1 m2
              cases hp
              dsimp only
              constructor
              · split <;> omega
              · split <;> omega
          have g100 : ¬ nI g ≤ -100 := fun z => by
            have z0 := (nI_leI (a := 0) (b := g) (by decide) (by omega)).mpr (Nat.zero_le _)
            exact absurd (Int32.le_trans z0 z) (by decide)
          have S127 : ∀ l, l = mlo (wm1 S g) → zb_X8_foretold_127 K J M2 [some (.ref 200), some (.int x), some (.int y), some (.int yr), some (.int d), some (.int what), some (.int (nI (mI (sW F.1) (tn y * 12 + tn x)))), some (.int (mlo S)), some (.int (mhi S)), some (.int (nI r))] [.int l] := by
            intro l hl
            simp only [zb_X8_foretold_127, zsh_200, zsh_209, eR, r24, zT_push, zT_bin, zT_div, zT_bil, zT_shl, zT_un, zT_i2l, zT_l2i, zT_lcmp, zT_ild, zT_lld, zT_ald, zT_ist, zT_lst, zT_ast, zT_iinc, zT_dup, zT_dup2, zT_pop, zT_if1, zT_if2, zT_ifn, zT_getI, zT_getJ, zT_getR, zT_putI, zT_putZ, zT_putJ, zT_putR, zT_ald0, zT_lald, zT_aald, zT_iast, zT_zast, zT_bast, zT_last, zT_aast, zT_iret, zT_nret, zT_aret, zT_vret, zT_oi, zT_mm, zT_ialX, zT_S1, zT_S2, zT_S3, zT_V0, zT_V1, zT_V2, zT_V3, zT_V4, zT_V5, zT_V6, zT_I0, zT_I1, zT_I2, zlg, zlset, zlpr, zent, zok, va_rf, List.length_cons, List.length_nil, List.replicate, List.cons_append, List.nil_append, List.append_nil, Option.toList_some, Option.toList_none, Option.toList, Nat.reduceAdd, Nat.reduceSub, Nat.reduceLeDiff, Nat.zero_add, Nat.zero_le, true_and, and_true, Nat.le_refl, ge_iff_le, Nat.reduceEqDiff]
            rw [nI_clamp (n := mI (sW F.1) (tn y * 12 + tn x)) (by omega), hv1]
            refine ⟨hinc, fun h3 => S153 _ _ _ ⟨_, hl, ?_, rfl⟩, fun h3 => ⟨hinc, S153 _ _ _ ⟨_, hl, ?_, rfl⟩⟩⟩
            · rcases S with _ | ⟨l, m⟩
              · exact absurd h3 g100
              · obtain ⟨m1, m2⟩ := hmb _ rfl
                dsimp only at m1 m2
                have h3' : nI g ≤ nI m := h3
                have := (nI_leI (by omega) (by omega)).mp h3'
                show nI m = nI (if m < g then g else m)
                rw [if_neg (by omega)]
            · rcases S with _ | ⟨l, m⟩
              · rfl
              · obtain ⟨m1, m2⟩ := hmb _ rfl
                dsimp only at m1 m2
                have h3' : ¬ nI g ≤ nI m := h3
                have := zn_ge h3' (by omega) (by omega)
                show nI g = nI (if m < g then g else m)
                rw [if_pos (by omega)]
          have S115 : mlo (wm1 S g) = nI g → zb_X8_foretold_115 K J M2 [some (.ref 200), some (.int x), some (.int y), some (.int yr), some (.int d), some (.int what), some (.int (nI (mI (sW F.1) (tn y * 12 + tn x)))), some (.int (mlo S)), some (.int (mhi S)), some (.int (nI r))] [] := by
            intro hl
            simp only [zb_X8_foretold_115, zsh_200, zsh_209, eR, r24, zT_push, zT_bin, zT_div, zT_bil, zT_shl, zT_un, zT_i2l, zT_l2i, zT_lcmp, zT_ild, zT_lld, zT_ald, zT_ist, zT_lst, zT_ast, zT_iinc, zT_dup, zT_dup2, zT_pop, zT_if1, zT_if2, zT_ifn, zT_getI, zT_getJ, zT_getR, zT_putI, zT_putZ, zT_putJ, zT_putR, zT_ald0, zT_lald, zT_aald, zT_iast, zT_zast, zT_bast, zT_last, zT_aast, zT_iret, zT_nret, zT_aret, zT_vret, zT_oi, zT_mm, zT_ialX, zT_S1, zT_S2, zT_S3, zT_V0, zT_V1, zT_V2, zT_V3, zT_V4, zT_V5, zT_V6, zT_I0, zT_I1, zT_I2, zlg, zlset, zlpr, zent, zok, va_rf, List.length_cons, List.length_nil, List.replicate, List.cons_append, List.nil_append, List.append_nil, Option.toList_some, Option.toList_none, Option.toList, Nat.reduceAdd, Nat.reduceSub, Nat.reduceLeDiff, Nat.zero_add, Nat.zero_le, true_and, and_true, Nat.le_refl, ge_iff_le, Nat.reduceEqDiff]
            rw [nI_clamp (n := mI (sW F.1) (tn y * 12 + tn x)) (by omega), hv1]
            exact ⟨hinc, S127 _ hl.symm⟩
          refine ⟨fun h3 => S115 ?_, fun h3 => ⟨hinc, fun h4 => S127 _ ?_, fun h4 => S115 ?_⟩⟩
          · rcases S with _ | ⟨l, m⟩
            · rfl
            · obtain ⟨m1, m2⟩ := hmb _ rfl
              dsimp only at m1 m2
              exact absurd h3 (n100 l (by omega))
          · rcases S with _ | ⟨l, m⟩
            · exact absurd rfl h3
            · obtain ⟨m1, m2⟩ := hmb _ rfl
              dsimp only at m1 m2
              have h4' : nI l ≤ nI g := h4
              have := (nI_leI (by omega) (by omega)).mp h4'
              show nI l = nI (if g < l then g else l)
              rw [if_neg (by omega)]
          · rcases S with _ | ⟨l, m⟩
            · exact absurd rfl h3
            · obtain ⟨m1, m2⟩ := hmb _ rfl
              dsimp only at m1 m2
              have h4' : ¬ nI l ≤ nI g := h4
              have := zn_ge h4' (by omega) (by omega)
              show nI (if g < l then g else l) = nI g
              rw [if_pos (by omega)]
        · have hy : ¬ wsy F.1 F.2.1 (tn d) r = true := fun z => h2 (by rw [mbk_y.mpr z]; rfl)
          rw [if_neg hy] at hunf
          exact S155 M' S hF' hb hunf hmb _ _ rfl rfl
    · intro J hJ
      simp only [zb_X8_foretold_0, zsh_200, zT_push, zT_bin, zT_div, zT_bil, zT_shl, zT_un, zT_i2l, zT_l2i, zT_lcmp, zT_ild, zT_lld, zT_ald, zT_ist, zT_lst, zT_ast, zT_iinc, zT_dup, zT_dup2, zT_pop, zT_if1, zT_if2, zT_ifn, zT_getI, zT_getJ, zT_getR, zT_putI, zT_putZ, zT_putJ, zT_putR, zT_ald0, zT_lald, zT_aald, zT_iast, zT_zast, zT_bast, zT_last, zT_aast, zT_iret, zT_nret, zT_aret, zT_vret, zT_oi, zT_mm, zT_ialX, zT_S1, zT_S2, zT_S3, zT_V0, zT_V1, zT_V2, zT_V3, zT_V4, zT_V5, zT_V6, zT_I0, zT_I1, zT_I2, zlg, zlset, zlpr, zent, zok, va_rf, List.length_cons, List.length_nil, List.replicate, List.cons_append, List.nil_append, List.append_nil, Option.toList_some, Option.toList_none, Option.toList, Nat.reduceAdd, Nat.reduceSub, Nat.reduceLeDiff, Nat.zero_add, Nat.zero_le, true_and, and_true, Nat.le_refl, ge_iff_le, Nat.reduceEqDiff]
      generalize zwI M 200 0 0 = M1 at hF1 ⊢
      obtain ⟨g1, ⟨-, w1, w2, w3, w4, w5, w6, w7⟩, -⟩ := id hF1
      have bad : ¬ (pclD F.1 x y = true ∧ (0 ≤ yr ∧ yr ≤ 30) ∧ (0 ≤ d ∧ d ≤ 1000) ∧ 0 ≤ what ∧ what ≤ 2) → zb_X8_foretold_42 K J M1 [some (.ref 200), some (.int x), some (.int y), some (.int yr), some (.int d), some (.int what), none, none, none, none] [] := by
        intro hb
        simp only [zb_X8_foretold_42, zT_push, zT_bin, zT_div, zT_bil, zT_shl, zT_un, zT_i2l, zT_l2i, zT_lcmp, zT_ild, zT_lld, zT_ald, zT_ist, zT_lst, zT_ast, zT_iinc, zT_dup, zT_dup2, zT_pop, zT_if1, zT_if2, zT_ifn, zT_getI, zT_getJ, zT_getR, zT_putI, zT_putZ, zT_putJ, zT_putR, zT_ald0, zT_lald, zT_aald, zT_iast, zT_zast, zT_bast, zT_last, zT_aast, zT_iret, zT_nret, zT_aret, zT_vret, zT_oi, zT_mm, zT_ialX, zT_S1, zT_S2, zT_S3, zT_V0, zT_V1, zT_V2, zT_V3, zT_V4, zT_V5, zT_V6, zT_I0, zT_I1, zT_I2, zlg, zlset, zlpr, zent, zok, va_rf, List.length_cons, List.length_nil, List.replicate, List.cons_append, List.nil_append, List.append_nil, Option.toList_some, Option.toList_none, Option.toList, Nat.reduceAdd, Nat.reduceSub, Nat.reduceLeDiff, Nat.zero_add, Nat.zero_le, true_and, and_true, Nat.le_refl, ge_iff_le, Nat.reduceEqDiff]
        unfold pForetold at h
        rw [if_neg hb] at h
        exact h M1 hF1
      unfold zc_X8_isCell
      dsimp only
      refine ⟨rfl, sW F.1, sH F.1, w1, w2, by omega, k2, by omega, k4, ?_⟩
      unfold zc_X8_isYear zc_X8_isKnown zc_X8_in
      have e1 : zbI (0 ≤ what.toInt64 ∧ what.toInt64 ≤ 2) = zbI (0 ≤ what ∧ what ≤ 2) := zin_c (a := 0) (b := 2) (by decide) (by decide)
      simp only [e1, zbI_0, zsh_200, zT_push, zT_bin, zT_div, zT_bil, zT_shl, zT_un, zT_i2l, zT_l2i, zT_lcmp, zT_ild, zT_lld, zT_ald, zT_ist, zT_lst, zT_ast, zT_iinc, zT_dup, zT_dup2, zT_pop, zT_if1, zT_if2, zT_ifn, zT_getI, zT_getJ, zT_getR, zT_putI, zT_putZ, zT_putJ, zT_putR, zT_ald0, zT_lald, zT_aald, zT_iast, zT_zast, zT_bast, zT_last, zT_aast, zT_iret, zT_nret, zT_aret, zT_vret, zT_oi, zT_mm, zT_ialX, zT_S1, zT_S2, zT_S3, zT_V0, zT_V1, zT_V2, zT_V3, zT_V4, zT_V5, zT_V6, zT_I0, zT_I1, zT_I2, zlg, zlset, zlpr, zent, zok, va_rf, List.length_cons, List.length_nil, List.replicate, List.cons_append, List.nil_append, List.append_nil, Option.toList_some, Option.toList_none, Option.toList, Nat.reduceAdd, Nat.reduceSub, Nat.reduceLeDiff, Nat.zero_add, Nat.zero_le, true_and, and_true, Nat.le_refl, ge_iff_le, Nat.reduceEqDiff]
      refine ⟨fun h1 => bad (fun z => h1 (pclD_t.mp z.1)), fun h1 => ⟨fun h2 => bad (fun z => h2 z.2.1), fun h2 => ⟨fun h3 => bad (fun z => h3 z.2.2.1), fun h3 => ⟨fun h4 => bad (fun z => h4 z.2.2.2), fun h4 => ?_⟩⟩⟩⟩
      have c1 : pcl F.1 x y := Classical.not_not.mp h1
      have c2 := Classical.not_not.mp h2
      have c3 := Classical.not_not.mp h3
      have c4 := Classical.not_not.mp h4
      obtain ⟨b1, b2⟩ := tn_nI (x := d) (b := 1000) c3.1 c3.2 (by decide)
      obtain ⟨x1, x2, y1, y2, x3, y3⟩ := pcl_n ok c1
      unfold zc_X8_compareAll
      dsimp only
      refine ⟨rfl, F, tn d, hF1, b1, b2, fun M2 hs2 hb => ?_⟩
      have e0 : M2.2.1 200 = M1.2.1 200 := hs2.at (by simp)
      refine hJ 36 _ _ _ ⟨0, rfl, by omega, ⟨c1, c2, c3, c4⟩, hF1.fl hs2 (by simp), hb, fun p hp => (by cases hp), ?_, rfl⟩
      rw [mI_xy x3, e0, w1]
      have : y * nI (sW F.1) + x = nI (tn y * sW F.1 + tn x) := by
        rw [y1, x1, pk_mul, nI_add]
        rw [← y1, ← x1]
      rw [this]
      rfl
  · exact h.elim
