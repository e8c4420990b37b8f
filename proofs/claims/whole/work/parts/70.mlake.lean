theorem mct_row {p q : Nat → Bool} {w b : Nat} (hq : ∀ j, j < w → p (12 * b + j) = q (w * b + j)) (h0 : wct p (12 * b) = wct q (w * b)) : ∀ j, j ≤ w → wct p (12 * b + j) = wct q (w * b + j)
  | 0, _ => h0
  | j + 1, hj => by
    have ih := mct_row hq h0 j (by omega)
    show wct p (12 * b + j) + (if p (12 * b + j) = true then 1 else 0) = wct q (w * b + j) + (if q (w * b + j) = true then 1 else 0)
    rw [ih, hq j (by omega)]
/-- a count over the land, by rows of 12 and by rows of w -/
theorem mct {p : Nat → Bool} {w : Nat} (h1 : 1 ≤ w) (hw : w ≤ 12) : ∀ b, (∀ e, ¬ e % 12 < w → p e = false) → wct p (12 * b) = wct (fun c => p (mB w c)) (w * b)
  | 0, _ => rfl
  | b + 1, h => by
    have ih := mct (p := p) h1 hw b h
    have hrow := mct_row (p := p) (q := fun c => p (mB w c)) (w := w) (b := b) (fun j hj => by
      show p (12 * b + j) = p (mB w (w * b + j))
      congr 1
      unfold mB
      rw [Nat.mul_add_mod, Nat.mod_eq_of_lt hj, Nat.mul_add_div h1, Nat.div_eq_of_lt hj]
      omega) ih w (Nat.le_refl _)
    have hsk := wct_skip (p := p) (a := 12 * b + w) (12 - w) (fun i z1 z2 => h i (by omega))
    rw [show 12 * (b + 1) = 12 * b + w + (12 - w) by omega, hsk, hrow, Nat.mul_succ]
theorem mct_lake {σ : wSP} (ok : wsok σ) (H : Nat → Nat) : wct (wlk σ H) 120 = wct (fun c => wlk σ H (mB (sW σ) c)) (sW σ * sH σ) := by
  obtain ⟨k1, k2, k3, k4, -⟩ := ok
  have h1 := wct_skip (p := wlk σ H) (a := 12 * sH σ) (120 - 12 * sH σ) (fun i z1 z2 => by
    unfold wlk
    rw [decide_eq_false_iff_not]
    omega)
  have h2 := mct (p := wlk σ H) (w := sW σ) (by omega) k2 (sH σ) (fun e he => by
    unfold wlk
    rw [decide_eq_false_iff_not]
    omega)
  rw [show 12 * sH σ + (120 - 12 * sH σ) = 120 by omega] at h1
  rw [h1, h2]
def zc_X8_lake (a : List Value) (M : zMm) (K : zKt) : Prop := match a with
  | [.ref k, .int r, .int yr] => k = 200 ∧ ∃ F, zMF M F ∧ ∀ M', zMF M' (pLake r yr F).2 → K (some (.int (pLake r yr F).1)) M'
  | _ => False
set_option maxHeartbeats 1000000 in
theorem zm_X8_lake (l : Launch) (D : va_G) (Y : Nat → ClassId) : zMt l D Y yX8_lake cX8_lake 5 (some .int) 6 149 0 0 zc_X8_lake := by
  refine zwhile1 (h0 := 32) (by decide) (fun K J _ _ => zb_X8_lake_0 K J) (fun K _ _ J => zb_X8_lake_32 K J) (fun X hR J hJ => zbs_X8_lake_0 hR J hJ) (fun X hR J hJ => zbs_X8_lake_32 hR J hJ) (fun avs M K h => ?_)
  unfold zc_X8_lake at h
  split at h
  · next k r yr =>
    obtain ⟨rfl, F, hF, h⟩ := h
    have hF1 := hF.th
    obtain ⟨g1, g2, g3, g4, g5, g6⟩ := id hF
    obtain ⟨ok, -⟩ := id g2
    obtain ⟨k1, k2, k3, k4, k5, k6, k7, k8, k9⟩ := id ok
    have hwh : sW F.1 * sH F.1 ≤ 12 * 10 := Nat.mul_le_mul k2 k4
    refine ⟨by simp [zent], fun q M' ls st => ∃ i, q = 200 - i ∧ i ≤ sW F.1 * sH F.1 ∧ ((0 ≤ r ∧ r ≤ 35) ∧ 0 ≤ yr ∧ yr ≤ 30) ∧ zMF M' F ∧ zmh M' (sW F.1) (sH F.1) (wHT F.1 (tn r) (tn yr)) ∧ ls = [some (.ref 200), some (.int r), some (.int yr), some (.int (nI (wct (fun c => wlk F.1 (wHT F.1 (tn r) (tn yr)) (mB (sW F.1) c)) i))), some (.int (nI i))] ∧ st = [], ?_, ?_⟩
    · rintro q J hJ M' ls st ⟨i, rfl, hi, hc, hF', hh, rfl, rfl⟩
      obtain ⟨g1, ⟨-, w1, w2, w3, w4, w5, w6, w7⟩, -⟩ := id hF'
      obtain ⟨r7, -, -, -, -, -, -, -, r24, r25, r26, -⟩ := id g1
      simp only [zb_X8_lake_32, zsh_200, zsh_209, r24, w1, w2, w3, pk_mul, zT_push, zT_bin, zT_div, zT_bil, zT_shl, zT_un, zT_i2l, zT_l2i, zT_lcmp, zT_ild, zT_lld, zT_ald, zT_ist, zT_lst, zT_ast, zT_iinc, zT_dup, zT_dup2, zT_pop, zT_if1, zT_if2, zT_ifn, zT_getI, zT_getJ, zT_getR, zT_putI, zT_putZ, zT_putJ, zT_putR, zT_ald0, zT_lald, zT_aald, zT_iast, zT_zast, zT_bast, zT_last, zT_aast, zT_iret, zT_nret, zT_aret, zT_vret, zT_oi, zT_mm, zT_ialX, zT_S1, zT_S2, zT_S3, zT_V0, zT_V1, zT_V2, zT_V3, zT_V4, zT_V5, zT_V6, zT_I0, zT_I1, zT_I2, zlg, zlset, zlpr, zent, zok, va_rf, List.length_cons, List.length_nil, List.replicate, List.cons_append, List.nil_append, List.append_nil, Option.toList_some, Option.toList_none, Option.toList, Nat.reduceAdd, Nat.reduceSub, Nat.reduceLeDiff, Nat.zero_add, Nat.zero_le, true_and, and_true, Nat.le_refl, ge_iff_le, Nat.reduceEqDiff]
      have hwl := wct_le (fun c => wlk F.1 (wHT F.1 (tn r) (tn yr)) (mB (sW F.1) c)) i
      rw [nI_clamp (by omega)]
      refine ⟨fun h1 => ?_, fun h1 => ?_⟩
      · have := zn_ge' h1 (by omega) (by omega)
        have e : i = sW F.1 * sH F.1 := by omega
        subst e
        unfold pLake at h
        rw [if_pos hc, mct_lake ok] at h
        exact h M' hF'
      · have hlt := zn_ge h1 (by omega) (by omega)
        obtain ⟨m1, m2, -⟩ := mB_wil (w := sW F.1) (h := sH F.1) (c := i) (by omega) k2 hlt
        have hhi := hh _ m1
        rw [m2] at hhi
        rw [hhi.1]
        have hb := hhi.2
        have S66 : ∀ b : Bool, wlk F.1 (wHT F.1 (tn r) (tn yr)) (mB (sW F.1) i) = b → ∀ v, v = nI (if b = true then 1 else 0) → zb_X8_lake_66 K J M' [some (.ref 200), some (.int r), some (.int yr), some (.int (nI (wct (fun c => wlk F.1 (wHT F.1 (tn r) (tn yr)) (mB (sW F.1) c)) i))), some (.int (nI i))] [.int v, .int (nI (wct (fun c => wlk F.1 (wHT F.1 (tn r) (tn yr)) (mB (sW F.1) c)) i))] := by
          intro b hb v hv
          simp only [zb_X8_lake_66, zT_push, zT_bin, zT_div, zT_bil, zT_shl, zT_un, zT_i2l, zT_l2i, zT_lcmp, zT_ild, zT_lld, zT_ald, zT_ist, zT_lst, zT_ast, zT_iinc, zT_dup, zT_dup2, zT_pop, zT_if1, zT_if2, zT_ifn, zT_getI, zT_getJ, zT_getR, zT_putI, zT_putZ, zT_putJ, zT_putR, zT_ald0, zT_lald, zT_aald, zT_iast, zT_zast, zT_bast, zT_last, zT_aast, zT_iret, zT_nret, zT_aret, zT_vret, zT_oi, zT_mm, zT_ialX, zT_S1, zT_S2, zT_S3, zT_V0, zT_V1, zT_V2, zT_V3, zT_V4, zT_V5, zT_V6, zT_I0, zT_I1, zT_I2, zlg, zlset, zlpr, zent, zok, va_rf, List.length_cons, List.length_nil, List.replicate, List.cons_append, List.nil_append, List.append_nil, Option.toList_some, Option.toList_none, Option.toList, Nat.reduceAdd, Nat.reduceSub, Nat.reduceLeDiff, Nat.zero_add, Nat.zero_le, true_and, and_true, Nat.le_refl, ge_iff_le, Nat.reduceEqDiff]
          refine hJ (200 - (i + 1)) _ _ _ (by omega) ⟨i + 1, rfl, hlt, hc, hF', hh, ?_, rfl⟩
          rw [nI_1, hv, nI_add, show wct (fun c => wlk F.1 (wHT F.1 (tn r) (tn yr)) (mB (sW F.1) c)) (i + 1) = wct (fun c => wlk F.1 (wHT F.1 (tn r) (tn yr)) (mB (sW F.1) c)) i + (if b = true then 1 else 0) by rw [← hb]; rfl]
        refine ⟨vp_in_nI (by omega) (by decide), fun h2 => S66 false ?_ _ rfl, fun h2 => S66 true ?_ _ rfl⟩
        · have := zn_ge' h2 (by omega) (by omega)
          unfold wlk
          rw [decide_eq_false_iff_not]
          omega
        · have := zn_ge h2 (by omega) (by omega)
          unfold wlk
          rw [decide_eq_true_eq]
          exact ⟨m1.1, m1.2, this⟩
    · intro J hJ
      simp only [zb_X8_lake_0, zsh_200, zT_push, zT_bin, zT_div, zT_bil, zT_shl, zT_un, zT_i2l, zT_l2i, zT_lcmp, zT_ild, zT_lld, zT_ald, zT_ist, zT_lst, zT_ast, zT_iinc, zT_dup, zT_dup2, zT_pop, zT_if1, zT_if2, zT_ifn, zT_getI, zT_getJ, zT_getR, zT_putI, zT_putZ, zT_putJ, zT_putR, zT_ald0, zT_lald, zT_aald, zT_iast, zT_zast, zT_bast, zT_last, zT_aast, zT_iret, zT_nret, zT_aret, zT_vret, zT_oi, zT_mm, zT_ialX, zT_S1, zT_S2, zT_S3, zT_V0, zT_V1, zT_V2, zT_V3, zT_V4, zT_V5, zT_V6, zT_I0, zT_I1, zT_I2, zlg, zlset, zlpr, zent, zok, va_rf, List.length_cons, List.length_nil, List.replicate, List.cons_append, List.nil_append, List.append_nil, Option.toList_some, Option.toList_none, Option.toList, Nat.reduceAdd, Nat.reduceSub, Nat.reduceLeDiff, Nat.zero_add, Nat.zero_le, true_and, and_true, Nat.le_refl, ge_iff_le, Nat.reduceEqDiff]
      generalize zwI M 200 0 0 = M1 at hF1 ⊢
      obtain ⟨g1, g2, g3, g4, g5, g6⟩ := id hF1
      have bad : ¬ ((0 ≤ r ∧ r ≤ 35) ∧ 0 ≤ yr ∧ yr ≤ 30) → zb_X8_lake_19 K J M1 [some (.ref 200), some (.int r), some (.int yr), none, none] [] := by
        intro hb
        simp only [zb_X8_lake_19, zT_push, zT_bin, zT_div, zT_bil, zT_shl, zT_un, zT_i2l, zT_l2i, zT_lcmp, zT_ild, zT_lld, zT_ald, zT_ist, zT_lst, zT_ast, zT_iinc, zT_dup, zT_dup2, zT_pop, zT_if1, zT_if2, zT_ifn, zT_getI, zT_getJ, zT_getR, zT_putI, zT_putZ, zT_putJ, zT_putR, zT_ald0, zT_lald, zT_aald, zT_iast, zT_zast, zT_bast, zT_last, zT_aast, zT_iret, zT_nret, zT_aret, zT_vret, zT_oi, zT_mm, zT_ialX, zT_S1, zT_S2, zT_S3, zT_V0, zT_V1, zT_V2, zT_V3, zT_V4, zT_V5, zT_V6, zT_I0, zT_I1, zT_I2, zlg, zlset, zlpr, zent, zok, va_rf, List.length_cons, List.length_nil, List.replicate, List.cons_append, List.nil_append, List.append_nil, Option.toList_some, Option.toList_none, Option.toList, Nat.reduceAdd, Nat.reduceSub, Nat.reduceLeDiff, Nat.zero_add, Nat.zero_le, true_and, and_true, Nat.le_refl, ge_iff_le, Nat.reduceEqDiff]
        unfold pLake at h
        rw [if_neg hb] at h
        exact h M1 hF1
      unfold zc_X8_isRule zc_X8_isYear
      simp only [zbI_0, zsh_200, zT_push, zT_bin, zT_div, zT_bil, zT_shl, zT_un, zT_i2l, zT_l2i, zT_lcmp, zT_ild, zT_lld, zT_ald, zT_ist, zT_lst, zT_ast, zT_iinc, zT_dup, zT_dup2, zT_pop, zT_if1, zT_if2, zT_ifn, zT_getI, zT_getJ, zT_getR, zT_putI, zT_putZ, zT_putJ, zT_putR, zT_ald0, zT_lald, zT_aald, zT_iast, zT_zast, zT_bast, zT_last, zT_aast, zT_iret, zT_nret, zT_aret, zT_vret, zT_oi, zT_mm, zT_ialX, zT_S1, zT_S2, zT_S3, zT_V0, zT_V1, zT_V2, zT_V3, zT_V4, zT_V5, zT_V6, zT_I0, zT_I1, zT_I2, zlg, zlset, zlpr, zent, zok, va_rf, List.length_cons, List.length_nil, List.replicate, List.cons_append, List.nil_append, List.append_nil, Option.toList_some, Option.toList_none, Option.toList, Nat.reduceAdd, Nat.reduceSub, Nat.reduceLeDiff, Nat.zero_add, Nat.zero_le, true_and, and_true, Nat.le_refl, ge_iff_le, Nat.reduceEqDiff]
      refine ⟨fun h1 => bad (fun z => h1 z.1), fun h1 => ⟨fun h2 => bad (fun z => h2 z.2), fun h2 => ?_⟩⟩
      have c1 := Classical.not_not.mp h1
      have c2 := Classical.not_not.mp h2
      obtain ⟨a1, a2⟩ := tn_nI (x := r) (b := 35) c1.1 c1.2 (by decide)
      obtain ⟨b1, b2⟩ := tn_nI (x := yr) (b := 30) c2.1 c2.2 (by decide)
      unfold zc_X8_run
      dsimp only
      refine ⟨rfl, g1, F.1, tn r, tn yr, g2, a1, by omega, b1, b2, fun M2 hs2 hh2 hg2 => ?_⟩
      try simp only [zT_push, zT_bin, zT_div, zT_bil, zT_shl, zT_un, zT_i2l, zT_l2i, zT_lcmp, zT_ild, zT_lld, zT_ald, zT_ist, zT_lst, zT_ast, zT_iinc, zT_dup, zT_dup2, zT_pop, zT_if1, zT_if2, zT_ifn, zT_getI, zT_getJ, zT_getR, zT_putI, zT_putZ, zT_putJ, zT_putR, zT_ald0, zT_lald, zT_aald, zT_iast, zT_zast, zT_bast, zT_last, zT_aast, zT_iret, zT_nret, zT_aret, zT_vret, zT_oi, zT_mm, zT_ialX, zT_S1, zT_S2, zT_S3, zT_V0, zT_V1, zT_V2, zT_V3, zT_V4, zT_V5, zT_V6, zT_I0, zT_I1, zT_I2, zlg, zlset, zlpr, zent, zok, va_rf, List.length_cons, List.length_nil, List.replicate, List.cons_append, List.nil_append, List.append_nil, Option.toList_some, Option.toList_none, Option.toList, Nat.reduceAdd, Nat.reduceSub, Nat.reduceLeDiff, Nat.zero_add, Nat.zero_le, true_and, and_true, Nat.le_refl, ge_iff_le, Nat.reduceEqDiff]
      exact hJ 200 _ _ _ ⟨0, rfl, Nat.zero_le _, ⟨c1, c2⟩, hF1.fl hs2 (by simp), hh2, rfl, rfl⟩
  · exact h.elim
