/-! WATER: the small ones. Pure words: zfg (first greatest), zbf (goes ahead), zin (put into the row of wet cells) -/
def zfg (f : Nat → Int32) : Nat → Nat
  | 0 => 0
  | n + 1 => if n = 0 then 0 else if f (zfg f n) < f n then n else zfg f n
theorem zfg_le (f : Nat → Int32) : ∀ n, zfg f n ≤ n - 1
  | 0 => Nat.le_refl _
  | n + 1 => by
    have := zfg_le f n
    unfold zfg
    split
    · omega
    · split <;> omega
def zc_X5_firstGreatest (a : List Value) (M : zMm) (K : zKt) : Prop := match a with
  | [.ref k, .ref r] => k = 10 ∧ (r = 17 ∨ r = 19) ∧ ∃ n, n ≤ 4 ∧ M.2.1 10 10 = nI n ∧ K (some (.int (nI (zfg (M.2.1 r) n)))) M
  | _ => False
theorem zm_X5_firstGreatest (l : Launch) (D : va_G) (Y : Nat → ClassId) : zMt l D Y yX5_firstGreatest cX5_firstGreatest 4 (some .int) 0 0 0 0 zc_X5_firstGreatest := by
  refine zwhile1 (h0 := 4) (by decide) (fun K J _ _ => zb_X5_firstGreatest_0 K J) (fun K _ _ J => zb_X5_firstGreatest_4 K J) (fun X hR J hJ => zbs_X5_firstGreatest_0 hR J hJ) (fun X hR J hJ => zbs_X5_firstGreatest_4 hR J hJ) (fun avs M K h => ?_)
  unfold zc_X5_firstGreatest at h
  split at h
  · next k r =>
    obtain ⟨rfl, hr, n, hn, hw, h⟩ := h
    have hsh : zsh r = (0, 4, 0) := by rcases hr with rfl | rfl <;> rfl
    refine ⟨by simp [zent], fun q M' ls st => ∃ i, q = 4 - i ∧ 1 ≤ i ∧ (i ≤ n ∨ i = 1) ∧ ls = [some (.ref 10), some (.ref r), some (.int (nI (zfg (M.2.1 r) i))), some (.int (nI i))] ∧ st = [] ∧ M' = M, ?_, ?_⟩
    · rintro q J hJ M' ls st ⟨i, rfl, hi1, hi, rfl, rfl, rfl⟩
      have hlt := zfg_le (M'.2.1 r) i
      simp only [zb_X5_firstGreatest_4, zb_X5_firstGreatest_23, zsh_10, hsh, hw, zT_push, zT_bin, zT_div, zT_bil, zT_shl, zT_un, zT_i2l, zT_l2i, zT_lcmp, zT_ild, zT_lld, zT_ald, zT_ist, zT_lst, zT_ast, zT_iinc, zT_dup, zT_dup2, zT_pop, zT_if1, zT_if2, zT_ifn, zT_getI, zT_getJ, zT_getR, zT_putI, zT_putZ, zT_putJ, zT_putR, zT_ald0, zT_lald, zT_aald, zT_iast, zT_zast, zT_bast, zT_last, zT_aast, zT_iret, zT_nret, zT_aret, zT_vret, zT_oi, zT_mm, zT_ialX, zT_S1, zT_S2, zT_S3, zT_V0, zT_V1, zT_V2, zT_V3, zT_V4, zT_V5, zT_V6, zT_I0, zT_I1, zT_I2, zlg, zlset, zlpr, zent, zok, va_rf, List.length_cons, List.length_nil, List.replicate, List.cons_append, List.nil_append, List.append_nil, Option.toList_some, Option.toList_none, Option.toList, Nat.reduceAdd, Nat.reduceSub, Nat.reduceLeDiff, Nat.zero_add, Nat.zero_le, true_and, and_true, Nat.le_refl, ge_iff_le, Nat.reduceEqDiff]
      refine ⟨fun h1 => ?_, fun h1 => ?_⟩
      · have hle := (nI_leI (by omega) (by omega)).mp h1
        have e : zfg (M'.2.1 r) i = zfg (M'.2.1 r) n := by
          rcases hi with hi | hi
          · rw [Nat.le_antisymm hi hle]
          · subst hi
            rcases Nat.lt_or_ge n 1 with q | q
            · have : n = 0 := by omega
              subst this; rfl
            · have : n = 1 := by omega
              subst this; rfl
        rw [e]; exact h
      · have hlt2 : i < n := by
          rcases Nat.lt_or_ge i n with q | q
          · exact q
          · exact absurd (nI_le q (by omega)) h1
        refine ⟨vp_in_nI (by omega) (by decide), vp_in_nI (by omega) (by decide), fun h2 => ?_, fun h2 => ?_⟩
        all_goals rw [nI_clamp (by omega), nI_clamp (by omega)] at h2
        · refine hJ (4 - (i + 1)) _ _ _ (by omega) ⟨i + 1, rfl, by omega, Or.inl hlt2, ?_, rfl, rfl⟩
          rw [nI_1, zfg, if_neg (by omega), if_neg (Int32.not_lt.mpr h2)]
        · refine hJ (4 - (i + 1)) _ _ _ (by omega) ⟨i + 1, rfl, by omega, Or.inl hlt2, ?_, rfl, rfl⟩
          rw [nI_1, zfg, if_neg (by omega), if_pos (Int32.not_le.mp h2)]
    · intro J hJ
      simp only [zb_X5_firstGreatest_0, zT_push, zT_bin, zT_div, zT_bil, zT_shl, zT_un, zT_i2l, zT_l2i, zT_lcmp, zT_ild, zT_lld, zT_ald, zT_ist, zT_lst, zT_ast, zT_iinc, zT_dup, zT_dup2, zT_pop, zT_if1, zT_if2, zT_ifn, zT_getI, zT_getJ, zT_getR, zT_putI, zT_putZ, zT_putJ, zT_putR, zT_ald0, zT_lald, zT_aald, zT_iast, zT_zast, zT_bast, zT_last, zT_aast, zT_iret, zT_nret, zT_aret, zT_vret, zT_oi, zT_mm, zT_ialX, zT_S1, zT_S2, zT_S3, zT_V0, zT_V1, zT_V2, zT_V3, zT_V4, zT_V5, zT_V6, zT_I0, zT_I1, zT_I2, zlg, zlset, zlpr, zent, zok, va_rf, List.length_cons, List.length_nil, List.replicate, List.cons_append, List.nil_append, List.append_nil, Option.toList_some, Option.toList_none, Option.toList, Nat.reduceAdd, Nat.reduceSub, Nat.reduceLeDiff, Nat.zero_add, Nat.zero_le, true_and, and_true, Nat.le_refl, ge_iff_le, Nat.reduceEqDiff]
      exact hJ 3 _ _ _ ⟨1, rfl, Nat.le_refl _, Or.inr rfl, rfl, rfl, rfl⟩
  · exact h.elim
/-- a goes ahead of b -/
def zbf (f : Nat → Int32) (a b : Nat) : Prop := f b < f a ∨ (f a = f b ∧ a < b)
theorem zbf_dec (f : Nat → Int32) (a b : Nat) : (f b < f a ∨ (f a = f b ∧ a < b)) = zbf f a b := rfl
def zbb (f : Nat → Int32) (a b : Nat) : Bool := if f b < f a ∨ (f a = f b ∧ a < b) then true else false
theorem zbb_t {f : Nat → Int32} {a b : Nat} : zbb f a b = true ↔ zbf f a b := by
  unfold zbb zbf
  split <;> simp_all
def zc_X5_goesAhead (a : List Value) (M : zMm) (K : zKt) : Prop := match a with
  | [.ref k, .int x, .int y] => k = 10 ∧ M.2.2.2 10 0 = some 11 ∧ ∃ a b, x = nI a ∧ y = nI b ∧ a < 120 ∧ b < 120 ∧ K (some (.int (if zbb (M.2.1 11) a b = true then 1 else 0))) M
  | _ => False
theorem zm_X5_goesAhead (l : Launch) (D : va_G) (Y : Nat → ClassId) : zMt l D Y yX5_goesAhead cX5_goesAhead 3 (some .boolean) 0 0 0 0 zc_X5_goesAhead := by
  refine zflat (by decide) (fun K J _ _ => zb_X5_goesAhead_0 K J) (fun X hR => zbs_X5_goesAhead_0 hR zJ0 zJ0_ok) (fun avs M K h => ?_)
  unfold zc_X5_goesAhead at h
  split at h
  · obtain ⟨rfl, hr, a, b, rfl, rfl, ha, hb, h⟩ := h
    refine ⟨by simp [zent], ?_⟩
    simp only [zb_X5_goesAhead_0, zb_X5_goesAhead_35, zb_X5_goesAhead_46, zsh_10, zsh_11, hr, zT_push, zT_bin, zT_div, zT_bil, zT_shl, zT_un, zT_i2l, zT_l2i, zT_lcmp, zT_ild, zT_lld, zT_ald, zT_ist, zT_lst, zT_ast, zT_iinc, zT_dup, zT_dup2, zT_pop, zT_if1, zT_if2, zT_ifn, zT_getI, zT_getJ, zT_getR, zT_putI, zT_putZ, zT_putJ, zT_putR, zT_ald0, zT_lald, zT_aald, zT_iast, zT_zast, zT_bast, zT_last, zT_aast, zT_iret, zT_nret, zT_aret, zT_vret, zT_oi, zT_mm, zT_ialX, zT_S1, zT_S2, zT_S3, zT_V0, zT_V1, zT_V2, zT_V3, zT_V4, zT_V5, zT_V6, zT_I0, zT_I1, zT_I2, zlg, zlset, zlpr, zent, zok, va_rf, List.length_cons, List.length_nil, List.replicate, List.cons_append, List.nil_append, List.append_nil, Option.toList_some, Option.toList_none, Option.toList, Nat.reduceAdd, Nat.reduceSub, Nat.reduceLeDiff, Nat.zero_add, Nat.zero_le, true_and, and_true, Nat.le_refl, ge_iff_le, Nat.reduceEqDiff]
    rw [nI_clamp (by omega), nI_clamp (by omega)]
    simp only [zbb_t, zbf] at h
    refine ⟨vp_in_nI ha (by decide), vp_in_nI hb (by decide), fun h1 => ⟨fun h2 => ⟨rfl, ?_⟩, fun h2 => ⟨rfl, ?_⟩⟩, fun h1 => ⟨vp_in_nI ha (by decide), vp_in_nI hb (by decide), fun h2 => ⟨rfl, ?_⟩, fun h2 => ⟨rfl, ?_⟩⟩⟩
    · rw [if_neg] at h
      · exact h
      · rintro (q | q)
        · rw [h1] at q; exact Int32.lt_irrefl q
        · exact absurd h2 (by rw [nI_leI (by omega) (by omega)]; omega)
    · rw [if_pos] at h
      · exact h
      · refine Or.inr ⟨h1, ?_⟩
        rw [nI_leI (by omega) (by omega)] at h2
        omega
    · rw [if_neg] at h
      · exact h
      · rintro (q | q)
        · exact absurd q (Int32.not_lt.mpr h2)
        · exact absurd q.1 h1
    · rw [if_pos] at h
      · exact h
      · exact Or.inl (Int32.not_le.mp h2)
  · exact h.elim
/-- the wet cells: what came to each cell, the row of wet cells -/
def zwt (M : zMm) (A : Nat → Nat) (L : List Nat) : Prop := (∀ e, e < 120 → M.2.1 13 e = nI (A e)) ∧ (∀ i x, L[i]? = some x → M.2.1 15 i = nI x ∧ x < 120) ∧ M.2.1 10 5 = nI L.length ∧ L.length ≤ 120
/-- the water object's references -/
def zxw (M : zMm) : Prop := M.2.2.2 10 0 = some 11 ∧ M.2.2.2 10 1 = some 12 ∧ M.2.2.2 10 2 = some 13 ∧ M.2.2.2 10 3 = some 14 ∧ M.2.2.2 10 4 = some 15 ∧ M.2.2.2 10 6 = some 16 ∧ M.2.2.2 10 7 = some 17 ∧ M.2.2.2 10 8 = some 18 ∧ M.2.2.2 10 9 = some 19
theorem zxw.to {ks : List Nat} {M M' : zMm} (h : zxw M) (hs : zsm ks M M') : zxw M' := by
  unfold zxw
  rw [hs.R]
  exact h
def zc_X5_dryUp (a : List Value) (M : zMm) (K : zKt) : Prop := match a with
  | [.ref k] => k = 10 ∧ zxw M ∧ ∃ A L, zwt M A L ∧ ∀ M', zsm [10, 13] M M' → (∀ j, j ≠ 5 → M'.2.1 10 j = M.2.1 10 j) → M'.2.1 10 5 = 0 → (∀ e, e < 120 → M'.2.1 13 e = nI (if e ∈ L then 0 else A e)) → K none M'
  | _ => False
theorem zm_X5_dryUp (l : Launch) (D : va_G) (Y : Nat → ClassId) : zMt l D Y yX5_dryUp cX5_dryUp 2 none 0 0 0 0 zc_X5_dryUp := by
  refine zwhile1 (h0 := 2) (by decide) (fun K J _ _ => zb_X5_dryUp_0 K J) (fun K _ _ J => zb_X5_dryUp_2 K J) (fun X hR J hJ => zbs_X5_dryUp_0 hR J hJ) (fun X hR J hJ => zbs_X5_dryUp_2 hR J hJ) (fun avs M K h => ?_)
  unfold zc_X5_dryUp at h
  split at h
  · obtain ⟨rfl, hx, A, L, ⟨hA, hL, hn, hl⟩, h⟩ := h
    refine ⟨by simp [zent], fun q M' ls st => ∃ i, q = 120 - i ∧ i ≤ L.length ∧ ls = [some (.ref 10), some (.int (nI i))] ∧ st = [] ∧ zsm [13] M M' ∧ (∀ e, e < 120 → M'.2.1 13 e = nI (if e ∈ L.take i then 0 else A e)), ?_, ?_⟩
    · rintro q J hJ M' ls st ⟨i, rfl, hi, rfl, rfl, hs, hc⟩
      have h10 : M'.2.1 10 = M.2.1 10 := hs.2.2 10 (by simp)
      have h15 : M'.2.1 15 = M.2.1 15 := hs.2.2 15 (by simp)
      obtain ⟨x0, x1, x2, x3, x4, -⟩ := hx.to hs
      simp only [zb_X5_dryUp_2, zsh_10, zsh_13, zsh_15, x2, x4, h10, h15, hn, zT_push, zT_bin, zT_div, zT_bil, zT_shl, zT_un, zT_i2l, zT_l2i, zT_lcmp, zT_ild, zT_lld, zT_ald, zT_ist, zT_lst, zT_ast, zT_iinc, zT_dup, zT_dup2, zT_pop, zT_if1, zT_if2, zT_ifn, zT_getI, zT_getJ, zT_getR, zT_putI, zT_putZ, zT_putJ, zT_putR, zT_ald0, zT_lald, zT_aald, zT_iast, zT_zast, zT_bast, zT_last, zT_aast, zT_iret, zT_nret, zT_aret, zT_vret, zT_oi, zT_mm, zT_ialX, zT_S1, zT_S2, zT_S3, zT_V0, zT_V1, zT_V2, zT_V3, zT_V4, zT_V5, zT_V6, zT_I0, zT_I1, zT_I2, zlg, zlset, zlpr, zent, zok, va_rf, List.length_cons, List.length_nil, List.replicate, List.cons_append, List.nil_append, List.append_nil, Option.toList_some, Option.toList_none, Option.toList, Nat.reduceAdd, Nat.reduceSub, Nat.reduceLeDiff, Nat.zero_add, Nat.zero_le, true_and, and_true, Nat.le_refl, ge_iff_le, Nat.reduceEqDiff]
      have hend : i = L.length → zb_X5_dryUp_34 K J M' [some (.ref 10), some (.int (nI i))] [] := by
        intro e
        subst e
        simp only [zb_X5_dryUp_34, zsh_10, zT_push, zT_bin, zT_div, zT_bil, zT_shl, zT_un, zT_i2l, zT_l2i, zT_lcmp, zT_ild, zT_lld, zT_ald, zT_ist, zT_lst, zT_ast, zT_iinc, zT_dup, zT_dup2, zT_pop, zT_if1, zT_if2, zT_ifn, zT_getI, zT_getJ, zT_getR, zT_putI, zT_putZ, zT_putJ, zT_putR, zT_ald0, zT_lald, zT_aald, zT_iast, zT_zast, zT_bast, zT_last, zT_aast, zT_iret, zT_nret, zT_aret, zT_vret, zT_oi, zT_mm, zT_ialX, zT_S1, zT_S2, zT_S3, zT_V0, zT_V1, zT_V2, zT_V3, zT_V4, zT_V5, zT_V6, zT_I0, zT_I1, zT_I2, zlg, zlset, zlpr, zent, zok, va_rf, List.length_cons, List.length_nil, List.replicate, List.cons_append, List.nil_append, List.append_nil, Option.toList_some, Option.toList_none, Option.toList, Nat.reduceAdd, Nat.reduceSub, Nat.reduceLeDiff, Nat.zero_add, Nat.zero_le, true_and, and_true, Nat.le_refl, ge_iff_le, Nat.reduceEqDiff]
        refine h _ ((hs.up (by simp)).w (by simp)) (fun j hj => ?_) ?_ (fun e he => ?_)
        · simp only [zwI_L, zwI_I, zwI_J, zwI_R, zwJ_L, zwJ_I, zwJ_J, zwJ_R, zwR_L, zwR_I, zwR_J, zwR_R, zw2_s, zw2_n, ne_eq, not_false_eq_true, reduceCtorEq, not_true_eq_false, Nat.reduceEqDiff]; rw [zup_n hj, h10]
        · simp only [zwI_L, zwI_I, zwI_J, zwI_R, zwJ_L, zwJ_I, zwJ_J, zwJ_R, zwR_L, zwR_I, zwR_J, zwR_R, zw2_s, zw2_n, ne_eq, not_false_eq_true, reduceCtorEq, not_true_eq_false, Nat.reduceEqDiff, zup_s]
        · simp only [zwI_L, zwI_I, zwI_J, zwI_R, zwJ_L, zwJ_I, zwJ_J, zwJ_R, zwR_L, zwR_I, zwR_J, zwR_R, zw2_s, zw2_n, ne_eq, not_false_eq_true, reduceCtorEq, not_true_eq_false, Nat.reduceEqDiff]; rw [hc e he, List.take_length]
      refine ⟨fun h1 => ?_, fun h1 => ⟨fun h2 => ?_, fun h2 => ?_⟩⟩
      · have := (nI_leI (by omega) (by omega)).mp h1
        exact hend (by omega)
      · have := (nI_leI (a := 120) (by omega) (by omega)).mp h2
        exact hend (by omega)
      · have hlt : i < L.length := by
          rcases Nat.lt_or_ge i L.length with q | q
          · exact q
          · exact absurd (nI_le q (by omega)) h1
        have hg : L[i]? = some L[i] := List.getElem?_eq_getElem hlt
        obtain ⟨g1, g2⟩ := hL i _ hg
        rw [nI_clamp (by omega), g1]
        refine ⟨vp_in_nI (by omega) (by decide), vp_in_nI g2 (by decide), hJ (120 - (i + 1)) _ _ _ (by omega) ⟨i + 1, rfl, hlt, by rw [nI_1], rfl, hs.w (by simp), fun e he => ?_⟩⟩
        rw [nI_clamp (by omega)]
        simp only [zwI_L, zwI_I, zwI_J, zwI_R, zwJ_L, zwJ_I, zwJ_J, zwJ_R, zwR_L, zwR_I, zwR_J, zwR_R, zw2_s, zw2_n, ne_eq, not_false_eq_true, reduceCtorEq, not_true_eq_false, Nat.reduceEqDiff, zup_at]
        rw [List.take_succ, hg]
        by_cases e1 : e = L[i]
        · rw [if_pos e1, if_pos (List.mem_append_right _ (by rw [e1]; exact List.mem_cons_self))]
          rfl
        · rw [if_neg e1, hc e he]
          have : (e ∈ List.take i L ++ (some L[i]).toList) ↔ e ∈ List.take i L := by simp only [List.mem_append, Option.toList, List.mem_cons, List.not_mem_nil, or_false, e1]
          simp only [this]
    · intro J hJ
      simp only [zb_X5_dryUp_0, zT_push, zT_bin, zT_div, zT_bil, zT_shl, zT_un, zT_i2l, zT_l2i, zT_lcmp, zT_ild, zT_lld, zT_ald, zT_ist, zT_lst, zT_ast, zT_iinc, zT_dup, zT_dup2, zT_pop, zT_if1, zT_if2, zT_ifn, zT_getI, zT_getJ, zT_getR, zT_putI, zT_putZ, zT_putJ, zT_putR, zT_ald0, zT_lald, zT_aald, zT_iast, zT_zast, zT_bast, zT_last, zT_aast, zT_iret, zT_nret, zT_aret, zT_vret, zT_oi, zT_mm, zT_ialX, zT_S1, zT_S2, zT_S3, zT_V0, zT_V1, zT_V2, zT_V3, zT_V4, zT_V5, zT_V6, zT_I0, zT_I1, zT_I2, zlg, zlset, zlpr, zent, zok, va_rf, List.length_cons, List.length_nil, List.replicate, List.cons_append, List.nil_append, List.append_nil, Option.toList_some, Option.toList_none, Option.toList, Nat.reduceAdd, Nat.reduceSub, Nat.reduceLeDiff, Nat.zero_add, Nat.zero_le, true_and, and_true, Nat.le_refl, ge_iff_le, Nat.reduceEqDiff]
      exact hJ 120 _ _ _ ⟨0, rfl, Nat.zero_le _, rfl, rfl, zsm.rf, fun e he => by rw [hA e he]; simp⟩
  · exact h.elim
