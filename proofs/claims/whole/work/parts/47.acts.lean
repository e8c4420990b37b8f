/-! THE PURE READER: a token is known by its start -/
def wno (tp : List Nat) (a : Nat) : Nat := wsk tp (wte tp a)
def wis (tp : List Nat) (a i : Nat) : Bool := wiw tp a (wte tp a) i
def wkd (tp : List Nat) (a : Nat) : Option Nat := if wis tp a 1 = true then some 0 else if wis tp a 2 = true then some 1 else if wis tp a 3 = true then some 2 else if wis tp a 4 = true then some 3 else none
/-- an act behind the fourth token -/
def wrB (tp : List Nat) (y c x o a : Nat) : Nat ⊕ (wAc × Nat) :=
  if c < 2 then .inr ((c, y, x, o, 0), a) else if wis tp a (if c = 2 then 5 else 6) = true then (if wnm tp (wno tp a) 0 200 = true then .inr ((c, y, x, o, wnv tp (wno tp a)), wno tp (wno tp a)) else .inl (wno tp a)) else .inl a
def wrC (tp : List Nat) (y c a : Nat) : Nat ⊕ (wAc × Nat) :=
  if wnm tp a 0 11 = true then (if wnm tp (wno tp a) 0 9 = true then wrB tp y c (wnv tp a) (wnv tp (wno tp a)) (wno tp (wno tp a)) else .inl (wno tp a)) else .inl a
def wrD (tp : List Nat) (y a : Nat) : Nat ⊕ (wAc × Nat) := match wkd tp a with
  | none => .inl a
  | some c => wrC tp y c (wno tp a)
def wrA (tp : List Nat) (a : Nat) : Nat ⊕ (wAc × Nat) :=
  if wis tp a 0 = true then (if wnm tp (wno tp a) 1 30 = true then wrD tp (wnv tp (wno tp a)) (wno tp (wno tp a)) else .inl (wno tp a)) else .inl a
theorem wno_bd {tp : List Nat} {a : Nat} (h : a ≤ tp.length) : wno tp a ≤ tp.length := (wsk_bd (wte_bd h).2.1).2
theorem takes_use {M : zMm} {k w : Nat} {tp : List Nat} {a : Nat} (i : Nat) {K : zKt} (hRd : zRd M k tp a (wte tp a)) (ha : a ≤ tp.length) (hi : i < 8) (hw : w = 2010 + i) (h0 : wis tp a i = false → K (some (.int 0)) M) (h1 : wis tp a i = true → ∀ M', zsm [k] M M' → zRd M' k tp (wno tp a) (wte tp (wno tp a)) → M'.2.1 k 4 = M.2.1 k 4 → K (some (.int 1)) M') : zc_X3_takes [.ref k, .ref w] M K :=
  ⟨tp, a, wte tp a, i, hRd, (wte_bd ha).1, (wte_bd ha).2.1, hi, hw, h0, h1⟩
theorem num_use {M : zMm} {k : Nat} {x y : Int32} {tp : List Nat} {a : Nat} (lo hi : Nat) {K : zKt} (hRd : zRd M k tp a (wte tp a)) (ha : a ≤ tp.length) (hx : x = nI lo) (hl : lo ≤ hi) (hy : y = nI hi) (hh : hi ≤ 1000) (h0 : wnm tp a lo hi = false → K (some (.int 0)) M) (h1 : wnm tp a lo hi = true → ∀ M', zsm [k] M M' → zRd M' k tp (wno tp a) (wte tp (wno tp a)) → M'.2.1 k 4 = nI (wnv tp a) → K (some (.int 1)) M') : zc_X3_takesNumber [.ref k, .int x, .int y] M K :=
  ⟨tp, a, lo, hi, hRd, ha, hx, hl, hy, hh, h0, h1⟩
def zc_X3_takeKind (a : List Value) (M : zMm) (K : zKt) : Prop := match a with
  | [.ref k] => ∃ tp a, zRd M k tp a (wte tp a) ∧ a ≤ tp.length ∧ (wkd tp a = none → K (some (.int (-1))) M) ∧ ∀ c, wkd tp a = some c → c < 4 → ∀ M', zsm [k] M M' → zRd M' k tp (wno tp a) (wte tp (wno tp a)) → M'.2.1 k 4 = M.2.1 k 4 → K (some (.int (nI c))) M'
  | _ => False
set_option maxHeartbeats 2000000 in
theorem zm_X3_takeKind (l : Launch) (D : va_G) (Y : Nat → ClassId) : zMt l D Y yX3_takeKind cX3_takeKind 1 (some .int) 5 107 0 0 zc_X3_takeKind := by
  refine zflat (by decide) (fun K J _ _ => zb_X3_takeKind_0 K J) (fun X hR => zbs_X3_takeKind_0 hR zJ0 zJ0_ok) (fun avs M K h => ?_)
  unfold zc_X3_takeKind at h
  split at h
  · next k =>
    obtain ⟨tp, a, hRd, ha, hN, hS⟩ := h
    have hk := hRd.1
    refine ⟨by simp [zent], ?_⟩
    unfold wkd at hN hS
    simp only [zb_X3_takeKind_0, zb_X3_takeKind_47, hk, zT_push, zT_bin, zT_div, zT_bil, zT_shl, zT_un, zT_i2l, zT_l2i, zT_lcmp, zT_ild, zT_lld, zT_ald, zT_ist, zT_lst, zT_ast, zT_iinc, zT_dup, zT_dup2, zT_pop, zT_if1, zT_if2, zT_ifn, zT_getI, zT_getJ, zT_getR, zT_putI, zT_putZ, zT_putJ, zT_putR, zT_ald0, zT_lald, zT_aald, zT_iast, zT_zast, zT_bast, zT_last, zT_aast, zT_iret, zT_nret, zT_aret, zT_vret, zT_oi, zT_mm, zT_ialX, zT_S1, zT_S2, zT_S3, zT_V0, zT_V1, zT_V2, zT_V3, zT_V4, zT_V5, zT_V6, zT_I0, zT_I1, zT_I2, zlg, zlset, zlpr, zent, zok, va_rf, List.length_cons, List.length_nil, List.replicate, List.cons_append, List.nil_append, List.append_nil, Option.toList_some, Option.toList_none, Option.toList, Nat.reduceAdd, Nat.reduceSub, Nat.reduceLeDiff, Nat.zero_add, Nat.zero_le, true_and, and_true, Nat.le_refl, ge_iff_le, Nat.reduceEqDiff]
    refine takes_use 1 hRd ha (by decide) rfl (fun h1 => ?_) (fun h1 M' hs hR h4 => ?_)
    · simp only [hk, zT_push, zT_bin, zT_div, zT_bil, zT_shl, zT_un, zT_i2l, zT_l2i, zT_lcmp, zT_ild, zT_lld, zT_ald, zT_ist, zT_lst, zT_ast, zT_iinc, zT_dup, zT_dup2, zT_pop, zT_if1, zT_if2, zT_ifn, zT_getI, zT_getJ, zT_getR, zT_putI, zT_putZ, zT_putJ, zT_putR, zT_ald0, zT_lald, zT_aald, zT_iast, zT_zast, zT_bast, zT_last, zT_aast, zT_iret, zT_nret, zT_aret, zT_vret, zT_oi, zT_mm, zT_ialX, zT_S1, zT_S2, zT_S3, zT_V0, zT_V1, zT_V2, zT_V3, zT_V4, zT_V5, zT_V6, zT_I0, zT_I1, zT_I2, zlg, zlset, zlpr, zent, zok, va_rf, List.length_cons, List.length_nil, List.replicate, List.cons_append, List.nil_append, List.append_nil, Option.toList_some, Option.toList_none, Option.toList, Nat.reduceAdd, Nat.reduceSub, Nat.reduceLeDiff, Nat.zero_add, Nat.zero_le, true_and, and_true, Nat.le_refl, ge_iff_le, Nat.reduceEqDiff]
      refine ⟨fun _ => ?_, fun z => absurd trivial z⟩
      refine takes_use 2 hRd ha (by decide) rfl (fun h2 => ?_) (fun h2 M' hs hR h4 => ?_)
      · simp only [hk, zT_push, zT_bin, zT_div, zT_bil, zT_shl, zT_un, zT_i2l, zT_l2i, zT_lcmp, zT_ild, zT_lld, zT_ald, zT_ist, zT_lst, zT_ast, zT_iinc, zT_dup, zT_dup2, zT_pop, zT_if1, zT_if2, zT_ifn, zT_getI, zT_getJ, zT_getR, zT_putI, zT_putZ, zT_putJ, zT_putR, zT_ald0, zT_lald, zT_aald, zT_iast, zT_zast, zT_bast, zT_last, zT_aast, zT_iret, zT_nret, zT_aret, zT_vret, zT_oi, zT_mm, zT_ialX, zT_S1, zT_S2, zT_S3, zT_V0, zT_V1, zT_V2, zT_V3, zT_V4, zT_V5, zT_V6, zT_I0, zT_I1, zT_I2, zlg, zlset, zlpr, zent, zok, va_rf, List.length_cons, List.length_nil, List.replicate, List.cons_append, List.nil_append, List.append_nil, Option.toList_some, Option.toList_none, Option.toList, Nat.reduceAdd, Nat.reduceSub, Nat.reduceLeDiff, Nat.zero_add, Nat.zero_le, true_and, and_true, Nat.le_refl, ge_iff_le, Nat.reduceEqDiff]
        refine ⟨fun _ => ?_, fun z => absurd trivial z⟩
        refine takes_use 3 hRd ha (by decide) rfl (fun h3 => ?_) (fun h3 M' hs hR h4 => ?_)
        · simp only [hk, zT_push, zT_bin, zT_div, zT_bil, zT_shl, zT_un, zT_i2l, zT_l2i, zT_lcmp, zT_ild, zT_lld, zT_ald, zT_ist, zT_lst, zT_ast, zT_iinc, zT_dup, zT_dup2, zT_pop, zT_if1, zT_if2, zT_ifn, zT_getI, zT_getJ, zT_getR, zT_putI, zT_putZ, zT_putJ, zT_putR, zT_ald0, zT_lald, zT_aald, zT_iast, zT_zast, zT_bast, zT_last, zT_aast, zT_iret, zT_nret, zT_aret, zT_vret, zT_oi, zT_mm, zT_ialX, zT_S1, zT_S2, zT_S3, zT_V0, zT_V1, zT_V2, zT_V3, zT_V4, zT_V5, zT_V6, zT_I0, zT_I1, zT_I2, zlg, zlset, zlpr, zent, zok, va_rf, List.length_cons, List.length_nil, List.replicate, List.cons_append, List.nil_append, List.append_nil, Option.toList_some, Option.toList_none, Option.toList, Nat.reduceAdd, Nat.reduceSub, Nat.reduceLeDiff, Nat.zero_add, Nat.zero_le, true_and, and_true, Nat.le_refl, ge_iff_le, Nat.reduceEqDiff]
          refine ⟨fun _ => ?_, fun z => absurd trivial z⟩
          refine takes_use 4 hRd ha (by decide) rfl (fun h4 => ?_) (fun h4' M' hs hR h4 => ?_)
          · simp only [zT_push, zT_bin, zT_div, zT_bil, zT_shl, zT_un, zT_i2l, zT_l2i, zT_lcmp, zT_ild, zT_lld, zT_ald, zT_ist, zT_lst, zT_ast, zT_iinc, zT_dup, zT_dup2, zT_pop, zT_if1, zT_if2, zT_ifn, zT_getI, zT_getJ, zT_getR, zT_putI, zT_putZ, zT_putJ, zT_putR, zT_ald0, zT_lald, zT_aald, zT_iast, zT_zast, zT_bast, zT_last, zT_aast, zT_iret, zT_nret, zT_aret, zT_vret, zT_oi, zT_mm, zT_ialX, zT_S1, zT_S2, zT_S3, zT_V0, zT_V1, zT_V2, zT_V3, zT_V4, zT_V5, zT_V6, zT_I0, zT_I1, zT_I2, zlg, zlset, zlpr, zent, zok, va_rf, List.length_cons, List.length_nil, List.replicate, List.cons_append, List.nil_append, List.append_nil, Option.toList_some, Option.toList_none, Option.toList, Nat.reduceAdd, Nat.reduceSub, Nat.reduceLeDiff, Nat.zero_add, Nat.zero_le, true_and, and_true, Nat.le_refl, ge_iff_le, Nat.reduceEqDiff]
            refine ⟨fun _ => hN ?_, fun z => absurd trivial z⟩
            rw [if_neg (by rw [h1]; decide), if_neg (by rw [h2]; decide), if_neg (by rw [h3]; decide), if_neg (by rw [h4]; decide)]
          · simp only [zT_push, zT_bin, zT_div, zT_bil, zT_shl, zT_un, zT_i2l, zT_l2i, zT_lcmp, zT_ild, zT_lld, zT_ald, zT_ist, zT_lst, zT_ast, zT_iinc, zT_dup, zT_dup2, zT_pop, zT_if1, zT_if2, zT_ifn, zT_getI, zT_getJ, zT_getR, zT_putI, zT_putZ, zT_putJ, zT_putR, zT_ald0, zT_lald, zT_aald, zT_iast, zT_zast, zT_bast, zT_last, zT_aast, zT_iret, zT_nret, zT_aret, zT_vret, zT_oi, zT_mm, zT_ialX, zT_S1, zT_S2, zT_S3, zT_V0, zT_V1, zT_V2, zT_V3, zT_V4, zT_V5, zT_V6, zT_I0, zT_I1, zT_I2, zlg, zlset, zlpr, zent, zok, va_rf, List.length_cons, List.length_nil, List.replicate, List.cons_append, List.nil_append, List.append_nil, Option.toList_some, Option.toList_none, Option.toList, Nat.reduceAdd, Nat.reduceSub, Nat.reduceLeDiff, Nat.zero_add, Nat.zero_le, true_and, and_true, Nat.le_refl, ge_iff_le, Nat.reduceEqDiff]
            refine ⟨fun z => absurd z (by decide), fun _ => hS 3 ?_ (by decide) M' hs hR h4⟩
            rw [if_neg (by rw [h1]; decide), if_neg (by rw [h2]; decide), if_neg (by rw [h3]; decide), if_pos h4']
        · simp only [zT_push, zT_bin, zT_div, zT_bil, zT_shl, zT_un, zT_i2l, zT_l2i, zT_lcmp, zT_ild, zT_lld, zT_ald, zT_ist, zT_lst, zT_ast, zT_iinc, zT_dup, zT_dup2, zT_pop, zT_if1, zT_if2, zT_ifn, zT_getI, zT_getJ, zT_getR, zT_putI, zT_putZ, zT_putJ, zT_putR, zT_ald0, zT_lald, zT_aald, zT_iast, zT_zast, zT_bast, zT_last, zT_aast, zT_iret, zT_nret, zT_aret, zT_vret, zT_oi, zT_mm, zT_ialX, zT_S1, zT_S2, zT_S3, zT_V0, zT_V1, zT_V2, zT_V3, zT_V4, zT_V5, zT_V6, zT_I0, zT_I1, zT_I2, zlg, zlset, zlpr, zent, zok, va_rf, List.length_cons, List.length_nil, List.replicate, List.cons_append, List.nil_append, List.append_nil, Option.toList_some, Option.toList_none, Option.toList, Nat.reduceAdd, Nat.reduceSub, Nat.reduceLeDiff, Nat.zero_add, Nat.zero_le, true_and, and_true, Nat.le_refl, ge_iff_le, Nat.reduceEqDiff]
          refine ⟨fun z => absurd z (by decide), fun _ => hS 2 ?_ (by decide) M' hs hR h4⟩
          rw [if_neg (by rw [h1]; decide), if_neg (by rw [h2]; decide), if_pos h3]
      · simp only [zT_push, zT_bin, zT_div, zT_bil, zT_shl, zT_un, zT_i2l, zT_l2i, zT_lcmp, zT_ild, zT_lld, zT_ald, zT_ist, zT_lst, zT_ast, zT_iinc, zT_dup, zT_dup2, zT_pop, zT_if1, zT_if2, zT_ifn, zT_getI, zT_getJ, zT_getR, zT_putI, zT_putZ, zT_putJ, zT_putR, zT_ald0, zT_lald, zT_aald, zT_iast, zT_zast, zT_bast, zT_last, zT_aast, zT_iret, zT_nret, zT_aret, zT_vret, zT_oi, zT_mm, zT_ialX, zT_S1, zT_S2, zT_S3, zT_V0, zT_V1, zT_V2, zT_V3, zT_V4, zT_V5, zT_V6, zT_I0, zT_I1, zT_I2, zlg, zlset, zlpr, zent, zok, va_rf, List.length_cons, List.length_nil, List.replicate, List.cons_append, List.nil_append, List.append_nil, Option.toList_some, Option.toList_none, Option.toList, Nat.reduceAdd, Nat.reduceSub, Nat.reduceLeDiff, Nat.zero_add, Nat.zero_le, true_and, and_true, Nat.le_refl, ge_iff_le, Nat.reduceEqDiff]
        refine ⟨fun z => absurd z (by decide), fun _ => hS 1 ?_ (by decide) M' hs hR h4⟩
        rw [if_neg (by rw [h1]; decide), if_pos h2]
    · simp only [zT_push, zT_bin, zT_div, zT_bil, zT_shl, zT_un, zT_i2l, zT_l2i, zT_lcmp, zT_ild, zT_lld, zT_ald, zT_ist, zT_lst, zT_ast, zT_iinc, zT_dup, zT_dup2, zT_pop, zT_if1, zT_if2, zT_ifn, zT_getI, zT_getJ, zT_getR, zT_putI, zT_putZ, zT_putJ, zT_putR, zT_ald0, zT_lald, zT_aald, zT_iast, zT_zast, zT_bast, zT_last, zT_aast, zT_iret, zT_nret, zT_aret, zT_vret, zT_oi, zT_mm, zT_ialX, zT_S1, zT_S2, zT_S3, zT_V0, zT_V1, zT_V2, zT_V3, zT_V4, zT_V5, zT_V6, zT_I0, zT_I1, zT_I2, zlg, zlset, zlpr, zent, zok, va_rf, List.length_cons, List.length_nil, List.replicate, List.cons_append, List.nil_append, List.append_nil, Option.toList_some, Option.toList_none, Option.toList, Nat.reduceAdd, Nat.reduceSub, Nat.reduceLeDiff, Nat.zero_add, Nat.zero_le, true_and, and_true, Nat.le_refl, ge_iff_le, Nat.reduceEqDiff]
      refine ⟨fun z => absurd z (by decide), fun _ => hS 0 ?_ (by decide) M' hs hR h4⟩
      rw [if_pos h1]
  · exact h.elim
theorem kind_use {M : zMm} {k : Nat} {tp : List Nat} {a : Nat} {K : zKt} (hRd : zRd M k tp a (wte tp a)) (ha : a ≤ tp.length) (h0 : wkd tp a = none → K (some (.int (-1))) M) (h1 : ∀ c, wkd tp a = some c → c < 4 → ∀ M', zsm [k] M M' → zRd M' k tp (wno tp a) (wte tp (wno tp a)) → M'.2.1 k 4 = M.2.1 k 4 → K (some (.int (nI c))) M') : zc_X3_takeKind [.ref k] M K :=
  ⟨tp, a, hRd, ha, h0, h1⟩
/-- the reader k and the row n of the plan dk may have changed -/
def zdW (M M' : zMm) (k dk n : Nat) : Prop := zsm [k, dk + 1, dk + 2, dk + 3, dk + 4, dk + 5] M M' ∧ ∀ r, 1 ≤ r → r ≤ 5 → ∀ i, i ≠ n → M'.2.1 (dk + r) i = M.2.1 (dk + r) i
theorem zdW.rd {M M' M'' : zMm} {k dk n : Nat} (h : zdW M M' k dk n) (hs : zsm [k] M' M'') (hk : dk + 5 < k) : zdW M M'' k dk n :=
  ⟨h.1.tr (hs.up (by simp)), fun r h1 h2 i hi => by rw [hs.at (by simp; omega)]; exact h.2 r h1 h2 i hi⟩
theorem zdW.wr {M M' : zMm} {k dk n r : Nat} {x : Int32} (h : zdW M M' k dk n) (h1 : 1 ≤ r) (h5 : r ≤ 5) : zdW M (zwI M' (dk + r) n x) k dk n := by
  refine ⟨h.1.w (by have : r = 1 ∨ r = 2 ∨ r = 3 ∨ r = 4 ∨ r = 5 := by omega
                    rcases this with rfl | rfl | rfl | rfl | rfl <;> simp), fun r' g1 g2 i hi => ?_⟩
  show zw2 M'.2.1 (dk + r) n x (dk + r') i = _
  by_cases e : r' = r
  · subst e
    rw [zw2_s, zup_n hi]
    exact h.2 r' g1 g2 i hi
  · rw [zw2_n (by omega)]
    exact h.2 r' g1 g2 i hi
theorem zRd.wr {M : zMm} {k dk n r : Nat} {x : Int32} {tp : List Nat} {a b : Nat} (h : zRd M k tp a b) (h1 : 5 ≤ dk + r) (h2 : dk + r < k) : zRd (zwI M (dk + r) n x) k tp a b := by
  obtain ⟨g1, g2, g3, g4, g5, g6, g7⟩ := h
  refine ⟨g1, g2, g3, g4, g5.to (fun k' a b => zw2_n (by omega)), ?_, ?_⟩
  · show zw2 M.2.1 (dk + r) n x k 2 = _
    rw [zw2_n (by omega)]; exact g6
  · show zw2 M.2.1 (dk + r) n x k 3 = _
    rw [zw2_n (by omega)]; exact g7
/-! DeltaRuns$Reader readAct -/
theorem zd_X3_readAct_0 : decode cX3_readAct 0 = .ok (.aload_n 0, 1) := by decide +kernel
theorem zd_X3_readAct_1 : decode cX3_readAct 1 = .ok (.ldc 45, 2) := by decide +kernel
theorem zd_X3_readAct_3 : decode cX3_readAct 3 = .ok (.invokevirtual 41, 3) := by decide +kernel
theorem zd_X3_readAct_6 : decode cX3_readAct 6 = .ok (.ifCond .eq 13, 3) := by decide +kernel
theorem zd_X3_readAct_9 : decode cX3_readAct 9 = .ok (.aload_n 0, 1) := by decide +kernel
theorem zd_X3_readAct_10 : decode cX3_readAct 10 = .ok (.iconst 1, 1) := by decide +kernel
theorem zd_X3_readAct_11 : decode cX3_readAct 11 = .ok (.bipush 30, 2) := by decide +kernel
theorem zd_X3_readAct_13 : decode cX3_readAct 13 = .ok (.invokevirtual 47, 3) := by decide +kernel
theorem zd_X3_readAct_16 : decode cX3_readAct 16 = .ok (.ifCond .ne 5, 3) := by decide +kernel
theorem zd_X3_readAct_19 : decode cX3_readAct 19 = .ok (.iconst 0, 1) := by decide +kernel
theorem zd_X3_readAct_20 : decode cX3_readAct 20 = .ok (.ireturn, 1) := by decide +kernel
theorem zd_X3_readAct_21 : decode cX3_readAct 21 = .ok (.aload_n 0, 1) := by decide +kernel
theorem zd_X3_readAct_22 : decode cX3_readAct 22 = .ok (.getfield 15, 3) := by decide +kernel
theorem zd_X3_readAct_25 : decode cX3_readAct 25 = .ok (.getfield 51, 3) := by decide +kernel
theorem zd_X3_readAct_28 : decode cX3_readAct 28 = .ok (.iload_n 1, 1) := by decide +kernel
theorem zd_X3_readAct_29 : decode cX3_readAct 29 = .ok (.aload_n 0, 1) := by decide +kernel
theorem zd_X3_readAct_30 : decode cX3_readAct 30 = .ok (.getfield 55, 3) := by decide +kernel
theorem zd_X3_readAct_33 : decode cX3_readAct 33 = .ok (.iastore, 1) := by decide +kernel
theorem zd_X3_readAct_34 : decode cX3_readAct 34 = .ok (.aload_n 0, 1) := by decide +kernel
theorem zd_X3_readAct_35 : decode cX3_readAct 35 = .ok (.invokevirtual 58, 3) := by decide +kernel
theorem zd_X3_readAct_38 : decode cX3_readAct 38 = .ok (.istore_n 2, 1) := by decide +kernel
theorem zd_X3_readAct_39 : decode cX3_readAct 39 = .ok (.iload_n 2, 1) := by decide +kernel
theorem zd_X3_readAct_40 : decode cX3_readAct 40 = .ok (.iconst (-1), 1) := by decide +kernel
theorem zd_X3_readAct_41 : decode cX3_readAct 41 = .ok (.if_icmp .eq 13, 3) := by decide +kernel
theorem zd_X3_readAct_44 : decode cX3_readAct 44 = .ok (.aload_n 0, 1) := by decide +kernel
theorem zd_X3_readAct_45 : decode cX3_readAct 45 = .ok (.iconst 0, 1) := by decide +kernel
theorem zd_X3_readAct_46 : decode cX3_readAct 46 = .ok (.bipush 11, 2) := by decide +kernel
theorem zd_X3_readAct_48 : decode cX3_readAct 48 = .ok (.invokevirtual 47, 3) := by decide +kernel
theorem zd_X3_readAct_51 : decode cX3_readAct 51 = .ok (.ifCond .ne 5, 3) := by decide +kernel
theorem zd_X3_readAct_54 : decode cX3_readAct 54 = .ok (.iconst 0, 1) := by decide +kernel
theorem zd_X3_readAct_55 : decode cX3_readAct 55 = .ok (.ireturn, 1) := by decide +kernel
theorem zd_X3_readAct_56 : decode cX3_readAct 56 = .ok (.aload_n 0, 1) := by decide +kernel
theorem zd_X3_readAct_57 : decode cX3_readAct 57 = .ok (.getfield 15, 3) := by decide +kernel
theorem zd_X3_readAct_60 : decode cX3_readAct 60 = .ok (.getfield 62, 3) := by decide +kernel
theorem zd_X3_readAct_63 : decode cX3_readAct 63 = .ok (.iload_n 1, 1) := by decide +kernel
theorem zd_X3_readAct_64 : decode cX3_readAct 64 = .ok (.iload_n 2, 1) := by decide +kernel
theorem zd_X3_readAct_65 : decode cX3_readAct 65 = .ok (.iastore, 1) := by decide +kernel
theorem zd_X3_readAct_66 : decode cX3_readAct 66 = .ok (.aload_n 0, 1) := by decide +kernel
theorem zd_X3_readAct_67 : decode cX3_readAct 67 = .ok (.getfield 15, 3) := by decide +kernel
theorem zd_X3_readAct_70 : decode cX3_readAct 70 = .ok (.getfield 65, 3) := by decide +kernel
theorem zd_X3_readAct_73 : decode cX3_readAct 73 = .ok (.iload_n 1, 1) := by decide +kernel
theorem zd_X3_readAct_74 : decode cX3_readAct 74 = .ok (.aload_n 0, 1) := by decide +kernel
theorem zd_X3_readAct_75 : decode cX3_readAct 75 = .ok (.getfield 55, 3) := by decide +kernel
theorem zd_X3_readAct_78 : decode cX3_readAct 78 = .ok (.iastore, 1) := by decide +kernel
theorem zd_X3_readAct_79 : decode cX3_readAct 79 = .ok (.aload_n 0, 1) := by decide +kernel
theorem zd_X3_readAct_80 : decode cX3_readAct 80 = .ok (.iconst 0, 1) := by decide +kernel
theorem zd_X3_readAct_81 : decode cX3_readAct 81 = .ok (.bipush 9, 2) := by decide +kernel
theorem zd_X3_readAct_83 : decode cX3_readAct 83 = .ok (.invokevirtual 47, 3) := by decide +kernel
theorem zd_X3_readAct_86 : decode cX3_readAct 86 = .ok (.ifCond .ne 5, 3) := by decide +kernel
theorem zd_X3_readAct_89 : decode cX3_readAct 89 = .ok (.iconst 0, 1) := by decide +kernel
theorem zd_X3_readAct_90 : decode cX3_readAct 90 = .ok (.ireturn, 1) := by decide +kernel
theorem zd_X3_readAct_91 : decode cX3_readAct 91 = .ok (.aload_n 0, 1) := by decide +kernel
theorem zd_X3_readAct_92 : decode cX3_readAct 92 = .ok (.getfield 15, 3) := by decide +kernel
theorem zd_X3_readAct_95 : decode cX3_readAct 95 = .ok (.getfield 68, 3) := by decide +kernel
theorem zd_X3_readAct_98 : decode cX3_readAct 98 = .ok (.iload_n 1, 1) := by decide +kernel
theorem zd_X3_readAct_99 : decode cX3_readAct 99 = .ok (.aload_n 0, 1) := by decide +kernel
theorem zd_X3_readAct_100 : decode cX3_readAct 100 = .ok (.getfield 55, 3) := by decide +kernel
theorem zd_X3_readAct_103 : decode cX3_readAct 103 = .ok (.iastore, 1) := by decide +kernel
theorem zd_X3_readAct_104 : decode cX3_readAct 104 = .ok (.iload_n 2, 1) := by decide +kernel
theorem zd_X3_readAct_105 : decode cX3_readAct 105 = .ok (.ifCond .eq 8, 3) := by decide +kernel
theorem zd_X3_readAct_108 : decode cX3_readAct 108 = .ok (.iload_n 2, 1) := by decide +kernel
theorem zd_X3_readAct_109 : decode cX3_readAct 109 = .ok (.iconst 1, 1) := by decide +kernel
theorem zd_X3_readAct_110 : decode cX3_readAct 110 = .ok (.if_icmp .ne 5, 3) := by decide +kernel
theorem zd_X3_readAct_113 : decode cX3_readAct 113 = .ok (.iconst 1, 1) := by decide +kernel
theorem zd_X3_readAct_114 : decode cX3_readAct 114 = .ok (.ireturn, 1) := by decide +kernel
theorem zd_X3_readAct_115 : decode cX3_readAct 115 = .ok (.aload_n 0, 1) := by decide +kernel
theorem zd_X3_readAct_116 : decode cX3_readAct 116 = .ok (.iload_n 2, 1) := by decide +kernel
theorem zd_X3_readAct_117 : decode cX3_readAct 117 = .ok (.iconst 2, 1) := by decide +kernel
theorem zd_X3_readAct_118 : decode cX3_readAct 118 = .ok (.if_icmp .ne 8, 3) := by decide +kernel
theorem zd_X3_readAct_121 : decode cX3_readAct 121 = .ok (.ldc 71, 2) := by decide +kernel
theorem zd_X3_readAct_123 : decode cX3_readAct 123 = .ok (.goto 5, 3) := by decide +kernel
theorem zd_X3_readAct_126 : decode cX3_readAct 126 = .ok (.ldc 73, 2) := by decide +kernel
theorem zd_X3_readAct_128 : decode cX3_readAct 128 = .ok (.invokevirtual 41, 3) := by decide +kernel
theorem zd_X3_readAct_131 : decode cX3_readAct 131 = .ok (.ifCond .eq 14, 3) := by decide +kernel
theorem zd_X3_readAct_134 : decode cX3_readAct 134 = .ok (.aload_n 0, 1) := by decide +kernel
theorem zd_X3_readAct_135 : decode cX3_readAct 135 = .ok (.iconst 0, 1) := by decide +kernel
theorem zd_X3_readAct_136 : decode cX3_readAct 136 = .ok (.sipush 200, 3) := by decide +kernel
theorem zd_X3_readAct_139 : decode cX3_readAct 139 = .ok (.invokevirtual 47, 3) := by decide +kernel
theorem zd_X3_readAct_142 : decode cX3_readAct 142 = .ok (.ifCond .ne 5, 3) := by decide +kernel
theorem zd_X3_readAct_145 : decode cX3_readAct 145 = .ok (.iconst 0, 1) := by decide +kernel
theorem zd_X3_readAct_146 : decode cX3_readAct 146 = .ok (.ireturn, 1) := by decide +kernel
theorem zd_X3_readAct_147 : decode cX3_readAct 147 = .ok (.aload_n 0, 1) := by decide +kernel
theorem zd_X3_readAct_148 : decode cX3_readAct 148 = .ok (.getfield 15, 3) := by decide +kernel
theorem zd_X3_readAct_151 : decode cX3_readAct 151 = .ok (.getfield 75, 3) := by decide +kernel
theorem zd_X3_readAct_154 : decode cX3_readAct 154 = .ok (.iload_n 1, 1) := by decide +kernel
theorem zd_X3_readAct_155 : decode cX3_readAct 155 = .ok (.aload_n 0, 1) := by decide +kernel
theorem zd_X3_readAct_156 : decode cX3_readAct 156 = .ok (.getfield 55, 3) := by decide +kernel
theorem zd_X3_readAct_159 : decode cX3_readAct 159 = .ok (.iastore, 1) := by decide +kernel
theorem zd_X3_readAct_160 : decode cX3_readAct 160 = .ok (.iconst 1, 1) := by decide +kernel
theorem zd_X3_readAct_161 : decode cX3_readAct 161 = .ok (.ireturn, 1) := by decide +kernel
def zb_X3_readAct_19 (K : zKt) (J : Nat → zPP) : zPP := zT_push (.int 0) (zT_nret .boolean K)
theorem zbs_X3_readAct_19 {X : zCt} (hR : zRX X = { frames := 6, cells := 0, slots := 0, locals := 127 }) (J : Nat → zPP) (hJ : ∀ h ∈ ([] : List Nat), zSd X RX3 "readAct" cX3_readAct 3 (some .boolean) h (J h)) : zSd X RX3 "readAct" cX3_readAct 3 (some .boolean) 19 (zb_X3_readAct_19 (zKX X) J) := zs_iconst zd_X3_readAct_19 (by decide) (zs_nret rfl zd_X3_readAct_20)
def zb_X3_readAct_54 (K : zKt) (J : Nat → zPP) : zPP := zT_push (.int 0) (zT_nret .boolean K)
theorem zbs_X3_readAct_54 {X : zCt} (hR : zRX X = { frames := 6, cells := 0, slots := 0, locals := 127 }) (J : Nat → zPP) (hJ : ∀ h ∈ ([] : List Nat), zSd X RX3 "readAct" cX3_readAct 3 (some .boolean) h (J h)) : zSd X RX3 "readAct" cX3_readAct 3 (some .boolean) 54 (zb_X3_readAct_54 (zKX X) J) := zs_iconst zd_X3_readAct_54 (by decide) (zs_nret rfl zd_X3_readAct_55)
def zb_X3_readAct_113 (K : zKt) (J : Nat → zPP) : zPP := zT_push (.int 1) (zT_nret .boolean K)
theorem zbs_X3_readAct_113 {X : zCt} (hR : zRX X = { frames := 6, cells := 0, slots := 0, locals := 127 }) (J : Nat → zPP) (hJ : ∀ h ∈ ([] : List Nat), zSd X RX3 "readAct" cX3_readAct 3 (some .boolean) h (J h)) : zSd X RX3 "readAct" cX3_readAct 3 (some .boolean) 113 (zb_X3_readAct_113 (zKX X) J) := zs_iconst zd_X3_readAct_113 (by decide) (zs_nret rfl zd_X3_readAct_114)
def zb_X3_readAct_145 (K : zKt) (J : Nat → zPP) : zPP := zT_push (.int 0) (zT_nret .boolean K)
theorem zbs_X3_readAct_145 {X : zCt} (hR : zRX X = { frames := 6, cells := 0, slots := 0, locals := 127 }) (J : Nat → zPP) (hJ : ∀ h ∈ ([] : List Nat), zSd X RX3 "readAct" cX3_readAct 3 (some .boolean) h (J h)) : zSd X RX3 "readAct" cX3_readAct 3 (some .boolean) 145 (zb_X3_readAct_145 (zKX X) J) := zs_iconst zd_X3_readAct_145 (by decide) (zs_nret rfl zd_X3_readAct_146)
def zb_X3_readAct_128 (K : zKt) (J : Nat → zPP) : zPP := zT_V1 zok 3 5 zc_X3_takes (zT_if1 (fun x => x = 0) (zb_X3_readAct_145 K J) (zT_ald 0 (zT_push (.int 0) (zT_push (.int 200) (zT_V2 zok 3 5 zc_X3_takesNumber (zT_if1 (fun x => x = 0) (zb_X3_readAct_145 K J) (zT_ald 0 (zT_getR 3 1 5 (zT_getR 2 4 6 (zT_ild 1 (zT_ald 0 (zT_getI 3 4 5 (zT_iast (zT_push (.int 1) (zT_nret .boolean K)))))))))))))))
theorem zbs_X3_readAct_128 {X : zCt} (hR : zRX X = { frames := 6, cells := 0, slots := 0, locals := 127 }) (J : Nat → zPP) (hJ : ∀ h ∈ ([] : List Nat), zSd X RX3 "readAct" cX3_readAct 3 (some .boolean) h (J h)) : zSd X RX3 "readAct" cX3_readAct 3 (some .boolean) 128 (zb_X3_readAct_128 (zKX X) J) := zs_V (ci := 3) rfl rfl (zm_X3_takes _ _ _) gw_2_81 gw_2_78 gw_2_80 gw_0_6 gw_1_8 zdn_X3_takes (zrm hR (by decide) (by decide)) zd_X3_readAct_128 (zCl_V1 zok_l) (zs_if_eq (tgt := 145) zd_X3_readAct_131 (by decide) (zbs_X3_readAct_145 hR J hJ) (zs_aload_n zd_X3_readAct_134 rfl (zs_iconst zd_X3_readAct_135 (by decide) (zs_sipush zd_X3_readAct_136 (by decide) (zs_V (ci := 3) rfl rfl (zm_X3_takesNumber _ _ _) gw_2_133 gw_2_130 gw_2_132 gw_0_7 gw_1_8 zdn_X3_takesNumber (zrm hR (by decide) (by decide)) zd_X3_readAct_139 (zCl_V2 zok_l) (zs_if_ne (tgt := 147) zd_X3_readAct_142 (by decide) (zs_aload_n zd_X3_readAct_147 rfl (zs_getR (ci := 3) (j := 1) (T := TX3) rfl inX3 (by decide) gw_2_40 rfl zd_X3_readAct_148 (zs_getR (ci := 2) (j := 4) (T := TX2) rfl inX2 (by decide) gw_1_168 rfl zd_X3_readAct_151 (zs_iload_n zd_X3_readAct_154 rfl (zs_aload_n zd_X3_readAct_155 rfl (zs_getI (ci := 3) (j := 4) (T := TX3) rfl inX3 (by decide) gw_2_43 rfl zd_X3_readAct_156 (zs_iast zd_X3_readAct_159 (zs_iconst zd_X3_readAct_160 (by decide) (zs_nret rfl zd_X3_readAct_161))))))))) (zbs_X3_readAct_145 hR J hJ)))))))
def zb_X3_readAct_0 (K : zKt) (J : Nat → zPP) : zPP := zT_ald 0 (zT_push (.ref (2010 + 0)) (zT_V1 zok 3 5 zc_X3_takes (zT_if1 (fun x => x = 0) (zb_X3_readAct_19 K J) (zT_ald 0 (zT_push (.int 1) (zT_push (.int 30) (zT_V2 zok 3 5 zc_X3_takesNumber (zT_if1 (fun x => x = 0) (zb_X3_readAct_19 K J) (zT_ald 0 (zT_getR 3 1 5 (zT_getR 2 0 6 (zT_ild 1 (zT_ald 0 (zT_getI 3 4 5 (zT_iast (zT_ald 0 (zT_V0 zok 3 5 zc_X3_takeKind (zT_ist 2 (zT_ild 2 (zT_push (.int (-1)) (zT_if2 (fun x y => x = y) (zb_X3_readAct_54 K J) (zT_ald 0 (zT_push (.int 0) (zT_push (.int 11) (zT_V2 zok 3 5 zc_X3_takesNumber (zT_if1 (fun x => x = 0) (zb_X3_readAct_54 K J) (zT_ald 0 (zT_getR 3 1 5 (zT_getR 2 1 6 (zT_ild 1 (zT_ild 2 (zT_iast (zT_ald 0 (zT_getR 3 1 5 (zT_getR 2 2 6 (zT_ild 1 (zT_ald 0 (zT_getI 3 4 5 (zT_iast (zT_ald 0 (zT_push (.int 0) (zT_push (.int 9) (zT_V2 zok 3 5 zc_X3_takesNumber (zT_if1 (fun x => x = 0) (zT_push (.int 0) (zT_nret .boolean K)) (zT_ald 0 (zT_getR 3 1 5 (zT_getR 2 3 6 (zT_ild 1 (zT_ald 0 (zT_getI 3 4 5 (zT_iast (zT_ild 2 (zT_if1 (fun x => x = 0) (zb_X3_readAct_113 K J) (zT_ild 2 (zT_push (.int 1) (zT_if2 (fun x y => x = y) (zb_X3_readAct_113 K J) (zT_ald 0 (zT_ild 2 (zT_push (.int 2) (zT_if2 (fun x y => x = y) (zT_push (.ref (2010 + 5)) (zb_X3_readAct_128 K J)) (zT_push (.ref (2010 + 6)) (zb_X3_readAct_128 K J))))))))))))))))))))))))))))))))))))))))))))))))))))))))))))))
theorem zbs_X3_readAct_0 {X : zCt} (hR : zRX X = { frames := 6, cells := 0, slots := 0, locals := 127 }) (J : Nat → zPP) (hJ : ∀ h ∈ ([] : List Nat), zSd X RX3 "readAct" cX3_readAct 3 (some .boolean) h (J h)) : zSd X RX3 "readAct" cX3_readAct 3 (some .boolean) 0 (zb_X3_readAct_0 (zKX X) J) := zs_aload_n zd_X3_readAct_0 rfl (zs_ldcS 0 (by decide) rfl rfl zd_X3_readAct_1 (zs_V (ci := 3) rfl rfl (zm_X3_takes _ _ _) gw_2_81 gw_2_78 gw_2_80 gw_0_6 gw_1_8 zdn_X3_takes (zrm hR (by decide) (by decide)) zd_X3_readAct_3 (zCl_V1 zok_l) (zs_if_eq (tgt := 19) zd_X3_readAct_6 (by decide) (zbs_X3_readAct_19 hR J hJ) (zs_aload_n zd_X3_readAct_9 rfl (zs_iconst zd_X3_readAct_10 (by decide) (zs_bipush zd_X3_readAct_11 (by decide) (zs_V (ci := 3) rfl rfl (zm_X3_takesNumber _ _ _) gw_2_133 gw_2_130 gw_2_132 gw_0_7 gw_1_8 zdn_X3_takesNumber (zrm hR (by decide) (by decide)) zd_X3_readAct_13 (zCl_V2 zok_l) (zs_if_ne (tgt := 21) zd_X3_readAct_16 (by decide) (zs_aload_n zd_X3_readAct_21 rfl (zs_getR (ci := 3) (j := 1) (T := TX3) rfl inX3 (by decide) gw_2_40 rfl zd_X3_readAct_22 (zs_getR (ci := 2) (j := 0) (T := TX2) rfl inX2 (by decide) gw_1_160 rfl zd_X3_readAct_25 (zs_iload_n zd_X3_readAct_28 rfl (zs_aload_n zd_X3_readAct_29 rfl (zs_getI (ci := 3) (j := 4) (T := TX3) rfl inX3 (by decide) gw_2_43 rfl zd_X3_readAct_30 (zs_iast zd_X3_readAct_33 (zs_aload_n zd_X3_readAct_34 rfl (zs_V (ci := 3) rfl rfl (zm_X3_takeKind _ _ _) gw_2_141 gw_2_138 gw_2_140 gw_0_8 gw_1_8 zdn_X3_takeKind (zrm hR (by decide) (by decide)) zd_X3_readAct_35 (zCl_V0 zok_l) (zs_istore_n zd_X3_readAct_38 rfl (by decide) (zs_iload_n zd_X3_readAct_39 rfl (zs_iconst zd_X3_readAct_40 (by decide) (zs_icmp_eq (tgt := 54) zd_X3_readAct_41 (by decide) (zbs_X3_readAct_54 hR J hJ) (zs_aload_n zd_X3_readAct_44 rfl (zs_iconst zd_X3_readAct_45 (by decide) (zs_bipush zd_X3_readAct_46 (by decide) (zs_V (ci := 3) rfl rfl (zm_X3_takesNumber _ _ _) gw_2_133 gw_2_130 gw_2_132 gw_0_7 gw_1_8 zdn_X3_takesNumber (zrm hR (by decide) (by decide)) zd_X3_readAct_48 (zCl_V2 zok_l) (zs_if_ne (tgt := 56) zd_X3_readAct_51 (by decide) (zs_aload_n zd_X3_readAct_56 rfl (zs_getR (ci := 3) (j := 1) (T := TX3) rfl inX3 (by decide) gw_2_40 rfl zd_X3_readAct_57 (zs_getR (ci := 2) (j := 1) (T := TX2) rfl inX2 (by decide) gw_1_162 rfl zd_X3_readAct_60 (zs_iload_n zd_X3_readAct_63 rfl (zs_iload_n zd_X3_readAct_64 rfl (zs_iast zd_X3_readAct_65 (zs_aload_n zd_X3_readAct_66 rfl (zs_getR (ci := 3) (j := 1) (T := TX3) rfl inX3 (by decide) gw_2_40 rfl zd_X3_readAct_67 (zs_getR (ci := 2) (j := 2) (T := TX2) rfl inX2 (by decide) gw_1_164 rfl zd_X3_readAct_70 (zs_iload_n zd_X3_readAct_73 rfl (zs_aload_n zd_X3_readAct_74 rfl (zs_getI (ci := 3) (j := 4) (T := TX3) rfl inX3 (by decide) gw_2_43 rfl zd_X3_readAct_75 (zs_iast zd_X3_readAct_78 (zs_aload_n zd_X3_readAct_79 rfl (zs_iconst zd_X3_readAct_80 (by decide) (zs_bipush zd_X3_readAct_81 (by decide) (zs_V (ci := 3) rfl rfl (zm_X3_takesNumber _ _ _) gw_2_133 gw_2_130 gw_2_132 gw_0_7 gw_1_8 zdn_X3_takesNumber (zrm hR (by decide) (by decide)) zd_X3_readAct_83 (zCl_V2 zok_l) (zs_if_ne (tgt := 91) zd_X3_readAct_86 (by decide) (zs_aload_n zd_X3_readAct_91 rfl (zs_getR (ci := 3) (j := 1) (T := TX3) rfl inX3 (by decide) gw_2_40 rfl zd_X3_readAct_92 (zs_getR (ci := 2) (j := 3) (T := TX2) rfl inX2 (by decide) gw_1_166 rfl zd_X3_readAct_95 (zs_iload_n zd_X3_readAct_98 rfl (zs_aload_n zd_X3_readAct_99 rfl (zs_getI (ci := 3) (j := 4) (T := TX3) rfl inX3 (by decide) gw_2_43 rfl zd_X3_readAct_100 (zs_iast zd_X3_readAct_103 (zs_iload_n zd_X3_readAct_104 rfl (zs_if_eq (tgt := 113) zd_X3_readAct_105 (by decide) (zbs_X3_readAct_113 hR J hJ) (zs_iload_n zd_X3_readAct_108 rfl (zs_iconst zd_X3_readAct_109 (by decide) (zs_icmp_ne (tgt := 115) zd_X3_readAct_110 (by decide) (zs_aload_n zd_X3_readAct_115 rfl (zs_iload_n zd_X3_readAct_116 rfl (zs_iconst zd_X3_readAct_117 (by decide) (zs_icmp_ne (tgt := 126) zd_X3_readAct_118 (by decide) (zs_ldcS 6 (by decide) rfl rfl zd_X3_readAct_126 (zbs_X3_readAct_128 hR J hJ)) (zs_ldcS 5 (by decide) rfl rfl zd_X3_readAct_121 (zs_goto (tgt := 128) zd_X3_readAct_123 (by decide) (zbs_X3_readAct_128 hR J hJ))))))) (zbs_X3_readAct_113 hR J hJ))))))))))))) (zs_iconst zd_X3_readAct_89 (by decide) (zs_nret rfl zd_X3_readAct_90)))))))))))))))))))) (zbs_X3_readAct_54 hR J hJ))))))))))))))))))) (zbs_X3_readAct_19 hR J hJ)))))))))
theorem zdn_X3_readAct : yX3_readAct.cls ≠ "java/lang/invoke/MethodHandle" ∧ yX3_readAct.cls ≠ "java/lang/invoke/VarHandle" ∧ (parseMethodDescriptor yX3_readAct.desc).map (fun d => d.parameters.length) = some 1 := by decide +kernel
def zc_X3_readAct (a : List Value) (M : zMm) (K : zKt) : Prop := match a with
  | [.ref k, .int x] => ∃ tp a dk n, zRd M k tp a (wte tp a) ∧ a ≤ tp.length ∧ M.2.2.2 k 1 = some dk ∧ (dk = 21 ∨ dk = 27) ∧ (∀ j, j < 5 → M.2.2.2 dk j = some (dk + 1 + j)) ∧ x = nI n ∧ n < 20 ∧
    (∀ f, wrA tp a = .inl f → f ≤ tp.length → ∀ M', zdW M M' k dk n → M'.2.1 k 2 = nI f → K (some (.int 0)) M') ∧
    (∀ t a', wrA tp a = .inr (t, a') → a' ≤ tp.length → wacok t → ∀ M', zdW M M' k dk n → zRd M' k tp a' (wte tp a') → M'.2.1 (dk + 1) n = nI (way t) → M'.2.1 (dk + 2) n = nI (wak t) → M'.2.1 (dk + 3) n = nI (wax t) → M'.2.1 (dk + 4) n = nI (wao t) → (2 ≤ wak t → M'.2.1 (dk + 5) n = nI (wab t)) → K (some (.int 1)) M')
  | _ => False
theorem wnm_le {tp : List Nat} {a lo hi : Nat} (h : wnm tp a lo hi = true) : wnv tp a ≤ hi := by
  unfold wnm at h
  simp only [decide_eq_true_eq] at h
  exact h.2.2.2
set_option maxHeartbeats 4000000 in
theorem zm_X3_readAct (l : Launch) (D : va_G) (Y : Nat → ClassId) : zMt l D Y yX3_readAct cX3_readAct 3 (some .boolean) 6 127 0 0 zc_X3_readAct := by
  refine zflat (by decide) (fun K J _ _ => zb_X3_readAct_0 K J) (fun X hR => zbs_X3_readAct_0 hR zJ0 zJ0_ok) (fun avs M K h => ?_)
  unfold zc_X3_readAct at h
  split at h
  · next k x =>
    obtain ⟨tp, a, dk, n, hRd, ha, r1, hdk, rdk, rfl, hn, hF, hT⟩ := h
    have hk := hRd.1
    have hk5 := hRd.2.1
    have hin : vp_in (nI n) 20 := vp_in_nI hn (by decide)
    have hcl : (nI n).toNatClampNeg = n := nI_clamp (by omega)
    have a1 := wno_bd ha
    have a2 := wno_bd a1
    have a3 := wno_bd a2
    have a4 := wno_bd a3
    have a5 := wno_bd a4
    have a6 := wno_bd a5
    have a7 := wno_bd a6
    obtain ⟨p0, p1, p2, p3, p4, p5⟩ := zpl_sh hdk
    have d0 : M.2.2.2 dk 0 = some (dk + 1) := rdk 0 (by decide)
    have d1 : M.2.2.2 dk 1 = some (dk + 2) := rdk 1 (by decide)
    have d2 : M.2.2.2 dk 2 = some (dk + 3) := rdk 2 (by decide)
    have d3 : M.2.2.2 dk 3 = some (dk + 4) := rdk 3 (by decide)
    have d4 : M.2.2.2 dk 4 = some (dk + 5) := rdk 4 (by decide)
    unfold wrA at hF hT
    refine ⟨by simp [zent], ?_⟩
    simp only [zb_X3_readAct_0, hk, zT_push, zT_bin, zT_div, zT_bil, zT_shl, zT_un, zT_i2l, zT_l2i, zT_lcmp, zT_ild, zT_lld, zT_ald, zT_ist, zT_lst, zT_ast, zT_iinc, zT_dup, zT_dup2, zT_pop, zT_if1, zT_if2, zT_ifn, zT_getI, zT_getJ, zT_getR, zT_putI, zT_putZ, zT_putJ, zT_putR, zT_ald0, zT_lald, zT_aald, zT_iast, zT_zast, zT_bast, zT_last, zT_aast, zT_iret, zT_nret, zT_aret, zT_vret, zT_oi, zT_mm, zT_ialX, zT_S1, zT_S2, zT_S3, zT_V0, zT_V1, zT_V2, zT_V3, zT_V4, zT_V5, zT_V6, zT_I0, zT_I1, zT_I2, zlg, zlset, zlpr, zent, zok, va_rf, List.length_cons, List.length_nil, List.replicate, List.cons_append, List.nil_append, List.append_nil, Option.toList_some, Option.toList_none, Option.toList, Nat.reduceAdd, Nat.reduceSub, Nat.reduceLeDiff, Nat.zero_add, Nat.zero_le, true_and, and_true, Nat.le_refl, ge_iff_le, Nat.reduceEqDiff]
    refine takes_use 0 hRd ha (by decide) rfl (fun h1 => ?_) (fun h1 M1 hs1 hR1 q1 => ?_)
    · simp only [zb_X3_readAct_19, zT_push, zT_bin, zT_div, zT_bil, zT_shl, zT_un, zT_i2l, zT_l2i, zT_lcmp, zT_ild, zT_lld, zT_ald, zT_ist, zT_lst, zT_ast, zT_iinc, zT_dup, zT_dup2, zT_pop, zT_if1, zT_if2, zT_ifn, zT_getI, zT_getJ, zT_getR, zT_putI, zT_putZ, zT_putJ, zT_putR, zT_ald0, zT_lald, zT_aald, zT_iast, zT_zast, zT_bast, zT_last, zT_aast, zT_iret, zT_nret, zT_aret, zT_vret, zT_oi, zT_mm, zT_ialX, zT_S1, zT_S2, zT_S3, zT_V0, zT_V1, zT_V2, zT_V3, zT_V4, zT_V5, zT_V6, zT_I0, zT_I1, zT_I2, zlg, zlset, zlpr, zent, zok, va_rf, List.length_cons, List.length_nil, List.replicate, List.cons_append, List.nil_append, List.append_nil, Option.toList_some, Option.toList_none, Option.toList, Nat.reduceAdd, Nat.reduceSub, Nat.reduceLeDiff, Nat.zero_add, Nat.zero_le, true_and, and_true, Nat.le_refl, ge_iff_le, Nat.reduceEqDiff]
      refine ⟨fun _ => ⟨rfl, hF a (by rw [if_neg (by rw [h1]; decide)]) ha M ⟨zsm.rf, fun _ _ _ _ _ => rfl⟩ hRd.2.2.2.2.2.1⟩, fun z => absurd trivial z⟩
    rw [if_pos h1] at hF hT
    have w1 : zdW M M1 k dk n := zdW.rd ⟨zsm.rf, fun _ _ _ _ _ => rfl⟩ hs1 (by omega)
    simp only [hk, zT_push, zT_bin, zT_div, zT_bil, zT_shl, zT_un, zT_i2l, zT_l2i, zT_lcmp, zT_ild, zT_lld, zT_ald, zT_ist, zT_lst, zT_ast, zT_iinc, zT_dup, zT_dup2, zT_pop, zT_if1, zT_if2, zT_ifn, zT_getI, zT_getJ, zT_getR, zT_putI, zT_putZ, zT_putJ, zT_putR, zT_ald0, zT_lald, zT_aald, zT_iast, zT_zast, zT_bast, zT_last, zT_aast, zT_iret, zT_nret, zT_aret, zT_vret, zT_oi, zT_mm, zT_ialX, zT_S1, zT_S2, zT_S3, zT_V0, zT_V1, zT_V2, zT_V3, zT_V4, zT_V5, zT_V6, zT_I0, zT_I1, zT_I2, zlg, zlset, zlpr, zent, zok, va_rf, List.length_cons, List.length_nil, List.replicate, List.cons_append, List.nil_append, List.append_nil, Option.toList_some, Option.toList_none, Option.toList, Nat.reduceAdd, Nat.reduceSub, Nat.reduceLeDiff, Nat.zero_add, Nat.zero_le, true_and, and_true, Nat.le_refl, ge_iff_le, Nat.reduceEqDiff]
    refine ⟨fun z => absurd z (by decide), fun _ => ?_⟩
    refine num_use 1 30 hR1 a1 rfl (by decide) rfl (by decide) (fun h2 => ?_) (fun h2 M2 hs2 hR2 q2 => ?_)
    · simp only [zb_X3_readAct_19, zT_push, zT_bin, zT_div, zT_bil, zT_shl, zT_un, zT_i2l, zT_l2i, zT_lcmp, zT_ild, zT_lld, zT_ald, zT_ist, zT_lst, zT_ast, zT_iinc, zT_dup, zT_dup2, zT_pop, zT_if1, zT_if2, zT_ifn, zT_getI, zT_getJ, zT_getR, zT_putI, zT_putZ, zT_putJ, zT_putR, zT_ald0, zT_lald, zT_aald, zT_iast, zT_zast, zT_bast, zT_last, zT_aast, zT_iret, zT_nret, zT_aret, zT_vret, zT_oi, zT_mm, zT_ialX, zT_S1, zT_S2, zT_S3, zT_V0, zT_V1, zT_V2, zT_V3, zT_V4, zT_V5, zT_V6, zT_I0, zT_I1, zT_I2, zlg, zlset, zlpr, zent, zok, va_rf, List.length_cons, List.length_nil, List.replicate, List.cons_append, List.nil_append, List.append_nil, Option.toList_some, Option.toList_none, Option.toList, Nat.reduceAdd, Nat.reduceSub, Nat.reduceLeDiff, Nat.zero_add, Nat.zero_le, true_and, and_true, Nat.le_refl, ge_iff_le, Nat.reduceEqDiff]
      refine ⟨fun _ => ⟨rfl, hF (wno tp a) (by rw [if_neg (by rw [h2]; decide)]) a1 M1 w1 hR1.2.2.2.2.2.1⟩, fun z => absurd trivial z⟩
    rw [if_pos h2] at hF hT
    have w2 := w1.rd hs2 (by omega)
    have e2 : M2.2.2.2 = M.2.2.2 := w2.1.R
    simp only [hk, p0, p1, e2, r1, d0, q2, hcl, zT_push, zT_bin, zT_div, zT_bil, zT_shl, zT_un, zT_i2l, zT_l2i, zT_lcmp, zT_ild, zT_lld, zT_ald, zT_ist, zT_lst, zT_ast, zT_iinc, zT_dup, zT_dup2, zT_pop, zT_if1, zT_if2, zT_ifn, zT_getI, zT_getJ, zT_getR, zT_putI, zT_putZ, zT_putJ, zT_putR, zT_ald0, zT_lald, zT_aald, zT_iast, zT_zast, zT_bast, zT_last, zT_aast, zT_iret, zT_nret, zT_aret, zT_vret, zT_oi, zT_mm, zT_ialX, zT_S1, zT_S2, zT_S3, zT_V0, zT_V1, zT_V2, zT_V3, zT_V4, zT_V5, zT_V6, zT_I0, zT_I1, zT_I2, zlg, zlset, zlpr, zent, zok, va_rf, List.length_cons, List.length_nil, List.replicate, List.cons_append, List.nil_append, List.append_nil, Option.toList_some, Option.toList_none, Option.toList, Nat.reduceAdd, Nat.reduceSub, Nat.reduceLeDiff, Nat.zero_add, Nat.zero_le, true_and, and_true, Nat.le_refl, ge_iff_le, Nat.reduceEqDiff]
    refine ⟨fun z => absurd z (by decide), fun _ => ⟨hin, ?_⟩⟩
    have w3 := w2.wr (r := 1) (x := nI (wnv tp (wno tp a))) (by decide) (by decide)
    have hR3 := hR2.wr (dk := dk) (r := 1) (n := n) (x := nI (wnv tp (wno tp a))) (by omega) (by omega)
    have g1 : (zwI M2 (dk + 1) n (nI (wnv tp (wno tp a)))).2.1 (dk + 1) n = nI (wnv tp (wno tp a)) := by show zw2 _ _ _ _ _ _ = _; rw [zw2_s, zup_s]
    generalize zwI M2 (dk + 1) n (nI (wnv tp (wno tp a))) = M3 at w3 hR3 g1 ⊢
    unfold wrD at hF hT
    refine kind_use hR3 a2 (fun h3 => ?_) (fun c h3 hc M4 hs4 hR4 q4 => ?_)
    · simp only [zb_X3_readAct_54, zT_push, zT_bin, zT_div, zT_bil, zT_shl, zT_un, zT_i2l, zT_l2i, zT_lcmp, zT_ild, zT_lld, zT_ald, zT_ist, zT_lst, zT_ast, zT_iinc, zT_dup, zT_dup2, zT_pop, zT_if1, zT_if2, zT_ifn, zT_getI, zT_getJ, zT_getR, zT_putI, zT_putZ, zT_putJ, zT_putR, zT_ald0, zT_lald, zT_aald, zT_iast, zT_zast, zT_bast, zT_last, zT_aast, zT_iret, zT_nret, zT_aret, zT_vret, zT_oi, zT_mm, zT_ialX, zT_S1, zT_S2, zT_S3, zT_V0, zT_V1, zT_V2, zT_V3, zT_V4, zT_V5, zT_V6, zT_I0, zT_I1, zT_I2, zlg, zlset, zlpr, zent, zok, va_rf, List.length_cons, List.length_nil, List.replicate, List.cons_append, List.nil_append, List.append_nil, Option.toList_some, Option.toList_none, Option.toList, Nat.reduceAdd, Nat.reduceSub, Nat.reduceLeDiff, Nat.zero_add, Nat.zero_le, true_and, and_true, Nat.le_refl, ge_iff_le, Nat.reduceEqDiff]
      refine ⟨fun _ => ⟨rfl, hF _ (by rw [h3]) a2 M3 w3 hR3.2.2.2.2.2.1⟩, fun z => absurd trivial z⟩
    rw [h3] at hF hT
    dsimp only at hF hT
    have w4 := w3.rd hs4 (by omega)
    rw [← hs4.at (k := dk + 1) (by simp; omega)] at g1
    simp only [hk, zT_push, zT_bin, zT_div, zT_bil, zT_shl, zT_un, zT_i2l, zT_l2i, zT_lcmp, zT_ild, zT_lld, zT_ald, zT_ist, zT_lst, zT_ast, zT_iinc, zT_dup, zT_dup2, zT_pop, zT_if1, zT_if2, zT_ifn, zT_getI, zT_getJ, zT_getR, zT_putI, zT_putZ, zT_putJ, zT_putR, zT_ald0, zT_lald, zT_aald, zT_iast, zT_zast, zT_bast, zT_last, zT_aast, zT_iret, zT_nret, zT_aret, zT_vret, zT_oi, zT_mm, zT_ialX, zT_S1, zT_S2, zT_S3, zT_V0, zT_V1, zT_V2, zT_V3, zT_V4, zT_V5, zT_V6, zT_I0, zT_I1, zT_I2, zlg, zlset, zlpr, zent, zok, va_rf, List.length_cons, List.length_nil, List.replicate, List.cons_append, List.nil_append, List.append_nil, Option.toList_some, Option.toList_none, Option.toList, Nat.reduceAdd, Nat.reduceSub, Nat.reduceLeDiff, Nat.zero_add, Nat.zero_le, true_and, and_true, Nat.le_refl, ge_iff_le, Nat.reduceEqDiff]
    have hcne : ¬ nI c = -1 := by
      have : ∀ c, c < 4 → ¬ nI c = -1 := by decide
      exact this c hc
    refine ⟨fun z => absurd z hcne, fun _ => ?_⟩
    unfold wrC at hF hT
    refine num_use 0 11 hR4 a3 rfl (by decide) rfl (by decide) (fun h5 => ?_) (fun h5 M5 hs5 hR5 q5 => ?_)
    · simp only [zb_X3_readAct_54, zT_push, zT_bin, zT_div, zT_bil, zT_shl, zT_un, zT_i2l, zT_l2i, zT_lcmp, zT_ild, zT_lld, zT_ald, zT_ist, zT_lst, zT_ast, zT_iinc, zT_dup, zT_dup2, zT_pop, zT_if1, zT_if2, zT_ifn, zT_getI, zT_getJ, zT_getR, zT_putI, zT_putZ, zT_putJ, zT_putR, zT_ald0, zT_lald, zT_aald, zT_iast, zT_zast, zT_bast, zT_last, zT_aast, zT_iret, zT_nret, zT_aret, zT_vret, zT_oi, zT_mm, zT_ialX, zT_S1, zT_S2, zT_S3, zT_V0, zT_V1, zT_V2, zT_V3, zT_V4, zT_V5, zT_V6, zT_I0, zT_I1, zT_I2, zlg, zlset, zlpr, zent, zok, va_rf, List.length_cons, List.length_nil, List.replicate, List.cons_append, List.nil_append, List.append_nil, Option.toList_some, Option.toList_none, Option.toList, Nat.reduceAdd, Nat.reduceSub, Nat.reduceLeDiff, Nat.zero_add, Nat.zero_le, true_and, and_true, Nat.le_refl, ge_iff_le, Nat.reduceEqDiff]
      refine ⟨fun _ => ⟨rfl, hF _ (by rw [if_neg (by rw [h5]; decide)]) a3 M4 w4 hR4.2.2.2.2.2.1⟩, fun z => absurd trivial z⟩
    rw [if_pos h5] at hF hT
    have w5 := w4.rd hs5 (by omega)
    rw [← hs5.at (k := dk + 1) (by simp; omega)] at g1
    have e5 : M5.2.2.2 = M.2.2.2 := w5.1.R
    have hkd : k ≠ dk + 2 := Nat.ne_of_gt (by have : dk + 2 < (k : Nat) := by omega
                                              exact this)
    simp only [hk, p0, p2, p3, e5, r1, d1, d2, zwI_R, zwI_I, zw2_n hkd, q5, hcl, zT_push, zT_bin, zT_div, zT_bil, zT_shl, zT_un, zT_i2l, zT_l2i, zT_lcmp, zT_ild, zT_lld, zT_ald, zT_ist, zT_lst, zT_ast, zT_iinc, zT_dup, zT_dup2, zT_pop, zT_if1, zT_if2, zT_ifn, zT_getI, zT_getJ, zT_getR, zT_putI, zT_putZ, zT_putJ, zT_putR, zT_ald0, zT_lald, zT_aald, zT_iast, zT_zast, zT_bast, zT_last, zT_aast, zT_iret, zT_nret, zT_aret, zT_vret, zT_oi, zT_mm, zT_ialX, zT_S1, zT_S2, zT_S3, zT_V0, zT_V1, zT_V2, zT_V3, zT_V4, zT_V5, zT_V6, zT_I0, zT_I1, zT_I2, zlg, zlset, zlpr, zent, zok, va_rf, List.length_cons, List.length_nil, List.replicate, List.cons_append, List.nil_append, List.append_nil, Option.toList_some, Option.toList_none, Option.toList, Nat.reduceAdd, Nat.reduceSub, Nat.reduceLeDiff, Nat.zero_add, Nat.zero_le, true_and, and_true, Nat.le_refl, ge_iff_le, Nat.reduceEqDiff]
    refine ⟨fun z => absurd z (by decide), fun _ => ⟨hin, hin, ?_⟩⟩
    have w6 := (w5.wr (r := 2) (x := nI c) (by decide) (by decide)).wr (r := 3) (x := nI (wnv tp (wno tp (wno tp (wno tp a))))) (by decide) (by decide)
    have hR6 := (hR5.wr (dk := dk) (r := 2) (n := n) (x := nI c) (by omega) (by omega)).wr (dk := dk) (r := 3) (n := n) (x := nI (wnv tp (wno tp (wno tp (wno tp a))))) (by omega) (by omega)
    have g1' : (zwI (zwI M5 (dk + 2) n (nI c)) (dk + 3) n (nI (wnv tp (wno tp (wno tp (wno tp a)))))).2.1 (dk + 1) n = nI (wnv tp (wno tp a)) := by
      show zw2 (zw2 _ _ _ _) _ _ _ _ _ = _
      rw [zw2_n (by omega), zw2_n (by omega)]; exact g1
    have g2 : (zwI (zwI M5 (dk + 2) n (nI c)) (dk + 3) n (nI (wnv tp (wno tp (wno tp (wno tp a)))))).2.1 (dk + 2) n = nI c := by
      show zw2 (zw2 _ _ _ _) _ _ _ _ _ = _
      rw [zw2_n (by omega), zw2_s, zup_s]
    have g3 : (zwI (zwI M5 (dk + 2) n (nI c)) (dk + 3) n (nI (wnv tp (wno tp (wno tp (wno tp a)))))).2.1 (dk + 3) n = nI (wnv tp (wno tp (wno tp (wno tp a)))) := by
      show zw2 (zw2 _ _ _ _) _ _ _ _ _ = _
      rw [zw2_s, zup_s]
    generalize zwI (zwI M5 (dk + 2) n (nI c)) (dk + 3) n (nI (wnv tp (wno tp (wno tp (wno tp a))))) = M6 at w6 hR6 g1' g2 g3 ⊢
    refine num_use 0 9 hR6 a4 rfl (by decide) rfl (by decide) (fun h7 => ?_) (fun h7 M7 hs7 hR7 q7 => ?_)
    · simp only [zT_push, zT_bin, zT_div, zT_bil, zT_shl, zT_un, zT_i2l, zT_l2i, zT_lcmp, zT_ild, zT_lld, zT_ald, zT_ist, zT_lst, zT_ast, zT_iinc, zT_dup, zT_dup2, zT_pop, zT_if1, zT_if2, zT_ifn, zT_getI, zT_getJ, zT_getR, zT_putI, zT_putZ, zT_putJ, zT_putR, zT_ald0, zT_lald, zT_aald, zT_iast, zT_zast, zT_bast, zT_last, zT_aast, zT_iret, zT_nret, zT_aret, zT_vret, zT_oi, zT_mm, zT_ialX, zT_S1, zT_S2, zT_S3, zT_V0, zT_V1, zT_V2, zT_V3, zT_V4, zT_V5, zT_V6, zT_I0, zT_I1, zT_I2, zlg, zlset, zlpr, zent, zok, va_rf, List.length_cons, List.length_nil, List.replicate, List.cons_append, List.nil_append, List.append_nil, Option.toList_some, Option.toList_none, Option.toList, Nat.reduceAdd, Nat.reduceSub, Nat.reduceLeDiff, Nat.zero_add, Nat.zero_le, true_and, and_true, Nat.le_refl, ge_iff_le, Nat.reduceEqDiff]
      refine ⟨fun _ => ⟨rfl, hF _ (by rw [if_neg (by rw [h7]; decide)]) a4 M6 w6 hR6.2.2.2.2.2.1⟩, fun z => absurd trivial z⟩
    rw [if_pos h7] at hF hT
    have w7 := w6.rd hs7 (by omega)
    rw [← hs7.at (k := dk + 1) (by simp; omega)] at g1'
    rw [← hs7.at (k := dk + 2) (by simp; omega)] at g2
    rw [← hs7.at (k := dk + 3) (by simp; omega)] at g3
    have e7 : M7.2.2.2 = M.2.2.2 := w7.1.R
    simp only [hk, p0, p4, e7, r1, d3, q7, hcl, zT_push, zT_bin, zT_div, zT_bil, zT_shl, zT_un, zT_i2l, zT_l2i, zT_lcmp, zT_ild, zT_lld, zT_ald, zT_ist, zT_lst, zT_ast, zT_iinc, zT_dup, zT_dup2, zT_pop, zT_if1, zT_if2, zT_ifn, zT_getI, zT_getJ, zT_getR, zT_putI, zT_putZ, zT_putJ, zT_putR, zT_ald0, zT_lald, zT_aald, zT_iast, zT_zast, zT_bast, zT_last, zT_aast, zT_iret, zT_nret, zT_aret, zT_vret, zT_oi, zT_mm, zT_ialX, zT_S1, zT_S2, zT_S3, zT_V0, zT_V1, zT_V2, zT_V3, zT_V4, zT_V5, zT_V6, zT_I0, zT_I1, zT_I2, zlg, zlset, zlpr, zent, zok, va_rf, List.length_cons, List.length_nil, List.replicate, List.cons_append, List.nil_append, List.append_nil, Option.toList_some, Option.toList_none, Option.toList, Nat.reduceAdd, Nat.reduceSub, Nat.reduceLeDiff, Nat.zero_add, Nat.zero_le, true_and, and_true, Nat.le_refl, ge_iff_le, Nat.reduceEqDiff]
    refine ⟨fun z => absurd z (by decide), fun _ => ⟨hin, ?_⟩⟩
    have w8 := w7.wr (r := 4) (x := nI (wnv tp (wno tp (wno tp (wno tp (wno tp a)))))) (by decide) (by decide)
    have hR8 := hR7.wr (dk := dk) (r := 4) (n := n) (x := nI (wnv tp (wno tp (wno tp (wno tp (wno tp a)))))) (by omega) (by omega)
    have g4 : (zwI M7 (dk + 4) n (nI (wnv tp (wno tp (wno tp (wno tp (wno tp a))))))).2.1 (dk + 4) n = nI (wnv tp (wno tp (wno tp (wno tp (wno tp a))))) := by show zw2 _ _ _ _ _ _ = _; rw [zw2_s, zup_s]
    rw [← show (zwI M7 (dk + 4) n (nI (wnv tp (wno tp (wno tp (wno tp (wno tp a))))))).2.1 (dk + 1) = M7.2.1 (dk + 1) from zw2_n (by omega)] at g1'
    rw [← show (zwI M7 (dk + 4) n (nI (wnv tp (wno tp (wno tp (wno tp (wno tp a))))))).2.1 (dk + 2) = M7.2.1 (dk + 2) from zw2_n (by omega)] at g2
    rw [← show (zwI M7 (dk + 4) n (nI (wnv tp (wno tp (wno tp (wno tp (wno tp a))))))).2.1 (dk + 3) = M7.2.1 (dk + 3) from zw2_n (by omega)] at g3
    generalize zwI M7 (dk + 4) n (nI (wnv tp (wno tp (wno tp (wno tp (wno tp a)))))) = M8 at w8 hR8 g1' g2 g3 g4 ⊢
    have b1 := wnm_le h2
    have b2 := wnm_le h5
    have b3 := wnm_le h7
    unfold wrB at hF hT
    have low : c < 2 → zb_X3_readAct_113 K zJ0 M8 [some (.ref k), some (.int (nI n)), some (.int (nI c))] [] := by
      intro hc2
      rw [if_pos hc2] at hT
      simp only [zb_X3_readAct_113, zT_push, zT_bin, zT_div, zT_bil, zT_shl, zT_un, zT_i2l, zT_l2i, zT_lcmp, zT_ild, zT_lld, zT_ald, zT_ist, zT_lst, zT_ast, zT_iinc, zT_dup, zT_dup2, zT_pop, zT_if1, zT_if2, zT_ifn, zT_getI, zT_getJ, zT_getR, zT_putI, zT_putZ, zT_putJ, zT_putR, zT_ald0, zT_lald, zT_aald, zT_iast, zT_zast, zT_bast, zT_last, zT_aast, zT_iret, zT_nret, zT_aret, zT_vret, zT_oi, zT_mm, zT_ialX, zT_S1, zT_S2, zT_S3, zT_V0, zT_V1, zT_V2, zT_V3, zT_V4, zT_V5, zT_V6, zT_I0, zT_I1, zT_I2, zlg, zlset, zlpr, zent, zok, va_rf, List.length_cons, List.length_nil, List.replicate, List.cons_append, List.nil_append, List.append_nil, Option.toList_some, Option.toList_none, Option.toList, Nat.reduceAdd, Nat.reduceSub, Nat.reduceLeDiff, Nat.zero_add, Nat.zero_le, true_and, and_true, Nat.le_refl, ge_iff_le, Nat.reduceEqDiff]
      exact ⟨rfl, hT _ _ rfl a5 ⟨by show c < 4; omega, b1, by show wnv _ _ < 12; omega, by show wnv _ _ < 10; omega, by show 0 ≤ 200; omega⟩ M8 w8 hR8 g1' g2 g3 g4 (fun z => absurd (show 2 ≤ c from z) (by omega))⟩
    have high : ∀ i, i < 8 → ¬ c < 2 → (if c = 2 then 5 else 6) = i → zb_X3_readAct_128 K zJ0 M8 [some (.ref k), some (.int (nI n)), some (.int (nI c))] [.ref (2010 + i), .ref k] := by
      intro i hi8 hc2 hi
      rw [if_neg hc2, hi] at hF hT
      simp only [zb_X3_readAct_128, hk, zT_push, zT_bin, zT_div, zT_bil, zT_shl, zT_un, zT_i2l, zT_l2i, zT_lcmp, zT_ild, zT_lld, zT_ald, zT_ist, zT_lst, zT_ast, zT_iinc, zT_dup, zT_dup2, zT_pop, zT_if1, zT_if2, zT_ifn, zT_getI, zT_getJ, zT_getR, zT_putI, zT_putZ, zT_putJ, zT_putR, zT_ald0, zT_lald, zT_aald, zT_iast, zT_zast, zT_bast, zT_last, zT_aast, zT_iret, zT_nret, zT_aret, zT_vret, zT_oi, zT_mm, zT_ialX, zT_S1, zT_S2, zT_S3, zT_V0, zT_V1, zT_V2, zT_V3, zT_V4, zT_V5, zT_V6, zT_I0, zT_I1, zT_I2, zlg, zlset, zlpr, zent, zok, va_rf, List.length_cons, List.length_nil, List.replicate, List.cons_append, List.nil_append, List.append_nil, Option.toList_some, Option.toList_none, Option.toList, Nat.reduceAdd, Nat.reduceSub, Nat.reduceLeDiff, Nat.zero_add, Nat.zero_le, true_and, and_true, Nat.le_refl, ge_iff_le, Nat.reduceEqDiff]
      refine takes_use i hR8 a5 hi8 rfl (fun h9 => ?_) (fun h9 M9 hs9 hR9 q9 => ?_)
      · simp only [zb_X3_readAct_145, zT_push, zT_bin, zT_div, zT_bil, zT_shl, zT_un, zT_i2l, zT_l2i, zT_lcmp, zT_ild, zT_lld, zT_ald, zT_ist, zT_lst, zT_ast, zT_iinc, zT_dup, zT_dup2, zT_pop, zT_if1, zT_if2, zT_ifn, zT_getI, zT_getJ, zT_getR, zT_putI, zT_putZ, zT_putJ, zT_putR, zT_ald0, zT_lald, zT_aald, zT_iast, zT_zast, zT_bast, zT_last, zT_aast, zT_iret, zT_nret, zT_aret, zT_vret, zT_oi, zT_mm, zT_ialX, zT_S1, zT_S2, zT_S3, zT_V0, zT_V1, zT_V2, zT_V3, zT_V4, zT_V5, zT_V6, zT_I0, zT_I1, zT_I2, zlg, zlset, zlpr, zent, zok, va_rf, List.length_cons, List.length_nil, List.replicate, List.cons_append, List.nil_append, List.append_nil, Option.toList_some, Option.toList_none, Option.toList, Nat.reduceAdd, Nat.reduceSub, Nat.reduceLeDiff, Nat.zero_add, Nat.zero_le, true_and, and_true, Nat.le_refl, ge_iff_le, Nat.reduceEqDiff]
        refine ⟨fun _ => ⟨rfl, hF _ (by rw [if_neg (by rw [h9]; decide)]) a5 M8 w8 hR8.2.2.2.2.2.1⟩, fun z => absurd trivial z⟩
      rw [if_pos h9] at hF hT
      have w9 := w8.rd hs9 (by omega)
      rw [← hs9.at (k := dk + 1) (by simp; omega)] at g1'
      rw [← hs9.at (k := dk + 2) (by simp; omega)] at g2
      rw [← hs9.at (k := dk + 3) (by simp; omega)] at g3
      rw [← hs9.at (k := dk + 4) (by simp; omega)] at g4
      simp only [hk, zT_push, zT_bin, zT_div, zT_bil, zT_shl, zT_un, zT_i2l, zT_l2i, zT_lcmp, zT_ild, zT_lld, zT_ald, zT_ist, zT_lst, zT_ast, zT_iinc, zT_dup, zT_dup2, zT_pop, zT_if1, zT_if2, zT_ifn, zT_getI, zT_getJ, zT_getR, zT_putI, zT_putZ, zT_putJ, zT_putR, zT_ald0, zT_lald, zT_aald, zT_iast, zT_zast, zT_bast, zT_last, zT_aast, zT_iret, zT_nret, zT_aret, zT_vret, zT_oi, zT_mm, zT_ialX, zT_S1, zT_S2, zT_S3, zT_V0, zT_V1, zT_V2, zT_V3, zT_V4, zT_V5, zT_V6, zT_I0, zT_I1, zT_I2, zlg, zlset, zlpr, zent, zok, va_rf, List.length_cons, List.length_nil, List.replicate, List.cons_append, List.nil_append, List.append_nil, Option.toList_some, Option.toList_none, Option.toList, Nat.reduceAdd, Nat.reduceSub, Nat.reduceLeDiff, Nat.zero_add, Nat.zero_le, true_and, and_true, Nat.le_refl, ge_iff_le, Nat.reduceEqDiff]
      refine ⟨fun z => absurd z (by decide), fun _ => ?_⟩
      refine num_use 0 200 hR9 a6 rfl (by decide) rfl (by decide) (fun h10 => ?_) (fun h10 M10 hs10 hR10 q10 => ?_)
      · simp only [zb_X3_readAct_145, zT_push, zT_bin, zT_div, zT_bil, zT_shl, zT_un, zT_i2l, zT_l2i, zT_lcmp, zT_ild, zT_lld, zT_ald, zT_ist, zT_lst, zT_ast, zT_iinc, zT_dup, zT_dup2, zT_pop, zT_if1, zT_if2, zT_ifn, zT_getI, zT_getJ, zT_getR, zT_putI, zT_putZ, zT_putJ, zT_putR, zT_ald0, zT_lald, zT_aald, zT_iast, zT_zast, zT_bast, zT_last, zT_aast, zT_iret, zT_nret, zT_aret, zT_vret, zT_oi, zT_mm, zT_ialX, zT_S1, zT_S2, zT_S3, zT_V0, zT_V1, zT_V2, zT_V3, zT_V4, zT_V5, zT_V6, zT_I0, zT_I1, zT_I2, zlg, zlset, zlpr, zent, zok, va_rf, List.length_cons, List.length_nil, List.replicate, List.cons_append, List.nil_append, List.append_nil, Option.toList_some, Option.toList_none, Option.toList, Nat.reduceAdd, Nat.reduceSub, Nat.reduceLeDiff, Nat.zero_add, Nat.zero_le, true_and, and_true, Nat.le_refl, ge_iff_le, Nat.reduceEqDiff]
        refine ⟨fun _ => ⟨rfl, hF _ (by rw [if_neg (by rw [h10]; decide)]) a6 M9 w9 hR9.2.2.2.2.2.1⟩, fun z => absurd trivial z⟩
      rw [if_pos h10] at hF hT
      have w10 := w9.rd hs10 (by omega)
      rw [← hs10.at (k := dk + 1) (by simp; omega)] at g1'
      rw [← hs10.at (k := dk + 2) (by simp; omega)] at g2
      rw [← hs10.at (k := dk + 3) (by simp; omega)] at g3
      rw [← hs10.at (k := dk + 4) (by simp; omega)] at g4
      have e10 : M10.2.2.2 = M.2.2.2 := w10.1.R
      simp only [hk, p0, p5, e10, r1, d4, q10, hcl, zT_push, zT_bin, zT_div, zT_bil, zT_shl, zT_un, zT_i2l, zT_l2i, zT_lcmp, zT_ild, zT_lld, zT_ald, zT_ist, zT_lst, zT_ast, zT_iinc, zT_dup, zT_dup2, zT_pop, zT_if1, zT_if2, zT_ifn, zT_getI, zT_getJ, zT_getR, zT_putI, zT_putZ, zT_putJ, zT_putR, zT_ald0, zT_lald, zT_aald, zT_iast, zT_zast, zT_bast, zT_last, zT_aast, zT_iret, zT_nret, zT_aret, zT_vret, zT_oi, zT_mm, zT_ialX, zT_S1, zT_S2, zT_S3, zT_V0, zT_V1, zT_V2, zT_V3, zT_V4, zT_V5, zT_V6, zT_I0, zT_I1, zT_I2, zlg, zlset, zlpr, zent, zok, va_rf, List.length_cons, List.length_nil, List.replicate, List.cons_append, List.nil_append, List.append_nil, Option.toList_some, Option.toList_none, Option.toList, Nat.reduceAdd, Nat.reduceSub, Nat.reduceLeDiff, Nat.zero_add, Nat.zero_le, true_and, and_true, Nat.le_refl, ge_iff_le, Nat.reduceEqDiff]
      refine ⟨fun z => absurd z (by decide), fun _ => ⟨hin, rfl, ?_⟩⟩
      have b4 := wnm_le h10
      refine hT _ _ rfl a7 ⟨by show c < 4; omega, b1, by show wnv _ _ < 12; omega, by show wnv _ _ < 10; omega, b4⟩ _ (w10.wr (r := 5) (by decide) (by decide)) (hR10.wr (r := 5) (by omega) (by omega)) ?_ ?_ ?_ ?_ (fun _ => ?_)
      · show zw2 _ _ _ _ _ _ = _; rw [zw2_n (by omega)]; exact g1'
      · show zw2 _ _ _ _ _ _ = _; rw [zw2_n (by omega)]; exact g2
      · show zw2 _ _ _ _ _ _ = _; rw [zw2_n (by omega)]; exact g3
      · show zw2 _ _ _ _ _ _ = _; rw [zw2_n (by omega)]; exact g4
      · show zw2 _ _ _ _ _ _ = _; rw [zw2_s, zup_s]; rfl
    have ceq : ∀ d, d < 4 → (nI c = nI d ↔ c = d) := fun d hd => nI_eq (by omega) (by omega)
    refine ⟨fun z => low ?_, fun z => ⟨fun z1 => low ?_, fun z1 => ⟨fun z2 => ?_, fun z2 => ?_⟩⟩⟩
    · have := (ceq 0 (by decide)).mp z; omega
    · have := (ceq 1 (by decide)).mp z1; omega
    · have e := (ceq 2 (by decide)).mp z2
      exact high 5 (by decide) (by omega) (by rw [if_pos e])
    · have e0 : ¬ c = 0 := fun q => z ((ceq 0 (by decide)).mpr q)
      have e1 : ¬ c = 1 := fun q => z1 ((ceq 1 (by decide)).mpr q)
      have e2' : ¬ c = 2 := fun q => z2 ((ceq 2 (by decide)).mpr q)
      exact high 6 (by decide) (by omega) (by rw [if_neg e2'])
  · exact h.elim
