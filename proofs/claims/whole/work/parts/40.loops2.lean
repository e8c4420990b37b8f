/-! stays, wasted, foretold -/
theorem wff_bd {p : Nat → Bool} : ∀ {k i j : Nat}, wff p k i = some j → i ≤ j ∧ j < i + k ∧ p j = true
  | 0, i, j, h => by cases h
  | k + 1, i, j, h => by
    unfold wff at h
    by_cases q : p i = true
    · rw [if_pos q] at h
      cases h
      exact ⟨Nat.le_refl _, by omega, q⟩
    · rw [if_neg q] at h
      have := wff_bd h
      exact ⟨by omega, by omega, this.2.2⟩
theorem wAG_bd {σ : wSP} {es : List wEn} {r day i j : Nat} (hi : i ≤ es.length) (h : wAG σ es r day i = some j) : i ≤ j ∧ j < es.length := by
  have := wff_bd h
  exact ⟨this.1, by omega⟩
theorem woi_none {o : Option Nat} (h : ∀ j, o = some j → j < 2 ^ 31) : woi o = -1 ↔ o = none := by
  rcases o with _ | j
  · exact ⟨fun _ => rfl, fun _ => rfl⟩
  · refine ⟨fun z => ?_, fun z => by cases z⟩
    have z' : nI j = -1 := z
    have hj := h j rfl
    have := (nI_leI (a := 0) (b := j) (by decide) hj).mpr (Nat.zero_le _)
    rw [z'] at this
    exact absurd this (by decide)
def wsy (σ : wSP) (es : List wEn) (day r : Nat) : Bool := (wAG σ es r day 0).isNone
theorem wAG_none {σ : wSP} {es : List wEn} {r day i : Nat} (hes : es.length ≤ 200) (hi : i ≤ es.length) : woi (wAG σ es r day i) = -1 ↔ wAG σ es r day i = none :=
  woi_none (fun j hj => by have := wAG_bd hi hj; omega)
def wsg (b : Nat → Bool) (i : Int32) : Nat → Nat → Nat → Int32
  | 0, _, n => if i = -1 then nI n else -1
  | f + 1, r, n => if b r = true then (if nI n = i then nI r else wsg b i f (r + 1) (n + 1)) else wsg b i f (r + 1) n
def pStays (i d : Int32) (F : wFS) : Int32 × wFS :=
  if (-1 ≤ i ∧ i ≤ 35) ∧ 0 ≤ d ∧ d ≤ 1000 then (wsg (wsy F.1 F.2.1 (tn d)) i 36 0 0, F) else (-1, F)
def zc_X7_stays (a : List Value) (M : zMm) (K : zKt) : Prop := match a with
  | [.ref k, .int i, .int d] => k = 0 ∧ ∃ F pk dk p, zXF M F pk dk p ∧ ∀ M', zXF M' (pStays i d F).2 pk dk p → K (some (.int (pStays i d F).1)) M'
  | _ => False
set_option maxHeartbeats 2000000 in
theorem zm_X7_stays (l : Launch) (D : va_G) (Y : Nat → ClassId) : zMt l D Y yX7_stays cX7_stays 5 (some .int) 6 144 80 20000 zc_X7_stays := by
  refine zwhile1 (h0 := 24) (by decide) (fun K J lc lz => zb_X7_stays_0 K J lc lz) (fun K lc lz J => zb_X7_stays_24 K J lc lz) (fun X hR J hJ => zbs_X7_stays_0 hR J hJ) (fun X hR J hJ => zbs_X7_stays_24 hR J hJ) (fun avs M K h => ?_)
  unfold zc_X7_stays at h
  split at h
  · next k i d =>
    obtain ⟨rfl, F, pk, dk, p, hF, h⟩ := h
    refine ⟨by simp [zent], fun q M' ls st => ((-1 ≤ i ∧ i ≤ 35) ∧ 0 ≤ d ∧ d ≤ 1000) ∧ ∃ r n, q = 36 - r ∧ r ≤ 36 ∧ n ≤ r ∧ ls = [some (.ref 0), some (.int i), some (.int d), some (.int (nI n)), some (.int (nI r))] ∧ st = [] ∧ zXF M' F pk dk p ∧ M'.1.length ≤ M.1.length + 2 * r ∧ zss M'.1 ≤ zss M.1 + 467 * r ∧ wsg (wsy F.1 F.2.1 (tn d)) i (36 - r) r n = wsg (wsy F.1 F.2.1 (tn d)) i 36 0 0, ?_, ?_⟩
    · rintro q J hJ M' ls st ⟨hc, r, n, rfl, hr, hn, rfl, rfl, hF2, hl, hz, hw⟩
      obtain ⟨d1, d2⟩ := tn_nI (x := d) (b := 1000) hc.2.1 hc.2.2 (by decide)
      have fin : ∀ M2, zXF M2 F pk dk p → K (some (.int (wsg (wsy F.1 F.2.1 (tn d)) i (36 - r) r n))) M2 := by
        intro M2 hF3
        have h4 := h M2
        unfold pStays at h4
        rw [if_pos hc, ← hw] at h4
        exact h4 hF3
      have hes := hF2.2.1.2.1
      simp only [zb_X7_stays_24, zb_X7_stays_70, zsh_0, zT_push, zT_bin, zT_div, zT_bil, zT_shl, zT_un, zT_i2l, zT_l2i, zT_lcmp, zT_ild, zT_lld, zT_ald, zT_ist, zT_lst, zT_ast, zT_iinc, zT_dup, zT_dup2, zT_pop, zT_if1, zT_if2, zT_ifn, zT_getI, zT_getJ, zT_getR, zT_putI, zT_putZ, zT_putJ, zT_putR, zT_ald0, zT_lald, zT_aald, zT_iast, zT_zast, zT_bast, zT_last, zT_aast, zT_iret, zT_nret, zT_aret, zT_vret, zT_oi, zT_mm, zT_ialX, zT_S1, zT_S2, zT_S3, zT_V0, zT_V1, zT_V2, zT_V3, zT_V4, zT_V5, zT_V6, zT_I0, zT_I1, zT_I2, zlg, zlset, zlpr, zent, zok, va_rf, List.length_cons, List.length_nil, List.replicate, List.cons_append, List.nil_append, List.append_nil, Option.toList_some, Option.toList_none, Option.toList, Nat.reduceAdd, Nat.reduceSub, Nat.reduceLeDiff, Nat.zero_add, Nat.zero_le, true_and, and_true, Nat.le_refl, ge_iff_le, Nat.reduceEqDiff]
      refine ⟨fun h1 => ?_, fun h1 => ?_⟩
      · have := zn_ge' (b := 36) h1 (by omega) (by omega)
        have e : r = 36 := by omega
        subst e
        have h5 := fin M' hF2
        rw [Nat.sub_self] at h5
        unfold wsg at h5
        refine ⟨fun h2 => ?_, fun h2 => ?_⟩
        · rw [if_pos h2] at h5; exact h5
        · rw [if_neg h2] at h5; exact h5
      · have hlt := zn_ge (b := 36) h1 (by omega) (by omega)
        refine ⟨⟨by omega, by omega⟩, ?_⟩
        unfold zc_X7_againstFrom
        dsimp only
        refine ⟨rfl, 0, r, tn d, F.1, pk, dk, p, F.2.1, rfl, Nat.zero_le _, rfl, hlt, d1, d2, hF2.1, hF2.2.1, fun M2 hrn2 hxi2 => ?_⟩
        have hF3 := hF2.run hrn2 hxi2
        have hln := hrn2.len
        have hss := hrn2.ss hlt
        have hun : wsg (wsy F.1 F.2.1 (tn d)) i (36 - r) r n = if wsy F.1 F.2.1 (tn d) r = true then (if nI n = i then nI r else wsg (wsy F.1 F.2.1 (tn d)) i (36 - (r + 1)) (r + 1) (n + 1)) else wsg (wsy F.1 F.2.1 (tn d)) i (36 - (r + 1)) (r + 1) n := by
          rw [show 36 - r = (36 - (r + 1)) + 1 from by omega]
          rfl
        have hb : wsy F.1 F.2.1 (tn d) r = true ↔ woi (wAG F.1 F.2.1 r (tn d) 0) = -1 := by
          rw [wAG_none hes (Nat.zero_le _)]
          unfold wsy
          exact Option.isNone_iff_eq_none
        simp only [zb_X7_stays_54, zT_push, zT_bin, zT_div, zT_bil, zT_shl, zT_un, zT_i2l, zT_l2i, zT_lcmp, zT_ild, zT_lld, zT_ald, zT_ist, zT_lst, zT_ast, zT_iinc, zT_dup, zT_dup2, zT_pop, zT_if1, zT_if2, zT_ifn, zT_getI, zT_getJ, zT_getR, zT_putI, zT_putZ, zT_putJ, zT_putR, zT_ald0, zT_lald, zT_aald, zT_iast, zT_zast, zT_bast, zT_last, zT_aast, zT_iret, zT_nret, zT_aret, zT_vret, zT_oi, zT_mm, zT_ialX, zT_S1, zT_S2, zT_S3, zT_V0, zT_V1, zT_V2, zT_V3, zT_V4, zT_V5, zT_V6, zT_I0, zT_I1, zT_I2, zlg, zlset, zlpr, zent, zok, va_rf, List.length_cons, List.length_nil, List.replicate, List.cons_append, List.nil_append, List.append_nil, Option.toList_some, Option.toList_none, Option.toList, Nat.reduceAdd, Nat.reduceSub, Nat.reduceLeDiff, Nat.zero_add, Nat.zero_le, true_and, and_true, Nat.le_refl, ge_iff_le, Nat.reduceEqDiff]
        refine ⟨fun h2 => ⟨fun h3 => ?_, fun h3 => ?_⟩, fun h2 => ?_⟩
        · rw [if_pos (hb.mpr h2), if_pos h3] at hun
          have h5 := fin M2 hF3
          rw [hun] at h5
          exact h5
        · rw [if_pos (hb.mpr h2), if_neg h3] at hun
          refine hJ (36 - (r + 1)) _ _ _ (by omega) ⟨hc, r + 1, n + 1, rfl, by omega, by omega, by rw [nI_1, nI_1], rfl, hF3, by omega, by omega, by rw [← hun]; exact hw⟩
        · rw [if_neg (fun z => h2 (hb.mp z))] at hun
          refine hJ (36 - (r + 1)) _ _ _ (by omega) ⟨hc, r + 1, n, rfl, by omega, by omega, by rw [nI_1], rfl, hF3, by omega, by omega, by rw [← hun]; exact hw⟩
    · intro J hJ
      have bad : ¬ ((-1 ≤ i ∧ i ≤ 35) ∧ 0 ≤ d ∧ d ≤ 1000) → K (some (.int (-1))) M := by
        intro hb
        have h2 := h M
        unfold pStays at h2
        rw [if_neg hb] at h2
        exact h2 hF
      simp only [zb_X7_stays_0, zb_X7_stays_17, zT_push, zT_bin, zT_div, zT_bil, zT_shl, zT_un, zT_i2l, zT_l2i, zT_lcmp, zT_ild, zT_lld, zT_ald, zT_ist, zT_lst, zT_ast, zT_iinc, zT_dup, zT_dup2, zT_pop, zT_if1, zT_if2, zT_ifn, zT_getI, zT_getJ, zT_getR, zT_putI, zT_putZ, zT_putJ, zT_putR, zT_ald0, zT_lald, zT_aald, zT_iast, zT_zast, zT_bast, zT_last, zT_aast, zT_iret, zT_nret, zT_aret, zT_vret, zT_oi, zT_mm, zT_ialX, zT_S1, zT_S2, zT_S3, zT_V0, zT_V1, zT_V2, zT_V3, zT_V4, zT_V5, zT_V6, zT_I0, zT_I1, zT_I2, zlg, zlset, zlpr, zent, zok, va_rf, List.length_cons, List.length_nil, List.replicate, List.cons_append, List.nil_append, List.append_nil, Option.toList_some, Option.toList_none, Option.toList, Nat.reduceAdd, Nat.reduceSub, Nat.reduceLeDiff, Nat.zero_add, Nat.zero_le, true_and, and_true, Nat.le_refl, ge_iff_le, Nat.reduceEqDiff]
      unfold zc_X7_within zc_X7_isDay
      dsimp only
      simp only [zbI_0, zT_push, zT_bin, zT_div, zT_bil, zT_shl, zT_un, zT_i2l, zT_l2i, zT_lcmp, zT_ild, zT_lld, zT_ald, zT_ist, zT_lst, zT_ast, zT_iinc, zT_dup, zT_dup2, zT_pop, zT_if1, zT_if2, zT_ifn, zT_getI, zT_getJ, zT_getR, zT_putI, zT_putZ, zT_putJ, zT_putR, zT_ald0, zT_lald, zT_aald, zT_iast, zT_zast, zT_bast, zT_last, zT_aast, zT_iret, zT_nret, zT_aret, zT_vret, zT_oi, zT_mm, zT_ialX, zT_S1, zT_S2, zT_S3, zT_V0, zT_V1, zT_V2, zT_V3, zT_V4, zT_V5, zT_V6, zT_I0, zT_I1, zT_I2, zlg, zlset, zlpr, zent, zok, va_rf, List.length_cons, List.length_nil, List.replicate, List.cons_append, List.nil_append, List.append_nil, Option.toList_some, Option.toList_none, Option.toList, Nat.reduceAdd, Nat.reduceSub, Nat.reduceLeDiff, Nat.zero_add, Nat.zero_le, true_and, and_true, Nat.le_refl, ge_iff_le, Nat.reduceEqDiff]
      refine ⟨fun h1 => bad (fun z => h1 z.1), fun h1 => ⟨fun h2 => bad (fun z => h2 z.2), fun h2 => ?_⟩⟩
      exact hJ 36 _ _ _ ⟨⟨Classical.not_not.mp h1, Classical.not_not.mp h2⟩, 0, 0, rfl, by omega, by omega, rfl, rfl, hF, by omega, by omega, rfl⟩
  · exact h.elim
/-! wasted -/
def wmn (f : Option Nat) (e : Nat) : Option (Option Nat) := match f with
  | none => some (some e)
  | some g => if e < g then some (some e) else some (some g)
def wwst (σ : wSP) (es : List wEn) (day r : Nat) (f : Option Nat) : Option (Option Nat) := match wAG σ es r day 0 with
  | none => none
  | some e => if wAG σ es r day (e + 1) = none then wmn f e else some f
def wws (σ : wSP) (es : List wEn) (day : Nat) : Nat → Option (Option Nat)
  | 0 => some none
  | r + 1 => (wws σ es day r).bind (wwst σ es day r)
def pWasted (d : Int32) (F : wFS) : Int32 × wFS :=
  if 0 ≤ d ∧ d ≤ 1000 then (match wws F.1 F.2.1 (tn d) 36 with
    | none => -1
    | some f => woi f, F) else (-1, F)
theorem wws_none {σ : wSP} {es : List wEn} {day r : Nat} (h : wws σ es day r = none) : ∀ n, wws σ es day (r + n) = none
  | 0 => h
  | n + 1 => by
    show (wws σ es day (r + n)).bind _ = none
    rw [wws_none h n]
    rfl
def zc_X7_wasted (a : List Value) (M : zMm) (K : zKt) : Prop := match a with
  | [.ref k, .int d] => k = 0 ∧ ∃ F pk dk p, zXF M F pk dk p ∧ ∀ M', zXF M' (pWasted d F).2 pk dk p → K (some (.int (pWasted d F).1)) M'
  | _ => False
set_option maxHeartbeats 2000000 in
theorem zm_X7_wasted (l : Launch) (D : va_G) (Y : Nat → ClassId) : zMt l D Y yX7_wasted cX7_wasted 6 (some .int) 6 144 80 20000 zc_X7_wasted := by
  refine zwhile1 (h0 := 13) (by decide) (fun K J lc lz => zb_X7_wasted_0 K J lc lz) (fun K lc lz J => zb_X7_wasted_13 K J lc lz) (fun X hR J hJ => zbs_X7_wasted_0 hR J hJ) (fun X hR J hJ => zbs_X7_wasted_13 hR J hJ) (fun avs M K h => ?_)
  unfold zc_X7_wasted at h
  split at h
  · next k d =>
    obtain ⟨rfl, F, pk, dk, p, hF, h⟩ := h
    refine ⟨by simp [zent], fun q M' ls st => (0 ≤ d ∧ d ≤ 1000) ∧ ∃ r f o1 o2, q = 36 - r ∧ r ≤ 36 ∧ wws F.1 F.2.1 (tn d) r = some f ∧ (∀ e, f = some e → e < 200) ∧ ls = [some (.ref 0), some (.int d), some (.int (woi f)), some (.int (nI r)), o1, o2] ∧ st = [] ∧ zXF M' F pk dk p ∧ M'.1.length ≤ M.1.length + 2 * r ∧ zss M'.1 ≤ zss M.1 + 467 * r, ?_, ?_⟩
    · rintro q J hJ M' ls st ⟨hc, r, f, o1, o2, rfl, hr, hw, hfb, rfl, rfl, hF2, hl, hz⟩
      obtain ⟨d1, d2⟩ := tn_nI (x := d) (b := 1000) hc.1 hc.2 (by decide)
      have hes := hF2.2.1.2.1
      simp only [zb_X7_wasted_13, zsh_0, zT_push, zT_bin, zT_div, zT_bil, zT_shl, zT_un, zT_i2l, zT_l2i, zT_lcmp, zT_ild, zT_lld, zT_ald, zT_ist, zT_lst, zT_ast, zT_iinc, zT_dup, zT_dup2, zT_pop, zT_if1, zT_if2, zT_ifn, zT_getI, zT_getJ, zT_getR, zT_putI, zT_putZ, zT_putJ, zT_putR, zT_ald0, zT_lald, zT_aald, zT_iast, zT_zast, zT_bast, zT_last, zT_aast, zT_iret, zT_nret, zT_aret, zT_vret, zT_oi, zT_mm, zT_ialX, zT_S1, zT_S2, zT_S3, zT_V0, zT_V1, zT_V2, zT_V3, zT_V4, zT_V5, zT_V6, zT_I0, zT_I1, zT_I2, zlg, zlset, zlpr, zent, zok, va_rf, List.length_cons, List.length_nil, List.replicate, List.cons_append, List.nil_append, List.append_nil, Option.toList_some, Option.toList_none, Option.toList, Nat.reduceAdd, Nat.reduceSub, Nat.reduceLeDiff, Nat.zero_add, Nat.zero_le, true_and, and_true, Nat.le_refl, ge_iff_le, Nat.reduceEqDiff]
      refine ⟨fun h1 => ?_, fun h1 => ?_⟩
      · have := zn_ge' (b := 36) h1 (by omega) (by omega)
        have e : r = 36 := by omega
        subst e
        have h4 := h M'
        unfold pWasted at h4
        rw [if_pos hc, hw] at h4
        exact h4 hF2
      · have hlt := zn_ge (b := 36) h1 (by omega) (by omega)
        refine ⟨⟨by omega, by omega⟩, ?_⟩
        unfold zc_X7_againstFrom
        dsimp only
        refine ⟨rfl, 0, r, tn d, F.1, pk, dk, p, F.2.1, rfl, Nat.zero_le _, rfl, hlt, d1, d2, hF2.1, hF2.2.1, fun M2 hrn2 hxi2 => ?_⟩
        have hF3 := hF2.run hrn2 hxi2
        have hln := hrn2.len
        have hss := hrn2.ss hlt
        have hun : wws F.1 F.2.1 (tn d) (r + 1) = wwst F.1 F.2.1 (tn d) r f := by
          show (wws F.1 F.2.1 (tn d) r).bind _ = _
          rw [hw]
          rfl
        unfold wwst at hun
        simp only [zsh_0, zT_push, zT_bin, zT_div, zT_bil, zT_shl, zT_un, zT_i2l, zT_l2i, zT_lcmp, zT_ild, zT_lld, zT_ald, zT_ist, zT_lst, zT_ast, zT_iinc, zT_dup, zT_dup2, zT_pop, zT_if1, zT_if2, zT_ifn, zT_getI, zT_getJ, zT_getR, zT_putI, zT_putZ, zT_putJ, zT_putR, zT_ald0, zT_lald, zT_aald, zT_iast, zT_zast, zT_bast, zT_last, zT_aast, zT_iret, zT_nret, zT_aret, zT_vret, zT_oi, zT_mm, zT_ialX, zT_S1, zT_S2, zT_S3, zT_V0, zT_V1, zT_V2, zT_V3, zT_V4, zT_V5, zT_V6, zT_I0, zT_I1, zT_I2, zlg, zlset, zlpr, zent, zok, va_rf, List.length_cons, List.length_nil, List.replicate, List.cons_append, List.nil_append, List.append_nil, Option.toList_some, Option.toList_none, Option.toList, Nat.reduceAdd, Nat.reduceSub, Nat.reduceLeDiff, Nat.zero_add, Nat.zero_le, true_and, and_true, Nat.le_refl, ge_iff_le, Nat.reduceEqDiff]
        refine ⟨fun h2 => ?_, fun h2 => ?_⟩
        · have h2' := h2
          rw [wAG_none hes (Nat.zero_le _)] at h2'
          rw [h2'] at hun
          have h4 := h M2
          unfold pWasted at h4
          rw [if_pos hc, show 36 = r + 1 + (36 - (r + 1)) from by omega, wws_none hun] at h4
          exact h4 hF3
        · rcases hag : wAG F.1 F.2.1 r (tn d) 0 with _ | e
          · exact absurd (by rw [hag]; rfl) h2
          · have he := wAG_bd (Nat.zero_le _) hag
            rw [hag] at hun
            dsimp only at hun
            refine ⟨⟨by omega, by omega⟩, ?_⟩
            refine ⟨e + 1, r, tn d, F.1, pk, dk, p, F.2.1, by rw [← nI_1]; rfl, by omega, rfl, hlt, d1, d2, hF3.1, hF3.2.1, fun M3 hrn3 hxi3 => ?_⟩
            have hF4 := hF3.run hrn3 hxi3
            have hrn4 := hrn2.tr hrn3
            have hln := hrn4.len
            have hss := hrn4.ss hlt
            have hnn : woi (wAG F.1 F.2.1 r (tn d) (e + 1)) = -1 ↔ wAG F.1 F.2.1 r (tn d) (e + 1) = none := wAG_none hes (by omega)
            have step : ∀ f' o, wws F.1 F.2.1 (tn d) (r + 1) = some f' → (∀ e, f' = some e → e < 200) → zb_X7_wasted_76 K J (M.1.length + 80) (zss M.1 + 20000) M3 [some (.ref 0), some (.int d), some (.int (woi f')), some (.int (nI r)), some (.int (woi (some e))), o] [] := by
              intro f' o h3 h4
              simp only [zb_X7_wasted_76, zT_push, zT_bin, zT_div, zT_bil, zT_shl, zT_un, zT_i2l, zT_l2i, zT_lcmp, zT_ild, zT_lld, zT_ald, zT_ist, zT_lst, zT_ast, zT_iinc, zT_dup, zT_dup2, zT_pop, zT_if1, zT_if2, zT_ifn, zT_getI, zT_getJ, zT_getR, zT_putI, zT_putZ, zT_putJ, zT_putR, zT_ald0, zT_lald, zT_aald, zT_iast, zT_zast, zT_bast, zT_last, zT_aast, zT_iret, zT_nret, zT_aret, zT_vret, zT_oi, zT_mm, zT_ialX, zT_S1, zT_S2, zT_S3, zT_V0, zT_V1, zT_V2, zT_V3, zT_V4, zT_V5, zT_V6, zT_I0, zT_I1, zT_I2, zlg, zlset, zlpr, zent, zok, va_rf, List.length_cons, List.length_nil, List.replicate, List.cons_append, List.nil_append, List.append_nil, Option.toList_some, Option.toList_none, Option.toList, Nat.reduceAdd, Nat.reduceSub, Nat.reduceLeDiff, Nat.zero_add, Nat.zero_le, true_and, and_true, Nat.le_refl, ge_iff_le, Nat.reduceEqDiff]
              exact hJ (36 - (r + 1)) _ _ _ (by omega) ⟨hc, r + 1, f', _, _, rfl, by omega, h3, h4, by rw [nI_1], rfl, hF4, by omega, by omega⟩
            simp only [zb_X7_wasted_55, zb_X7_wasted_73, zT_push, zT_bin, zT_div, zT_bil, zT_shl, zT_un, zT_i2l, zT_l2i, zT_lcmp, zT_ild, zT_lld, zT_ald, zT_ist, zT_lst, zT_ast, zT_iinc, zT_dup, zT_dup2, zT_pop, zT_if1, zT_if2, zT_ifn, zT_getI, zT_getJ, zT_getR, zT_putI, zT_putZ, zT_putJ, zT_putR, zT_ald0, zT_lald, zT_aald, zT_iast, zT_zast, zT_bast, zT_last, zT_aast, zT_iret, zT_nret, zT_aret, zT_vret, zT_oi, zT_mm, zT_ialX, zT_S1, zT_S2, zT_S3, zT_V0, zT_V1, zT_V2, zT_V3, zT_V4, zT_V5, zT_V6, zT_I0, zT_I1, zT_I2, zlg, zlset, zlpr, zent, zok, va_rf, List.length_cons, List.length_nil, List.replicate, List.cons_append, List.nil_append, List.append_nil, Option.toList_some, Option.toList_none, Option.toList, Nat.reduceAdd, Nat.reduceSub, Nat.reduceLeDiff, Nat.zero_add, Nat.zero_le, true_and, and_true, Nat.le_refl, ge_iff_le, Nat.reduceEqDiff]
            have fe : ∀ e', some e = some e' → e' < 200 := fun e' z => by cases z; omega
            refine ⟨fun h3 => ⟨fun z => absurd z (by decide), fun _ => ⟨fun h4 => ?_, fun h4 => ⟨fun h5 => ?_, fun h5 => ?_⟩⟩⟩, fun h3 => ⟨fun _ => ?_, fun z => absurd trivial z⟩⟩
            · rw [if_pos (hnn.mp h3)] at hun
              rcases f with _ | g
              · exact step _ _ hun fe
              · have := hfb g rfl
                rw [woi_none (fun j hj => by cases hj; omega)] at h4
                cases h4
            · rw [if_pos (hnn.mp h3)] at hun
              rcases f with _ | g
              · exact absurd rfl h4
              · have hg := hfb g rfl
                have h6 : nI g ≤ nI e := h5
                have := (nI_leI (by omega) (by omega)).mp h6
                unfold wmn at hun
                dsimp only at hun
                rw [if_neg (by omega)] at hun
                exact step _ _ hun hfb
            · rw [if_pos (hnn.mp h3)] at hun
              rcases f with _ | g
              · exact absurd rfl h4
              · have hg := hfb g rfl
                have h6 : ¬ nI g ≤ nI e := h5
                have h7 := zn_ge h6 (by omega) (by omega)
                unfold wmn at hun
                dsimp only at hun
                rw [if_pos h7] at hun
                exact step _ _ hun fe
            · rw [if_neg (fun z => h3 (hnn.mpr z))] at hun
              exact step _ _ hun hfb
    · intro J hJ
      simp only [zb_X7_wasted_0, zT_push, zT_bin, zT_div, zT_bil, zT_shl, zT_un, zT_i2l, zT_l2i, zT_lcmp, zT_ild, zT_lld, zT_ald, zT_ist, zT_lst, zT_ast, zT_iinc, zT_dup, zT_dup2, zT_pop, zT_if1, zT_if2, zT_ifn, zT_getI, zT_getJ, zT_getR, zT_putI, zT_putZ, zT_putJ, zT_putR, zT_ald0, zT_lald, zT_aald, zT_iast, zT_zast, zT_bast, zT_last, zT_aast, zT_iret, zT_nret, zT_aret, zT_vret, zT_oi, zT_mm, zT_ialX, zT_S1, zT_S2, zT_S3, zT_V0, zT_V1, zT_V2, zT_V3, zT_V4, zT_V5, zT_V6, zT_I0, zT_I1, zT_I2, zlg, zlset, zlpr, zent, zok, va_rf, List.length_cons, List.length_nil, List.replicate, List.cons_append, List.nil_append, List.append_nil, Option.toList_some, Option.toList_none, Option.toList, Nat.reduceAdd, Nat.reduceSub, Nat.reduceLeDiff, Nat.zero_add, Nat.zero_le, true_and, and_true, Nat.le_refl, ge_iff_le, Nat.reduceEqDiff]
      unfold zc_X7_isDay
      dsimp only
      simp only [zbI_0, zT_push, zT_bin, zT_div, zT_bil, zT_shl, zT_un, zT_i2l, zT_l2i, zT_lcmp, zT_ild, zT_lld, zT_ald, zT_ist, zT_lst, zT_ast, zT_iinc, zT_dup, zT_dup2, zT_pop, zT_if1, zT_if2, zT_ifn, zT_getI, zT_getJ, zT_getR, zT_putI, zT_putZ, zT_putJ, zT_putR, zT_ald0, zT_lald, zT_aald, zT_iast, zT_zast, zT_bast, zT_last, zT_aast, zT_iret, zT_nret, zT_aret, zT_vret, zT_oi, zT_mm, zT_ialX, zT_S1, zT_S2, zT_S3, zT_V0, zT_V1, zT_V2, zT_V3, zT_V4, zT_V5, zT_V6, zT_I0, zT_I1, zT_I2, zlg, zlset, zlpr, zent, zok, va_rf, List.length_cons, List.length_nil, List.replicate, List.cons_append, List.nil_append, List.append_nil, Option.toList_some, Option.toList_none, Option.toList, Nat.reduceAdd, Nat.reduceSub, Nat.reduceLeDiff, Nat.zero_add, Nat.zero_le, true_and, and_true, Nat.le_refl, ge_iff_le, Nat.reduceEqDiff]
      refine ⟨fun h1 => ?_, fun h1 => ?_⟩
      · have h2 := h M
        unfold pWasted at h2
        rw [if_neg h1] at h2
        exact h2 hF
      · exact hJ 36 _ _ _ ⟨Classical.not_not.mp h1, 0, none, none, none, rfl, by omega, rfl, fun e he => (by cases he), rfl, rfl, hF, by omega, by omega⟩
  · exact h.elim
/-! foretold -/
def wm1 (S : Option (Nat × Nat)) (h : Nat) : Option (Nat × Nat) := match S with
  | none => some (h, h)
  | some (l, m) => some (if h < l then h else l, if m < h then h else m)
def wmm (σ : wSP) (es : List wEn) (day yr c : Nat) : Nat → Option (Nat × Nat)
  | 0 => none
  | r + 1 => if wsy σ es day r = true then wm1 (wmm σ es day yr c r) (wHT σ r yr c) else wmm σ es day yr c r
def wml (S : Option (Nat × Nat)) : Int32 := match S with
  | none => 201
  | some p => nI p.1
def wmg (S : Option (Nat × Nat)) : Int32 := match S with
  | none => -1
  | some p => nI p.2
def wfa (S : Option (Nat × Nat)) (g : Nat) (what : Int32) : Int32 := match S with
  | none => -100
  | some p => if what = 2 then (if g < p.1 then 1 else if p.2 < g then -1 else 0) else if what = 0 then nI p.1 else nI p.2
def pForetold (x y yr d what : Int32) (F : wFS) : Int32 × wFS :=
  if pclD F.1 x y = true ∧ (0 ≤ yr ∧ yr ≤ 30) ∧ (0 ≤ d ∧ d ≤ 1000) ∧ 0 ≤ what ∧ what ≤ 2 then (wfa (wmm F.1 F.2.1 (tn d) (tn yr) (tn y * 12 + tn x) 36) (sG F.1 (tn y * 12 + tn x)) what, F) else (-100, F)
def zc_X7_foretold (a : List Value) (M : zMm) (K : zKt) : Prop := match a with
  | [.ref k, .int x, .int y, .int yr, .int d, .int what] => k = 0 ∧ ∃ F pk dk p, zXF M F pk dk p ∧ ∀ M', zXF M' (pForetold x y yr d what F).2 pk dk p → K (some (.int (pForetold x y yr d what F).1)) M'
  | _ => False
def wmb (S : Option (Nat × Nat)) : Prop := ∀ p, S = some p → p.1 ≤ 200 ∧ p.2 ≤ 200
theorem wml_1 {S : Option (Nat × Nat)} {h : Nat} (hS : wmb S) (hh : h ≤ 200) : wml (wm1 S h) = if nI h < wml S then nI h else wml S := by
  rcases S with _ | ⟨l, m⟩
  · show nI h = _
    rw [if_pos]
    exact (nI_ltI (b := 201) (by omega) (by decide)).mpr (by omega)
  · have := hS _ rfl
    have h1 : l ≤ 200 := this.1
    exact (zmin_n (a := l) (b := h) (by omega) (by omega)).symm
theorem wmg_1 {S : Option (Nat × Nat)} {h : Nat} (hS : wmb S) (hh : h ≤ 200) : wmg (wm1 S h) = if wmg S < nI h then nI h else wmg S := by
  rcases S with _ | ⟨l, m⟩
  · show nI h = _
    rw [if_pos]
    exact Int32.lt_of_lt_of_le (by decide) ((nI_leI (a := 0) (by decide) (by omega)).mpr (Nat.zero_le h))
  · have := hS _ rfl
    have h1 : m ≤ 200 := this.2
    show nI (if m < h then h else m) = if nI m < nI h then nI h else nI m
    by_cases q : m < h
    · rw [if_pos q, if_pos ((nI_ltI (by omega) (by omega)).mpr q)]
    · rw [if_neg q, if_neg (fun z => q ((nI_ltI (by omega) (by omega)).mp z))]
theorem wmb_1 {S : Option (Nat × Nat)} {h : Nat} (hS : wmb S) (hh : h ≤ 200) : wmb (wm1 S h) := by
  rcases S with _ | ⟨l, m⟩
  · intro p hp
    cases hp
    exact ⟨hh, hh⟩
  · intro p hp
    have := hS _ rfl
    cases hp
    refine ⟨?_, ?_⟩
    · show (if h < l then h else l) ≤ 200
      split
      · exact hh
      · exact this.1
    · show (if m < h then h else m) ≤ 200
      split
      · exact hh
      · exact this.2
set_option maxHeartbeats 4000000 in
theorem zm_X7_foretold (l : Launch) (D : va_G) (Y : Nat → ClassId) : zMt l D Y yX7_foretold cX7_foretold 11 (some .int) 6 144 80 20000 zc_X7_foretold := by
  refine zwhile1 (h0 := 61) (by decide) (fun K J lc lz => zb_X7_foretold_0 K J lc lz) (fun K lc lz J => zb_X7_foretold_61 K J lc lz) (fun X hR J hJ => zbs_X7_foretold_0 hR J hJ) (fun X hR J hJ => zbs_X7_foretold_61 hR J hJ) (fun avs M K h => ?_)
  unfold zc_X7_foretold at h
  split at h
  · next k x y yr d what =>
    obtain ⟨rfl, F, pk, dk, p, hF, h⟩ := h
    obtain ⟨-, ok, w1, w2, -⟩ := id hF.1
    obtain ⟨a0, -⟩ := id hF.1.1
    refine ⟨by simp [zent], fun q M' ls st => (pcl F.1 x y ∧ (0 ≤ yr ∧ yr ≤ 30) ∧ (0 ≤ d ∧ d ≤ 1000) ∧ 0 ≤ what ∧ what ≤ 2) ∧ ∃ r o, q = 36 - r ∧ r ≤ 36 ∧ wmb (wmm F.1 F.2.1 (tn d) (tn yr) (tn y * 12 + tn x) r) ∧ ls = [some (.ref 0), some (.int x), some (.int y), some (.int yr), some (.int d), some (.int what), some (.int (nI (tn y * 12 + tn x))), some (.int (wml (wmm F.1 F.2.1 (tn d) (tn yr) (tn y * 12 + tn x) r))), some (.int (wmg (wmm F.1 F.2.1 (tn d) (tn yr) (tn y * 12 + tn x) r))), some (.int (nI r)), o] ∧ st = [] ∧ zXF M' F pk dk p ∧ M'.1.length ≤ M.1.length + 2 * r ∧ zss M'.1 ≤ zss M.1 + 467 * r, ?_, ?_⟩
    · rintro q J hJ M' ls st ⟨hc, r, o, rfl, hr, hmb, rfl, rfl, hF2, hl, hz⟩
      obtain ⟨d1, d2⟩ := tn_nI (x := d) (b := 1000) hc.2.2.1.1 hc.2.2.1.2 (by decide)
      obtain ⟨n1, n2⟩ := tn_nI (x := yr) (b := 30) hc.2.1.1 hc.2.1.2 (by decide)
      obtain ⟨x1, x2, y1, y2, x3, y3⟩ := pcl_n ok hc.1
      have hes := hF2.2.1.2.1
      have fin : r = 36 → K (some (.int (wfa (wmm F.1 F.2.1 (tn d) (tn yr) (tn y * 12 + tn x) r) (sG F.1 (tn y * 12 + tn x)) what))) M' := by
        intro e
        have h4 := h M'
        unfold pForetold at h4
        rw [if_pos ⟨pclD_t.mpr hc.1, hc.2⟩, ← e] at h4
        exact h4 hF2
      obtain ⟨c0, c1, c2, c3, c4, c5, c6, c7, -⟩ := id hF2.1.1
      simp only [zb_X7_foretold_61, zb_X7_foretold_164, zsh_0, zsh_1, zsh_2, c0, c7, zT_push, zT_bin, zT_div, zT_bil, zT_shl, zT_un, zT_i2l, zT_l2i, zT_lcmp, zT_ild, zT_lld, zT_ald, zT_ist, zT_lst, zT_ast, zT_iinc, zT_dup, zT_dup2, zT_pop, zT_if1, zT_if2, zT_ifn, zT_getI, zT_getJ, zT_getR, zT_putI, zT_putZ, zT_putJ, zT_putR, zT_ald0, zT_lald, zT_aald, zT_iast, zT_zast, zT_bast, zT_last, zT_aast, zT_iret, zT_nret, zT_aret, zT_vret, zT_oi, zT_mm, zT_ialX, zT_S1, zT_S2, zT_S3, zT_V0, zT_V1, zT_V2, zT_V3, zT_V4, zT_V5, zT_V6, zT_I0, zT_I1, zT_I2, zlg, zlset, zlpr, zent, zok, va_rf, List.length_cons, List.length_nil, List.replicate, List.cons_append, List.nil_append, List.append_nil, Option.toList_some, Option.toList_none, Option.toList, Nat.reduceAdd, Nat.reduceSub, Nat.reduceLeDiff, Nat.zero_add, Nat.zero_le, true_and, and_true, Nat.le_refl, ge_iff_le, Nat.reduceEqDiff]
      refine ⟨fun h1 => ?_, fun h1 => ?_⟩
      · have := zn_ge' (b := 36) h1 (by omega) (by omega)
        have e : r = 36 := by omega
        have h5 := fin e
        generalize wmm F.1 F.2.1 (tn d) (tn yr) (tn y * 12 + tn x) r = S at h5 hmb
        have hg : M'.2.1 2 (tn y * 12 + tn x) = nI (sG F.1 (tn y * 12 + tn x)) := hF2.1.2.2.2.2.2.2.2.1 _ (by omega)
        have hg2 : sG F.1 (tn y * 12 + tn x) ≤ 200 := ok.2.2.2.2.2.2.2.2 _
        rcases S with _ | ⟨l, m⟩
        · refine ⟨fun z => absurd z (by decide), fun _ => h5⟩
        · obtain ⟨hl1, hm1⟩ := hmb _ rfl
          have hl2 : l ≤ 200 := hl1
          have hm2 : m ≤ 200 := hm1
          unfold wfa at h5
          dsimp only at h5
          refine ⟨fun _ => ⟨fun h6 => ⟨vp_in_nI (by omega) (by decide), ?_⟩, fun h6 => ⟨fun h7 => ?_, fun h7 => ?_⟩⟩, fun z => absurd ((nI_leI (a := 0) (by decide) (by omega)).mpr (Nat.zero_le m)) z⟩
          · rw [if_pos h6] at h5
            rw [nI_clamp (by omega), hg]
            unfold zc_X7_trend wml wmg
            dsimp only
            simp only [nI_ltI (show sG F.1 (tn y * 12 + tn x) < 2 ^ 31 by omega) (show l < 2 ^ 31 by omega), nI_ltI (show m < 2 ^ 31 by omega) (show sG F.1 (tn y * 12 + tn x) < 2 ^ 31 by omega)]
            exact h5
          · rw [if_neg h6, if_pos h7] at h5
            exact h5
          · rw [if_neg h6, if_neg h7] at h5
            exact h5
      · have hlt := zn_ge (b := 36) h1 (by omega) (by omega)
        refine ⟨⟨by omega, by omega⟩, ?_⟩
        unfold zc_X7_againstFrom
        dsimp only
        refine ⟨rfl, 0, r, tn d, F.1, pk, dk, p, F.2.1, rfl, Nat.zero_le _, rfl, hlt, d1, d2, hF2.1, hF2.2.1, fun M2 hrn2 hxi2 => ?_⟩
        have hF3 := hF2.run hrn2 hxi2
        have hln := hrn2.len
        have hss := hrn2.ss hlt
        have hun : wmm F.1 F.2.1 (tn d) (tn yr) (tn y * 12 + tn x) (r + 1) = if wsy F.1 F.2.1 (tn d) r = true then wm1 (wmm F.1 F.2.1 (tn d) (tn yr) (tn y * 12 + tn x) r) (wHT F.1 r (tn yr) (tn y * 12 + tn x)) else wmm F.1 F.2.1 (tn d) (tn yr) (tn y * 12 + tn x) r := rfl
        have hb : wsy F.1 F.2.1 (tn d) r = true ↔ woi (wAG F.1 F.2.1 r (tn d) 0) = -1 := by
          rw [wAG_none hes (Nat.zero_le _)]
          unfold wsy
          exact Option.isNone_iff_eq_none
        obtain ⟨z0, z1⟩ := zyk_sh (yk := zyi r) ⟨r, hlt, rfl⟩
        simp only [zsh_0, zT_push, zT_bin, zT_div, zT_bil, zT_shl, zT_un, zT_i2l, zT_l2i, zT_lcmp, zT_ild, zT_lld, zT_ald, zT_ist, zT_lst, zT_ast, zT_iinc, zT_dup, zT_dup2, zT_pop, zT_if1, zT_if2, zT_ifn, zT_getI, zT_getJ, zT_getR, zT_putI, zT_putZ, zT_putJ, zT_putR, zT_ald0, zT_lald, zT_aald, zT_iast, zT_zast, zT_bast, zT_last, zT_aast, zT_iret, zT_nret, zT_aret, zT_vret, zT_oi, zT_mm, zT_ialX, zT_S1, zT_S2, zT_S3, zT_V0, zT_V1, zT_V2, zT_V3, zT_V4, zT_V5, zT_V6, zT_I0, zT_I1, zT_I2, zlg, zlset, zlpr, zent, zok, va_rf, List.length_cons, List.length_nil, List.replicate, List.cons_append, List.nil_append, List.append_nil, Option.toList_some, Option.toList_none, Option.toList, Nat.reduceAdd, Nat.reduceSub, Nat.reduceLeDiff, Nat.zero_add, Nat.zero_le, true_and, and_true, Nat.le_refl, ge_iff_le, Nat.reduceEqDiff]
        refine ⟨fun h2 => ?_, fun h2 => ?_⟩
        · rw [if_pos (hb.mpr h2)] at hun
          refine ⟨⟨by omega, by omega⟩, ?_⟩
          unfold zc_X7_runTo
          dsimp only
          refine ⟨rfl, r, tn yr, F.1, pk, dk, p, rfl, hlt, n1, n2, hxi2, fun M3 m hrn3 hxi3 hm1 hm2 q1 q2 hlat hzy => ?_⟩
          have hF4 := hF3.run hrn3 hxi3
          have hrn4 := hrn2.tr hrn3
          have hln := hrn4.len
          have hss := hrn4.ss hlt
          simp only [z0, zT_push, zT_bin, zT_div, zT_bil, zT_shl, zT_un, zT_i2l, zT_l2i, zT_lcmp, zT_ild, zT_lld, zT_ald, zT_ist, zT_lst, zT_ast, zT_iinc, zT_dup, zT_dup2, zT_pop, zT_if1, zT_if2, zT_ifn, zT_getI, zT_getJ, zT_getR, zT_putI, zT_putZ, zT_putJ, zT_putR, zT_ald0, zT_lald, zT_aald, zT_iast, zT_zast, zT_bast, zT_last, zT_aast, zT_iret, zT_nret, zT_aret, zT_vret, zT_oi, zT_mm, zT_ialX, zT_S1, zT_S2, zT_S3, zT_V0, zT_V1, zT_V2, zT_V3, zT_V4, zT_V5, zT_V6, zT_I0, zT_I1, zT_I2, zlg, zlset, zlpr, zent, zok, va_rf, List.length_cons, List.length_nil, List.replicate, List.cons_append, List.nil_append, List.append_nil, Option.toList_some, Option.toList_none, Option.toList, Nat.reduceAdd, Nat.reduceSub, Nat.reduceLeDiff, Nat.zero_add, Nat.zero_le, true_and, and_true, Nat.le_refl, ge_iff_le, Nat.reduceEqDiff]
          unfold zc_X6_heightOf
          dsimp only
          have hle := wHD_le ok r (tn yr) (tn y * 12 + tn x)
          refine ⟨⟨⟨r, hlt, rfl⟩, q2⟩, tn yr, tn y * 12 + tn x, (wHD F.1 r (tn yr)).1, n1, n2, rfl, by omega, fun e _ => wHD_le ok r _ e, fun j hj => hzy _ hm1 j hj, ?_⟩
          simp only [zb_X7_foretold_114, zT_push, zT_bin, zT_div, zT_bil, zT_shl, zT_un, zT_i2l, zT_l2i, zT_lcmp, zT_ild, zT_lld, zT_ald, zT_ist, zT_lst, zT_ast, zT_iinc, zT_dup, zT_dup2, zT_pop, zT_if1, zT_if2, zT_ifn, zT_getI, zT_getJ, zT_getR, zT_putI, zT_putZ, zT_putJ, zT_putR, zT_ald0, zT_lald, zT_aald, zT_iast, zT_zast, zT_bast, zT_last, zT_aast, zT_iret, zT_nret, zT_aret, zT_vret, zT_oi, zT_mm, zT_ialX, zT_S1, zT_S2, zT_S3, zT_V0, zT_V1, zT_V2, zT_V3, zT_V4, zT_V5, zT_V6, zT_I0, zT_I1, zT_I2, zlg, zlset, zlpr, zent, zok, va_rf, List.length_cons, List.length_nil, List.replicate, List.cons_append, List.nil_append, List.append_nil, Option.toList_some, Option.toList_none, Option.toList, Nat.reduceAdd, Nat.reduceSub, Nat.reduceLeDiff, Nat.zero_add, Nat.zero_le, true_and, and_true, Nat.le_refl, ge_iff_le, Nat.reduceEqDiff]
          rw [← wml_1 hmb hle, ← wmg_1 hmb hle]
          exact hJ (36 - (r + 1)) _ _ _ (by omega) ⟨hc, r + 1, _, rfl, by omega, by rw [hun]; exact wmb_1 hmb hle, by rw [nI_1, hun]; rfl, rfl, hF4, by omega, by omega⟩
        · rw [if_neg (fun z => h2 (hb.mp z))] at hun
          simp only [zb_X7_foretold_114, zT_push, zT_bin, zT_div, zT_bil, zT_shl, zT_un, zT_i2l, zT_l2i, zT_lcmp, zT_ild, zT_lld, zT_ald, zT_ist, zT_lst, zT_ast, zT_iinc, zT_dup, zT_dup2, zT_pop, zT_if1, zT_if2, zT_ifn, zT_getI, zT_getJ, zT_getR, zT_putI, zT_putZ, zT_putJ, zT_putR, zT_ald0, zT_lald, zT_aald, zT_iast, zT_zast, zT_bast, zT_last, zT_aast, zT_iret, zT_nret, zT_aret, zT_vret, zT_oi, zT_mm, zT_ialX, zT_S1, zT_S2, zT_S3, zT_V0, zT_V1, zT_V2, zT_V3, zT_V4, zT_V5, zT_V6, zT_I0, zT_I1, zT_I2, zlg, zlset, zlpr, zent, zok, va_rf, List.length_cons, List.length_nil, List.replicate, List.cons_append, List.nil_append, List.append_nil, Option.toList_some, Option.toList_none, Option.toList, Nat.reduceAdd, Nat.reduceSub, Nat.reduceLeDiff, Nat.zero_add, Nat.zero_le, true_and, and_true, Nat.le_refl, ge_iff_le, Nat.reduceEqDiff]
          rw [← hun]
          exact hJ (36 - (r + 1)) _ _ _ (by omega) ⟨hc, r + 1, o, rfl, by omega, by rw [hun]; exact hmb, by rw [nI_1], rfl, hF3, by omega, by omega⟩
    · intro J hJ
      have bad : ¬ (pclD F.1 x y = true ∧ (0 ≤ yr ∧ yr ≤ 30) ∧ (0 ≤ d ∧ d ≤ 1000) ∧ 0 ≤ what ∧ what ≤ 2) → K (some (.int (-100))) M := by
        intro hb
        have h2 := h M
        unfold pForetold at h2
        rw [if_neg hb] at h2
        exact h2 hF
      simp only [zb_X7_foretold_0, zb_X7_foretold_40, zsh_0, zsh_1, a0, zT_push, zT_bin, zT_div, zT_bil, zT_shl, zT_un, zT_i2l, zT_l2i, zT_lcmp, zT_ild, zT_lld, zT_ald, zT_ist, zT_lst, zT_ast, zT_iinc, zT_dup, zT_dup2, zT_pop, zT_if1, zT_if2, zT_ifn, zT_getI, zT_getJ, zT_getR, zT_putI, zT_putZ, zT_putJ, zT_putR, zT_ald0, zT_lald, zT_aald, zT_iast, zT_zast, zT_bast, zT_last, zT_aast, zT_iret, zT_nret, zT_aret, zT_vret, zT_oi, zT_mm, zT_ialX, zT_S1, zT_S2, zT_S3, zT_V0, zT_V1, zT_V2, zT_V3, zT_V4, zT_V5, zT_V6, zT_I0, zT_I1, zT_I2, zlg, zlset, zlpr, zent, zok, va_rf, List.length_cons, List.length_nil, List.replicate, List.cons_append, List.nil_append, List.append_nil, Option.toList_some, Option.toList_none, Option.toList, Nat.reduceAdd, Nat.reduceSub, Nat.reduceLeDiff, Nat.zero_add, Nat.zero_le, true_and, and_true, Nat.le_refl, ge_iff_le, Nat.reduceEqDiff]
      unfold zc_X1_has zc_X7_within zc_X7_isDay
      dsimp only
      simp only [zbI_0, w1, w2, zT_push, zT_bin, zT_div, zT_bil, zT_shl, zT_un, zT_i2l, zT_l2i, zT_lcmp, zT_ild, zT_lld, zT_ald, zT_ist, zT_lst, zT_ast, zT_iinc, zT_dup, zT_dup2, zT_pop, zT_if1, zT_if2, zT_ifn, zT_getI, zT_getJ, zT_getR, zT_putI, zT_putZ, zT_putJ, zT_putR, zT_ald0, zT_lald, zT_aald, zT_iast, zT_zast, zT_bast, zT_last, zT_aast, zT_iret, zT_nret, zT_aret, zT_vret, zT_oi, zT_mm, zT_ialX, zT_S1, zT_S2, zT_S3, zT_V0, zT_V1, zT_V2, zT_V3, zT_V4, zT_V5, zT_V6, zT_I0, zT_I1, zT_I2, zlg, zlset, zlpr, zent, zok, va_rf, List.length_cons, List.length_nil, List.replicate, List.cons_append, List.nil_append, List.append_nil, Option.toList_some, Option.toList_none, Option.toList, Nat.reduceAdd, Nat.reduceSub, Nat.reduceLeDiff, Nat.zero_add, Nat.zero_le, true_and, and_true, Nat.le_refl, ge_iff_le, Nat.reduceEqDiff]
      refine ⟨fun h0 => bad (fun z => h0 (pclD_t.mp z.1)), fun h0 => ⟨fun h1 => bad (fun z => h1 z.2.1), fun h1 => ⟨fun h2 => bad (fun z => h2 z.2.2.1), fun h2 => ⟨fun h3 => bad (fun z => h3 z.2.2.2), fun h3 => ?_⟩⟩⟩⟩
      have c3 : pcl F.1 x y := Classical.not_not.mp h0
      obtain ⟨x1, x2, y1, y2, x3, y3⟩ := pcl_n ok c3
      have ec : y * 12 + x = nI (tn y * 12 + tn x) := by
        conv => lhs; rw [x1, y1]
        exact wcell
      unfold zc_X7_cellAt
      dsimp only
      rw [ec]
      exact hJ 36 _ _ _ ⟨⟨c3, Classical.not_not.mp h1, Classical.not_not.mp h2, Classical.not_not.mp h3⟩, 0, none, rfl, by omega, fun p hp => (by cases hp), rfl, rfl, hF, by omega, by omega⟩
  · exact h.elim
