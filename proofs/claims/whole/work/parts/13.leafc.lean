/-! CONTRACTS of the small methods of the class -/
def zJ0 (_ : Nat) : zPP := fun _ _ _ => False
theorem zJ0_ok {X : zCt} {own nm : String} {cc : ByteArray} {nL : Nat} {ret : Option FieldType} : ∀ h ∈ ([] : List Nat), zSd X own nm cc nL ret h (zJ0 h) := fun _ h => absurd h List.not_mem_nil
/-- a contract out of a body without a loop -/
theorem zflat {l : Launch} {D : va_G} {Y : Nat → ClassId} {y : MethodName} {cc : ByteArray} {maxL : Nat} {ret : Option FieldType} {fr lo mc ms : Nat} {C : List Value → zMm → zKt → Prop} (hy : plainName y.cls = true) (B : zKt → (Nat → zPP) → Nat → Nat → zPP)
    (hB : ∀ X : zCt, zRX X = { frames := fr, cells := mc, slots := ms, locals := lo } → zSd X y.cls y.name cc maxL ret 0 (B (zKX X) zJ0 (zlc X) (zls X)))
    (h : ∀ avs M K, C avs M K → (zent avs).length ≤ maxL ∧ B K zJ0 (M.1.length + mc) (zss M.1 + ms) M (zent avs ++ List.replicate (maxL - (zent avs).length) none) []) : zMt l D Y y cc maxL ret fr lo mc ms C := by
  refine zMt.of hy (fun X _ hR _ _ avs hC => ?_)
  obtain ⟨h1, h2⟩ := h avs (zMX X) (zKX X) hC
  refine ⟨h1, _, hB X hR, ?_⟩
  have e1 : zlc X = (zMX X).1.length + mc := by unfold zlc; rw [hR]
  have e2 : zls X = zss (zMX X).1 + ms := by unfold zls; rw [hR]
  rw [e1, e2]
  exact h2
/-- a contract out of a body with loops -/
theorem zwhile {l : Launch} {D : va_G} {Y : Nat → ClassId} {y : MethodName} {cc : ByteArray} {maxL : Nat} {ret : Option FieldType} {fr lo mc ms : Nat} {C : List Value → zMm → zKt → Prop} {heads : List Nat} (hy : plainName y.cls = true) (B : zKt → (Nat → zPP) → Nat → Nat → zPP) (BL : zKt → Nat → Nat → (Nat → zPP) → Nat → zPP)
    (hB : ∀ X : zCt, zRX X = { frames := fr, cells := mc, slots := ms, locals := lo } → ∀ J : Nat → zPP, (∀ h ∈ heads, zSd X y.cls y.name cc maxL ret h (J h)) → zSd X y.cls y.name cc maxL ret 0 (B (zKX X) J (zlc X) (zls X)))
    (hBL : ∀ X : zCt, zRX X = { frames := fr, cells := mc, slots := ms, locals := lo } → ∀ J : Nat → zPP, (∀ h ∈ heads, zSd X y.cls y.name cc maxL ret h (J h)) → ∀ h ∈ heads, zSd X y.cls y.name cc maxL ret h (BL (zKX X) (zlc X) (zls X) J h))
    (h : ∀ avs M K, C avs M K → (zent avs).length ≤ maxL ∧ ∃ Inv : Nat → Nat → zPP, (∀ n (J : Nat → zPP), (∀ n', n' < n → ∀ h ∈ heads, ∀ M' ls st, Inv n' h M' ls st → J h M' ls st) → ∀ h ∈ heads, ∀ M' ls st, Inv n h M' ls st → BL K (M.1.length + mc) (zss M.1 + ms) J h M' ls st) ∧
      ∀ J : Nat → zPP, (∀ n, ∀ h ∈ heads, ∀ M' ls st, Inv n h M' ls st → J h M' ls st) → B K J (M.1.length + mc) (zss M.1 + ms) M (zent avs ++ List.replicate (maxL - (zent avs).length) none) []) : zMt l D Y y cc maxL ret fr lo mc ms C := by
  refine zMt.of hy (fun X _ hR _ _ avs hC => ?_)
  obtain ⟨h1, Inv, h2, h3⟩ := h avs (zMX X) (zKX X) hC
  have e1 : zlc X = (zMX X).1.length + mc := by unfold zlc; rw [hR]
  have e2 : zls X = zss (zMX X).1 + ms := by unfold zls; rw [hR]
  rw [← e1, ← e2] at h2 h3
  exact ⟨h1, _, hB X hR _ (zloop (BL (zKX X) (zlc X) (zls X)) Inv (hBL X hR) (fun n h hh M' ls st hI => h2 n _ (fun n' hn h' _ M'' ls' st' hI' => ⟨n', hn, hI'⟩) h hh M' ls st hI)), h3 _ (fun n h' _ M'' ls' st' hI' => ⟨n, hI'⟩)⟩
def zbI (b : Prop) [Decidable b] : Int32 := if b then 1 else 0
theorem zbI_t {b : Prop} [Decidable b] (h : b) : zbI b = 1 := by simp [zbI, h]
theorem zbI_f {b : Prop} [Decidable b] (h : ¬ b) : zbI b = 0 := by simp [zbI, h]
theorem zbI_0 {b : Prop} [Decidable b] : zbI b = 0 ↔ ¬ b := by unfold zbI; split <;> simp_all
def zc_X7_within (a : List Value) (M : zMm) (K : zKt) : Prop := match a with
  | [.int n, .int u, .int v] => K (some (.int (zbI (u ≤ n ∧ n ≤ v)))) M
  | _ => False
theorem zm_X7_within (l : Launch) (D : va_G) (Y : Nat → ClassId) : zMt l D Y yX7_within cX7_within 3 (some .boolean) 0 0 0 0 zc_X7_within := by
  refine zflat (by decide) (fun K J _ _ => zb_X7_within_0 K J) (fun X hR => zbs_X7_within_0 hR zJ0 zJ0_ok) (fun avs M K h => ?_)
  unfold zc_X7_within at h
  split at h
  · next n u v =>
    refine ⟨by simp [zent], ?_⟩
    simp only [zb_X7_within_0, zb_X7_within_14, zb_X7_within_15, zT_push, zT_bin, zT_div, zT_bil, zT_shl, zT_un, zT_i2l, zT_l2i, zT_lcmp, zT_ild, zT_lld, zT_ald, zT_ist, zT_lst, zT_ast, zT_iinc, zT_dup, zT_dup2, zT_pop, zT_if1, zT_if2, zT_ifn, zT_getI, zT_getJ, zT_getR, zT_putI, zT_putZ, zT_putJ, zT_putR, zT_ald0, zT_lald, zT_aald, zT_iast, zT_zast, zT_bast, zT_last, zT_aast, zT_iret, zT_nret, zT_aret, zT_vret, zT_oi, zT_mm, zT_ialX, zT_S1, zT_S2, zT_S3, zT_V0, zT_V1, zT_V2, zT_V3, zT_V4, zT_V5, zT_V6, zT_I0, zT_I1, zT_I2, zlg, zlset, zlpr, zent, zok, va_rf, List.length_cons, List.length_nil, List.replicate, List.cons_append, List.nil_append, List.append_nil, Option.toList_some, Option.toList_none, Option.toList, Nat.reduceAdd, Nat.reduceSub, Nat.reduceLeDiff, Nat.zero_add, Nat.zero_le, true_and, and_true, Nat.le_refl, ge_iff_le, Nat.reduceEqDiff]
    refine ⟨fun h1 => ⟨rfl, ?_⟩, fun h1 => ⟨fun h2 => ⟨rfl, ?_⟩, fun h2 => ⟨rfl, ?_⟩⟩⟩
    · rw [zbI_f (fun q => Int32.not_le.mpr h1 q.1)] at h; exact h
    · rw [zbI_f (fun q => Int32.not_le.mpr h2 q.2)] at h; exact h
    · rw [zbI_t ⟨Int32.not_lt.mp h1, Int32.not_lt.mp h2⟩] at h; exact h
  · exact h.elim
def zc_X7_cellAt (a : List Value) (M : zMm) (K : zKt) : Prop := match a with
  | [.int x, .int y] => K (some (.int (y * 12 + x))) M
  | _ => False
theorem zm_X7_cellAt (l : Launch) (D : va_G) (Y : Nat → ClassId) : zMt l D Y yX7_cellAt cX7_cellAt 2 (some .int) 0 0 0 0 zc_X7_cellAt := by
  refine zflat (by decide) (fun K J _ _ => zb_X7_cellAt_0 K J) (fun X hR => zbs_X7_cellAt_0 hR zJ0 zJ0_ok) (fun avs M K h => ?_)
  unfold zc_X7_cellAt at h
  split at h
  · refine ⟨by simp [zent], ?_⟩
    simp only [zb_X7_cellAt_0, zT_push, zT_bin, zT_div, zT_bil, zT_shl, zT_un, zT_i2l, zT_l2i, zT_lcmp, zT_ild, zT_lld, zT_ald, zT_ist, zT_lst, zT_ast, zT_iinc, zT_dup, zT_dup2, zT_pop, zT_if1, zT_if2, zT_ifn, zT_getI, zT_getJ, zT_getR, zT_putI, zT_putZ, zT_putJ, zT_putR, zT_ald0, zT_lald, zT_aald, zT_iast, zT_zast, zT_bast, zT_last, zT_aast, zT_iret, zT_nret, zT_aret, zT_vret, zT_oi, zT_mm, zT_ialX, zT_S1, zT_S2, zT_S3, zT_V0, zT_V1, zT_V2, zT_V3, zT_V4, zT_V5, zT_V6, zT_I0, zT_I1, zT_I2, zlg, zlset, zlpr, zent, zok, va_rf, List.length_cons, List.length_nil, List.replicate, List.cons_append, List.nil_append, List.append_nil, Option.toList_some, Option.toList_none, Option.toList, Nat.reduceAdd, Nat.reduceSub, Nat.reduceLeDiff, Nat.zero_add, Nat.zero_le, true_and, and_true, Nat.le_refl, ge_iff_le, Nat.reduceEqDiff]
    exact h
  · exact h.elim
def zc_X7_sortOf (a : List Value) (M : zMm) (K : zKt) : Prop := match a with
  | [.int x] => K (some (.int (x / 12))) M
  | _ => False
theorem zm_X7_sortOf (l : Launch) (D : va_G) (Y : Nat → ClassId) : zMt l D Y yX7_sortOf cX7_sortOf 1 (some .int) 0 0 0 0 zc_X7_sortOf := by
  refine zflat (by decide) (fun K J _ _ => zb_X7_sortOf_0 K J) (fun X hR => zbs_X7_sortOf_0 hR zJ0 zJ0_ok) (fun avs M K h => ?_)
  unfold zc_X7_sortOf at h
  split at h
  · refine ⟨by simp [zent], ?_⟩
    simp only [zb_X7_sortOf_0, zT_push, zT_bin, zT_div, zT_bil, zT_shl, zT_un, zT_i2l, zT_l2i, zT_lcmp, zT_ild, zT_lld, zT_ald, zT_ist, zT_lst, zT_ast, zT_iinc, zT_dup, zT_dup2, zT_pop, zT_if1, zT_if2, zT_ifn, zT_getI, zT_getJ, zT_getR, zT_putI, zT_putZ, zT_putJ, zT_putR, zT_ald0, zT_lald, zT_aald, zT_iast, zT_zast, zT_bast, zT_last, zT_aast, zT_iret, zT_nret, zT_aret, zT_vret, zT_oi, zT_mm, zT_ialX, zT_S1, zT_S2, zT_S3, zT_V0, zT_V1, zT_V2, zT_V3, zT_V4, zT_V5, zT_V6, zT_I0, zT_I1, zT_I2, zlg, zlset, zlpr, zent, zok, va_rf, List.length_cons, List.length_nil, List.replicate, List.cons_append, List.nil_append, List.append_nil, Option.toList_some, Option.toList_none, Option.toList, Nat.reduceAdd, Nat.reduceSub, Nat.reduceLeDiff, Nat.zero_add, Nat.zero_le, true_and, and_true, Nat.le_refl, ge_iff_le, Nat.reduceEqDiff]
    exact ⟨by decide, h⟩
  · exact h.elim
def zc_X7_rateOf (a : List Value) (M : zMm) (K : zKt) : Prop := match a with
  | [.int x] => K (some (.int (1 + (x / 2 - x / 2 / 6 * 6)))) M
  | _ => False
theorem zm_X7_rateOf (l : Launch) (D : va_G) (Y : Nat → ClassId) : zMt l D Y yX7_rateOf cX7_rateOf 1 (some .int) 0 0 0 0 zc_X7_rateOf := by
  refine zflat (by decide) (fun K J _ _ => zb_X7_rateOf_0 K J) (fun X hR => zbs_X7_rateOf_0 hR zJ0 zJ0_ok) (fun avs M K h => ?_)
  unfold zc_X7_rateOf at h
  split at h
  · refine ⟨by simp [zent], ?_⟩
    simp only [zb_X7_rateOf_0, zT_push, zT_bin, zT_div, zT_bil, zT_shl, zT_un, zT_i2l, zT_l2i, zT_lcmp, zT_ild, zT_lld, zT_ald, zT_ist, zT_lst, zT_ast, zT_iinc, zT_dup, zT_dup2, zT_pop, zT_if1, zT_if2, zT_ifn, zT_getI, zT_getJ, zT_getR, zT_putI, zT_putZ, zT_putJ, zT_putR, zT_ald0, zT_lald, zT_aald, zT_iast, zT_zast, zT_bast, zT_last, zT_aast, zT_iret, zT_nret, zT_aret, zT_vret, zT_oi, zT_mm, zT_ialX, zT_S1, zT_S2, zT_S3, zT_V0, zT_V1, zT_V2, zT_V3, zT_V4, zT_V5, zT_V6, zT_I0, zT_I1, zT_I2, zlg, zlset, zlpr, zent, zok, va_rf, List.length_cons, List.length_nil, List.replicate, List.cons_append, List.nil_append, List.append_nil, Option.toList_some, Option.toList_none, Option.toList, Nat.reduceAdd, Nat.reduceSub, Nat.reduceLeDiff, Nat.zero_add, Nat.zero_le, true_and, and_true, Nat.le_refl, ge_iff_le, Nat.reduceEqDiff]
    exact ⟨by decide, by decide, h⟩
  · exact h.elim
def zc_X7_wearOf (a : List Value) (M : zMm) (K : zKt) : Prop := match a with
  | [.int x] => K (some (.int (x - x / 2 * 2))) M
  | _ => False
theorem zm_X7_wearOf (l : Launch) (D : va_G) (Y : Nat → ClassId) : zMt l D Y yX7_wearOf cX7_wearOf 1 (some .int) 0 0 0 0 zc_X7_wearOf := by
  refine zflat (by decide) (fun K J _ _ => zb_X7_wearOf_0 K J) (fun X hR => zbs_X7_wearOf_0 hR zJ0 zJ0_ok) (fun avs M K h => ?_)
  unfold zc_X7_wearOf at h
  split at h
  · refine ⟨by simp [zent], ?_⟩
    simp only [zb_X7_wearOf_0, zT_push, zT_bin, zT_div, zT_bil, zT_shl, zT_un, zT_i2l, zT_l2i, zT_lcmp, zT_ild, zT_lld, zT_ald, zT_ist, zT_lst, zT_ast, zT_iinc, zT_dup, zT_dup2, zT_pop, zT_if1, zT_if2, zT_ifn, zT_getI, zT_getJ, zT_getR, zT_putI, zT_putZ, zT_putJ, zT_putR, zT_ald0, zT_lald, zT_aald, zT_iast, zT_zast, zT_bast, zT_last, zT_aast, zT_iret, zT_nret, zT_aret, zT_vret, zT_oi, zT_mm, zT_ialX, zT_S1, zT_S2, zT_S3, zT_V0, zT_V1, zT_V2, zT_V3, zT_V4, zT_V5, zT_V6, zT_I0, zT_I1, zT_I2, zlg, zlset, zlpr, zent, zok, va_rf, List.length_cons, List.length_nil, List.replicate, List.cons_append, List.nil_append, List.append_nil, Option.toList_some, Option.toList_none, Option.toList, Nat.reduceAdd, Nat.reduceSub, Nat.reduceLeDiff, Nat.zero_add, Nat.zero_le, true_and, and_true, Nat.le_refl, ge_iff_le, Nat.reduceEqDiff]
    exact ⟨by decide, h⟩
  · exact h.elim
def zc_X7_trend (a : List Value) (M : zMm) (K : zKt) : Prop := match a with
  | [.int b, .int u, .int v] => K (some (.int (if b < u then 1 else if v < b then -1 else 0))) M
  | _ => False
theorem zm_X7_trend (l : Launch) (D : va_G) (Y : Nat → ClassId) : zMt l D Y yX7_trend cX7_trend 3 (some .int) 0 0 0 0 zc_X7_trend := by
  refine zflat (by decide) (fun K J _ _ => zb_X7_trend_0 K J) (fun X hR => zbs_X7_trend_0 hR zJ0 zJ0_ok) (fun avs M K h => ?_)
  unfold zc_X7_trend at h
  split at h
  · refine ⟨by simp [zent], ?_⟩
    simp only [zb_X7_trend_0, zb_X7_trend_17, zT_push, zT_bin, zT_div, zT_bil, zT_shl, zT_un, zT_i2l, zT_l2i, zT_lcmp, zT_ild, zT_lld, zT_ald, zT_ist, zT_lst, zT_ast, zT_iinc, zT_dup, zT_dup2, zT_pop, zT_if1, zT_if2, zT_ifn, zT_getI, zT_getJ, zT_getR, zT_putI, zT_putZ, zT_putJ, zT_putR, zT_ald0, zT_lald, zT_aald, zT_iast, zT_zast, zT_bast, zT_last, zT_aast, zT_iret, zT_nret, zT_aret, zT_vret, zT_oi, zT_mm, zT_ialX, zT_S1, zT_S2, zT_S3, zT_V0, zT_V1, zT_V2, zT_V3, zT_V4, zT_V5, zT_V6, zT_I0, zT_I1, zT_I2, zlg, zlset, zlpr, zent, zok, va_rf, List.length_cons, List.length_nil, List.replicate, List.cons_append, List.nil_append, List.append_nil, Option.toList_some, Option.toList_none, Option.toList, Nat.reduceAdd, Nat.reduceSub, Nat.reduceLeDiff, Nat.zero_add, Nat.zero_le, true_and, and_true, Nat.le_refl, ge_iff_le, Nat.reduceEqDiff]
    refine ⟨fun h1 => ⟨fun h2 => ?_, fun h2 => ?_⟩, fun h1 => ?_⟩
    · rw [if_neg (Int32.not_lt.mpr h1), if_neg (Int32.not_lt.mpr h2)] at h; exact h
    · rw [if_neg (Int32.not_lt.mpr h1), if_pos (Int32.not_le.mp h2)] at h; exact h
    · rw [if_pos (Int32.not_le.mp h1)] at h; exact h
  · exact h.elim
def zc_X7_refuse (a : List Value) (M : zMm) (K : zKt) : Prop := match a with
  | [.ref k, .int x] => k = 0 ∧ K (some (.int x)) (zwI M 0 8 x)
  | _ => False
theorem zm_X7_refuse (l : Launch) (D : va_G) (Y : Nat → ClassId) : zMt l D Y yX7_refuse cX7_refuse 2 (some .int) 0 0 0 0 zc_X7_refuse := by
  refine zflat (by decide) (fun K J _ _ => zb_X7_refuse_0 K J) (fun X hR => zbs_X7_refuse_0 hR zJ0 zJ0_ok) (fun avs M K h => ?_)
  unfold zc_X7_refuse at h
  split at h
  · obtain ⟨rfl, h⟩ := h
    refine ⟨by simp [zent], ?_⟩
    simp only [zb_X7_refuse_0, zsh_0, zT_push, zT_bin, zT_div, zT_bil, zT_shl, zT_un, zT_i2l, zT_l2i, zT_lcmp, zT_ild, zT_lld, zT_ald, zT_ist, zT_lst, zT_ast, zT_iinc, zT_dup, zT_dup2, zT_pop, zT_if1, zT_if2, zT_ifn, zT_getI, zT_getJ, zT_getR, zT_putI, zT_putZ, zT_putJ, zT_putR, zT_ald0, zT_lald, zT_aald, zT_iast, zT_zast, zT_bast, zT_last, zT_aast, zT_iret, zT_nret, zT_aret, zT_vret, zT_oi, zT_mm, zT_ialX, zT_S1, zT_S2, zT_S3, zT_V0, zT_V1, zT_V2, zT_V3, zT_V4, zT_V5, zT_V6, zT_I0, zT_I1, zT_I2, zlg, zlset, zlpr, zent, zok, va_rf, List.length_cons, List.length_nil, List.replicate, List.cons_append, List.nil_append, List.append_nil, Option.toList_some, Option.toList_none, Option.toList, Nat.reduceAdd, Nat.reduceSub, Nat.reduceLeDiff, Nat.zero_add, Nat.zero_le, true_and, and_true, Nat.le_refl, ge_iff_le, Nat.reduceEqDiff]
    exact h
  · exact h.elim
def zc_X7_accept (a : List Value) (M : zMm) (K : zKt) : Prop := match a with
  | [.ref k, .int x] => k = 0 ∧ K (some (.int x)) (zwI M 0 8 0)
  | _ => False
theorem zm_X7_accept (l : Launch) (D : va_G) (Y : Nat → ClassId) : zMt l D Y yX7_accept cX7_accept 2 (some .int) 0 0 0 0 zc_X7_accept := by
  refine zflat (by decide) (fun K J _ _ => zb_X7_accept_0 K J) (fun X hR => zbs_X7_accept_0 hR zJ0 zJ0_ok) (fun avs M K h => ?_)
  unfold zc_X7_accept at h
  split at h
  · obtain ⟨rfl, h⟩ := h
    refine ⟨by simp [zent], ?_⟩
    simp only [zb_X7_accept_0, zsh_0, zT_push, zT_bin, zT_div, zT_bil, zT_shl, zT_un, zT_i2l, zT_l2i, zT_lcmp, zT_ild, zT_lld, zT_ald, zT_ist, zT_lst, zT_ast, zT_iinc, zT_dup, zT_dup2, zT_pop, zT_if1, zT_if2, zT_ifn, zT_getI, zT_getJ, zT_getR, zT_putI, zT_putZ, zT_putJ, zT_putR, zT_ald0, zT_lald, zT_aald, zT_iast, zT_zast, zT_bast, zT_last, zT_aast, zT_iret, zT_nret, zT_aret, zT_vret, zT_oi, zT_mm, zT_ialX, zT_S1, zT_S2, zT_S3, zT_V0, zT_V1, zT_V2, zT_V3, zT_V4, zT_V5, zT_V6, zT_I0, zT_I1, zT_I2, zlg, zlset, zlpr, zent, zok, va_rf, List.length_cons, List.length_nil, List.replicate, List.cons_append, List.nil_append, List.append_nil, Option.toList_some, Option.toList_none, Option.toList, Nat.reduceAdd, Nat.reduceSub, Nat.reduceLeDiff, Nat.zero_add, Nat.zero_le, true_and, and_true, Nat.le_refl, ge_iff_le, Nat.reduceEqDiff]
    exact h
  · exact h.elim
/-- Land.has -/
def zc_X1_has (a : List Value) (M : zMm) (K : zKt) : Prop := match a with
  | [.ref k, .int x, .int y] => k = 1 ∧ K (some (.int (zbI (0 ≤ x ∧ x < M.2.1 1 1 ∧ 0 ≤ y ∧ y < M.2.1 1 2)))) M
  | _ => False
theorem zm_X1_has (l : Launch) (D : va_G) (Y : Nat → ClassId) : zMt l D Y yX1_has cX1_has 3 (some .boolean) 0 0 0 0 zc_X1_has := by
  refine zflat (by decide) (fun K J _ _ => zb_X1_has_0 K J) (fun X hR => zbs_X1_has_0 hR zJ0 zJ0_ok) (fun avs M K h => ?_)
  unfold zc_X1_has at h
  split at h
  · obtain ⟨rfl, h⟩ := h
    refine ⟨by simp [zent], ?_⟩
    simp only [zb_X1_has_0, zb_X1_has_28, zb_X1_has_29, zsh_1, zT_push, zT_bin, zT_div, zT_bil, zT_shl, zT_un, zT_i2l, zT_l2i, zT_lcmp, zT_ild, zT_lld, zT_ald, zT_ist, zT_lst, zT_ast, zT_iinc, zT_dup, zT_dup2, zT_pop, zT_if1, zT_if2, zT_ifn, zT_getI, zT_getJ, zT_getR, zT_putI, zT_putZ, zT_putJ, zT_putR, zT_ald0, zT_lald, zT_aald, zT_iast, zT_zast, zT_bast, zT_last, zT_aast, zT_iret, zT_nret, zT_aret, zT_vret, zT_oi, zT_mm, zT_ialX, zT_S1, zT_S2, zT_S3, zT_V0, zT_V1, zT_V2, zT_V3, zT_V4, zT_V5, zT_V6, zT_I0, zT_I1, zT_I2, zlg, zlset, zlpr, zent, zok, va_rf, List.length_cons, List.length_nil, List.replicate, List.cons_append, List.nil_append, List.append_nil, Option.toList_some, Option.toList_none, Option.toList, Nat.reduceAdd, Nat.reduceSub, Nat.reduceLeDiff, Nat.zero_add, Nat.zero_le, true_and, and_true, Nat.le_refl, ge_iff_le, Nat.reduceEqDiff]
    refine ⟨fun h1 => ⟨rfl, ?_⟩, fun h1 => ⟨fun h2 => ⟨rfl, ?_⟩, fun h2 => ⟨fun h3 => ⟨rfl, ?_⟩, fun h3 => ⟨fun h4 => ⟨rfl, ?_⟩, fun h4 => ⟨rfl, ?_⟩⟩⟩⟩⟩
    · rw [zbI_f (fun q => Int32.not_le.mpr h1 q.1)] at h; exact h
    · rw [zbI_f (fun q => Int32.not_le.mpr q.2.1 h2)] at h; exact h
    · rw [zbI_f (fun q => Int32.not_le.mpr h3 q.2.2.1)] at h; exact h
    · rw [zbI_f (fun q => Int32.not_le.mpr q.2.2.2 h4)] at h; exact h
    · rw [zbI_t ⟨Int32.not_lt.mp h1, Int32.not_le.mp h2, Int32.not_lt.mp h3, Int32.not_le.mp h4⟩] at h; exact h
  · exact h.elim
