/-! YEARS: eight heights to a long -/
theorem zl_tn {n : Nat} (h : n < 2 ^ 64) : (lN n).toBitVec.toNat = n := by
  show (BitVec.ofNat 64 n).toNat = n
  rw [BitVec.toNat_ofNat, Nat.mod_eq_of_lt h]
theorem zpack {a h : Nat} (hh : h < 256) (ha : a * 256 + h < 2 ^ 64) : lN a <<< ((8 : Int32).toInt64 &&& 63) ||| (nI h).toInt64 = lN (a * 256 + h) := by
  rw [nI_l (by omega)]
  apply Int64.toBitVec_inj.mp
  apply BitVec.eq_of_toNat_eq
  rw [Int64.toBitVec_or, BitVec.toNat_or, zl_tn (by omega), zl_tn ha]
  have e : (lN a <<< ((8 : Int32).toInt64 &&& 63)).toBitVec.toNat = a * 256 := by
    show ((lN a).toBitVec <<< (((8 : Int32).toInt64 &&& 63).toBitVec.smod 64).toNat).toNat = _
    rw [show (((8 : Int32).toInt64 &&& 63).toBitVec.smod 64).toNat = 8 from by decide, BitVec.toNat_shiftLeft, zl_tn (by omega), Nat.shiftLeft_eq]
    show a * 256 % 2 ^ 64 = a * 256
    exact Nat.mod_eq_of_lt (Nat.lt_of_le_of_lt (Nat.le_add_right _ h) ha)
  rw [e]
  have := Nat.shiftLeft_add_eq_or_of_lt (i := 8) (b := h) (by omega) a
  rw [Nat.shiftLeft_eq] at this
  exact this.symm
theorem zl_ushr (x s : UInt64) (k : Nat) (hs : (s.toBitVec % 64).toNat = k) : (x >>> s).toInt64.toBitVec.toNat = x.toBitVec.toNat / 2 ^ k := by
  have e : (x >>> s).toInt64.toBitVec = x.toBitVec >>> k := by
    rw [← hs]
    exact UInt64.toBitVec_shiftRight _ _
  rw [e, BitVec.toNat_ushiftRight, Nat.shiftRight_eq_div_pow]
theorem zunp {n k : Nat} (hn : n < 2 ^ 64) (hk : k < 8) : ((lN n).toUInt64 >>> ((nI (8 * k)).toInt64.toUInt64 &&& Int64.toUInt64 63)).toInt64.toInt32 &&& 255 = nI (n / 256 ^ k % 256) := by
  have hs : (((nI (8 * k)).toInt64.toUInt64 &&& Int64.toUInt64 63).toBitVec % 64).toNat = 8 * k := by
    have : ∀ k, k < 8 → (((nI (8 * k)).toInt64.toUInt64 &&& Int64.toUInt64 63).toBitVec % 64).toNat = 8 * k := by decide
    exact this k hk
  have e : ((lN n).toUInt64 >>> ((nI (8 * k)).toInt64.toUInt64 &&& Int64.toUInt64 63)).toInt64.toBitVec.toNat = n / 256 ^ k := by
    rw [zl_ushr _ _ (8 * k) hs, Nat.pow_mul]
    show (lN n).toBitVec.toNat / _ = _
    rw [zl_tn hn]
  generalize ((lN n).toUInt64 >>> ((nI (8 * k)).toInt64.toUInt64 &&& Int64.toUInt64 63)).toInt64 = x at e
  rw [pk_and _ 8 (by decide)]
  congr 1
  have e2 : x.toInt32.toBitVec.toNat = x.toBitVec.toNat % 2 ^ 32 := by
    show (x.toBitVec.signExtend 32).toNat = _
    rw [BitVec.signExtend_eq_setWidth_of_le _ (by decide), BitVec.toNat_setWidth]
  rw [e2, e]
  omega
/-- the first m of eight, from the last on -/
def wpn (g : Nat → Nat) : Nat → Nat
  | 0 => 0
  | m + 1 => wpn g m * 256 + g (7 - m)
theorem wpn_lt {g : Nat → Nat} (hg : ∀ k, k < 8 → g k < 256) : ∀ m, m ≤ 8 → wpn g m < 256 ^ m
  | 0, _ => Nat.zero_lt_one
  | m + 1, h => by
    have ih := wpn_lt hg m (by omega)
    have := hg (7 - m) (by omega)
    show wpn g m * 256 + g (7 - m) < 256 ^ (m + 1)
    rw [Nat.pow_succ]
    omega
theorem wpn_get {g : Nat → Nat} (hg : ∀ k, k < 8 → g k < 256) {k : Nat} (hk : k < 8) : wpn g 8 / 256 ^ k % 256 = g k := by
  have h0 := hg 0 (by decide)
  have h1 := hg 1 (by decide)
  have h2 := hg 2 (by decide)
  have h3 := hg 3 (by decide)
  have h4 := hg 4 (by decide)
  have h5 := hg 5 (by decide)
  have h6 := hg 6 (by decide)
  have h7 := hg 7 (by decide)
  have e : wpn g 8 = ((((((((0 * 256 + g 7) * 256 + g 6) * 256 + g 5) * 256 + g 4) * 256 + g 3) * 256 + g 2) * 256 + g 1) * 256 + g 0) := rfl
  rw [e]
  match k, hk with
  | 0, _ => simp only [Nat.pow_zero]; omega
  | 1, _ => simp only [show 256 ^ 1 = 256 from rfl]; omega
  | 2, _ => simp only [show 256 ^ 2 = 65536 from rfl]; omega
  | 3, _ => simp only [show 256 ^ 3 = 16777216 from rfl]; omega
  | 4, _ => simp only [show 256 ^ 4 = 4294967296 from rfl]; omega
  | 5, _ => simp only [show 256 ^ 5 = 1099511627776 from rfl]; omega
  | 6, _ => simp only [show 256 ^ 6 = 281474976710656 from rfl]; omega
  | 7, _ => simp only [show 256 ^ 7 = 72057594037927936 from rfl]; omega
/-- the long that holds eight heights from 8 i on -/
def wlg (H : Nat → Nat) (i : Nat) : Nat := wpn (fun k => H (i * 8 + k)) 8
theorem wlg_get {H : Nat → Nat} {c : Nat} (hH : ∀ e, e < 120 → H e ≤ 200) (hc : c < 120) : wlg H (c / 8) < 2 ^ 64 ∧ wlg H (c / 8) / 256 ^ (c % 8) % 256 = H c := by
  have hb : ∀ k, k < 8 → (fun k => H (c / 8 * 8 + k)) k < 256 := fun k hk => by
    have := hH (c / 8 * 8 + k) (by omega)
    dsimp only
    omega
  refine ⟨?_, ?_⟩
  · have := wpn_lt hb 8 (Nat.le_refl _)
    exact this
  · unfold wlg
    rw [wpn_get hb (by omega)]
    congr 1
    omega
/-- Years: behind each year n up to m the heights g n -/
def zys (M : zMm) (yk : Nat) (m : Nat) (g : Nat → Nat → Nat) : Prop := ∀ n, n ≤ m → ∀ i, i < 15 → M.2.2.1 (yk + 1) (n * 15 + i) = lN (wlg (g n) i)
def zyk (M : zMm) (yk : Nat) : Prop := (∃ r, r < 36 ∧ yk = 100 + 2 * r) ∧ M.2.2.2 yk 0 = some (yk + 1)
theorem zyk_sh {yk : Nat} (h : ∃ r, r < 36 ∧ yk = 100 + 2 * r) : zsh yk = (5, 6, 2) ∧ zsh (yk + 1) = (3, 465, 0) := by
  obtain ⟨r, hr, rfl⟩ := h
  have : ∀ r, r < 36 → zsh (100 + 2 * r) = (5, 6, 2) ∧ zsh (100 + 2 * r + 1) = (3, 465, 0) := by decide
  exact this r hr
def zc_X6_heightOf (a : List Value) (M : zMm) (K : zKt) : Prop := match a with
  | [.ref yk, .int x, .int y] => zyk M yk ∧ ∃ n c H, x = nI n ∧ n ≤ 30 ∧ y = nI c ∧ c < 120 ∧ (∀ e, e < 120 → H e ≤ 200) ∧ (∀ i, i < 15 → M.2.2.1 (yk + 1) (n * 15 + i) = lN (wlg H i)) ∧ K (some (.int (nI (H c)))) M
  | _ => False
theorem zm_X6_heightOf (l : Launch) (D : va_G) (Y : Nat → ClassId) : zMt l D Y yX6_heightOf cX6_heightOf 5 (some .int) 0 0 0 0 zc_X6_heightOf := by
  refine zflat (by decide) (fun K J _ _ => zb_X6_heightOf_0 K J) (fun X hR => zbs_X6_heightOf_0 hR zJ0 zJ0_ok) (fun avs M K h => ?_)
  unfold zc_X6_heightOf at h
  split at h
  · next yk x y =>
    obtain ⟨⟨hyk, hr⟩, n, c, H, rfl, hn, rfl, hc, hH, hl, h⟩ := h
    obtain ⟨s0, s1⟩ := zyk_sh hyk
    refine ⟨by simp [zent], ?_⟩
    simp only [zb_X6_heightOf_0, s0, s1, hr, zT_push, zT_bin, zT_div, zT_bil, zT_shl, zT_un, zT_i2l, zT_l2i, zT_lcmp, zT_ild, zT_lld, zT_ald, zT_ist, zT_lst, zT_ast, zT_iinc, zT_dup, zT_dup2, zT_pop, zT_if1, zT_if2, zT_ifn, zT_getI, zT_getJ, zT_getR, zT_putI, zT_putZ, zT_putJ, zT_putR, zT_ald0, zT_lald, zT_aald, zT_iast, zT_zast, zT_bast, zT_last, zT_aast, zT_iret, zT_nret, zT_aret, zT_vret, zT_oi, zT_mm, zT_ialX, zT_S1, zT_S2, zT_S3, zT_V0, zT_V1, zT_V2, zT_V3, zT_V4, zT_V5, zT_V6, zT_I0, zT_I1, zT_I2, zlg, zlset, zlpr, zent, zok, va_rf, List.length_cons, List.length_nil, List.replicate, List.cons_append, List.nil_append, List.append_nil, Option.toList_some, Option.toList_none, Option.toList, Nat.reduceAdd, Nat.reduceSub, Nat.reduceLeDiff, Nat.zero_add, Nat.zero_le, true_and, and_true, Nat.le_refl, ge_iff_le, Nat.reduceEqDiff]
    obtain ⟨g1, g2⟩ := wlg_get hH hc
    rw [show (8 : Int32) = nI 8 from rfl, show (15 : Int32) = nI 15 from rfl, pk_rem (a := c) (by omega) (by omega) (by omega), pk_div (by omega) (by omega) (by omega), pk_mul, pk_mul, nI_add, nI_clamp (by omega), hl (c / 8) (by omega), zunp g1 (by omega), g2]
    exact ⟨by decide, vp_in_nI (by omega) (by decide), by decide, h⟩
  · exact h.elim
theorem zsmJ {M : zMm} {k j : Nat} {x : Int64} : (zwJ M k j x).1 = M.1 ∧ (zwJ M k j x).2.1 = M.2.1 ∧ (zwJ M k j x).2.2.2 = M.2.2.2 := ⟨rfl, rfl, rfl⟩
/-- keep: the year's fifteen longs, and the latest year -/
def zc_X6_keep (a : List Value) (M : zMm) (K : zKt) : Prop := match a with
  | [.ref yk, .int x, .ref hk] => zyk M yk ∧ (hk = 2 ∨ hk = 11) ∧ ∃ n H, x = nI n ∧ n ≤ 30 ∧ (∀ e, e < 120 → M.2.1 hk e = nI (H e) ∧ H e ≤ 200) ∧ ∀ M', M'.1 = M.1 → M'.2.2.2 = M.2.2.2 → (∀ k : Nat, k ≠ yk + 1 → M'.2.2.1 k = M.2.2.1 k) → (∀ j, (j < n * 15 ∨ n * 15 + 15 ≤ j) → M'.2.2.1 (yk + 1) j = M.2.2.1 (yk + 1) j) → (∀ i, i < 15 → M'.2.2.1 (yk + 1) (n * 15 + i) = lN (wlg H i)) → (∀ k : Nat, k ≠ yk → M'.2.1 k = M.2.1 k) → M'.2.1 yk 1 = nI n → K none M'
  | _ => False
set_option maxHeartbeats 2000000 in
theorem zm_X6_keep (l : Launch) (D : va_G) (Y : Nat → ClassId) : zMt l D Y yX6_keep cX6_keep 7 none 0 0 0 0 zc_X6_keep := by
  refine zwhile (heads := [2, 15]) (by decide) (fun K J _ _ => zb_X6_keep_0 K J) (fun K _ _ J h => zB_X6_keep K J h) (fun X hR J hJ => zbs_X6_keep_0 hR J hJ) (fun X hR => zBs_X6_keep hR) (fun avs M K h => ?_)
  unfold zc_X6_keep at h
  split at h
  · next yk x hk =>
    obtain ⟨⟨hyk, hr⟩, hhk, n, H, rfl, hn, hH, h⟩ := h
    obtain ⟨s0, s1⟩ := zyk_sh hyk
    have s2 : zsh hk = (0, 120, 0) := by rcases hhk with rfl | rfl <;> rfl
    refine ⟨by simp [zent], fun q h' M' ls st => (h' = 2 ∧ ∃ i o4 o5 o6, q = 1000 - 20 * i ∧ i ≤ 15 ∧ ls = [some (.ref yk), some (.int (nI n)), some (.ref hk), some (.int (nI i)), o4, o5, o6] ∧ st = [] ∧ M'.1 = M.1 ∧ M'.2.1 = M.2.1 ∧ M'.2.2.2 = M.2.2.2 ∧ (∀ k, k ≠ yk + 1 → M'.2.2.1 k = M.2.2.1 k) ∧ (∀ j, (j < n * 15 ∨ n * 15 + 15 ≤ j) → M'.2.2.1 (yk + 1) j = M.2.2.1 (yk + 1) j) ∧ (∀ j, j < i → M'.2.2.1 (yk + 1) (n * 15 + j) = lN (wlg H j))) ∨
      (h' = 15 ∧ ∃ i m, q = 1000 - 20 * i - 1 - m ∧ i < 15 ∧ m ≤ 8 ∧ ls = [some (.ref yk), some (.int (nI n)), some (.ref hk), some (.int (nI i)), some (.long (lN (wpn (fun k => H (i * 8 + k)) m))), none, some (.int (nI 7 - nI m))] ∧ st = [] ∧ M'.1 = M.1 ∧ M'.2.1 = M.2.1 ∧ M'.2.2.2 = M.2.2.2 ∧ (∀ k, k ≠ yk + 1 → M'.2.2.1 k = M.2.2.1 k) ∧ (∀ j, (j < n * 15 ∨ n * 15 + 15 ≤ j) → M'.2.2.1 (yk + 1) j = M.2.2.1 (yk + 1) j) ∧ (∀ j, j < i → M'.2.2.1 (yk + 1) (n * 15 + j) = lN (wlg H j))), ?_, ?_⟩
    · rintro q J hJ h' - M' ls st (⟨rfl, i, o4, o5, o6, rfl, hi, rfl, rfl, e1, e2, e3, e4, e5, e6⟩ | ⟨rfl, i, m, rfl, hi, hm, rfl, rfl, e1, e2, e3, e4, e5, e6⟩)
      · simp only [zB_X6_keep, zb_X6_keep_2, ↓reduceIte, s0, zT_push, zT_bin, zT_div, zT_bil, zT_shl, zT_un, zT_i2l, zT_l2i, zT_lcmp, zT_ild, zT_lld, zT_ald, zT_ist, zT_lst, zT_ast, zT_iinc, zT_dup, zT_dup2, zT_pop, zT_if1, zT_if2, zT_ifn, zT_getI, zT_getJ, zT_getR, zT_putI, zT_putZ, zT_putJ, zT_putR, zT_ald0, zT_lald, zT_aald, zT_iast, zT_zast, zT_bast, zT_last, zT_aast, zT_iret, zT_nret, zT_aret, zT_vret, zT_oi, zT_mm, zT_ialX, zT_S1, zT_S2, zT_S3, zT_V0, zT_V1, zT_V2, zT_V3, zT_V4, zT_V5, zT_V6, zT_I0, zT_I1, zT_I2, zlg, zlset, zlpr, zent, zok, va_rf, List.length_cons, List.length_nil, List.replicate, List.cons_append, List.nil_append, List.append_nil, Option.toList_some, Option.toList_none, Option.toList, Nat.reduceAdd, Nat.reduceSub, Nat.reduceLeDiff, Nat.zero_add, Nat.zero_le, true_and, and_true, Nat.le_refl, ge_iff_le, Nat.reduceEqDiff]
        refine ⟨fun h1 => ?_, fun h1 => ?_⟩
        · have := zn_ge' (b := 15) h1 (by omega) (by omega)
          have e : i = 15 := by omega
          subst e
          refine h _ e1 e3 e4 e5 e6 (fun k hk' => ?_) ?_
          · simp only [zwI_L, zwI_I, zwI_J, zwI_R, zwJ_L, zwJ_I, zwJ_J, zwJ_R, zwR_L, zwR_I, zwR_J, zwR_R, zw2_s, zw2_n, ne_eq, not_false_eq_true, reduceCtorEq, not_true_eq_false, Nat.reduceEqDiff]
            rw [zw2_n hk', e2]
          · simp only [zwI_L, zwI_I, zwI_J, zwI_R, zwJ_L, zwJ_I, zwJ_J, zwJ_R, zwR_L, zwR_I, zwR_J, zwR_R, zw2_s, zw2_n, ne_eq, not_false_eq_true, reduceCtorEq, not_true_eq_false, Nat.reduceEqDiff]
            rw [zup_s]
        · have hlt := zn_ge (b := 15) h1 (by omega) (by omega)
          exact hJ (1000 - 20 * i - 1 - 0) (by omega) 15 (by simp) _ _ _ (Or.inr ⟨rfl, i, 0, rfl, hlt, by omega, rfl, rfl, e1, e2, e3, e4, e5, e6⟩)
      · have hb : ∀ k, k < 8 → (fun k => H (i * 8 + k)) k < 256 := fun k hk' => by
          have := (hH (i * 8 + k) (by omega)).2
          dsimp only
          omega
        have hlt := wpn_lt hb m hm
        have hr' : M'.2.2.2 yk 0 = some (yk + 1) := by rw [e3]; exact hr
        simp only [zB_X6_keep, zb_X6_keep_15, ↓reduceIte, Nat.reduceEqDiff, s0, s1, s2, hr', e2, zT_push, zT_bin, zT_div, zT_bil, zT_shl, zT_un, zT_i2l, zT_l2i, zT_lcmp, zT_ild, zT_lld, zT_ald, zT_ist, zT_lst, zT_ast, zT_iinc, zT_dup, zT_dup2, zT_pop, zT_if1, zT_if2, zT_ifn, zT_getI, zT_getJ, zT_getR, zT_putI, zT_putZ, zT_putJ, zT_putR, zT_ald0, zT_lald, zT_aald, zT_iast, zT_zast, zT_bast, zT_last, zT_aast, zT_iret, zT_nret, zT_aret, zT_vret, zT_oi, zT_mm, zT_ialX, zT_S1, zT_S2, zT_S3, zT_V0, zT_V1, zT_V2, zT_V3, zT_V4, zT_V5, zT_V6, zT_I0, zT_I1, zT_I2, zlg, zlset, zlpr, zent, zok, va_rf, List.length_cons, List.length_nil, List.replicate, List.cons_append, List.nil_append, List.append_nil, Option.toList_some, Option.toList_none, Option.toList, Nat.reduceAdd, Nat.reduceSub, Nat.reduceLeDiff, Nat.zero_add, Nat.zero_le, true_and, and_true, Nat.le_refl, ge_iff_le, Nat.reduceEqDiff]
        refine ⟨fun h1 => ?_, fun h1 => ?_⟩
        · have e : m = 8 := by
            rcases Nat.lt_or_ge m 8 with q | q
            · rw [pk_sub (by omega)] at h1
              exact absurd h1 (nI_pos (by omega))
            · omega
          subst e
          rw [show (15 : Int32) = nI 15 from rfl, pk_mul, nI_add, nI_clamp (by omega)]
          refine ⟨vp_in_nI (by omega) (by decide), hJ (1000 - 20 * (i + 1)) (by omega) 2 (by simp) _ _ _ (Or.inl ⟨rfl, i + 1, _, _, _, rfl, by omega, by rw [nI_1], rfl, e1, e2, e3, fun k hk' => ?_, fun j hj => ?_, fun j hj => ?_⟩)⟩
          · simp only [zwI_L, zwI_I, zwI_J, zwI_R, zwJ_L, zwJ_I, zwJ_J, zwJ_R, zwR_L, zwR_I, zwR_J, zwR_R, zw2_s, zw2_n, ne_eq, not_false_eq_true, reduceCtorEq, not_true_eq_false, Nat.reduceEqDiff]
            rw [zw2_n hk']
            exact e4 k hk'
          · simp only [zwI_L, zwI_I, zwI_J, zwI_R, zwJ_L, zwJ_I, zwJ_J, zwJ_R, zwR_L, zwR_I, zwR_J, zwR_R, zw2_s, zw2_n, ne_eq, not_false_eq_true, reduceCtorEq, not_true_eq_false, Nat.reduceEqDiff]
            rw [zup_n (by omega)]
            exact e5 j hj
          · simp only [zwI_L, zwI_I, zwI_J, zwI_R, zwJ_L, zwJ_I, zwJ_J, zwJ_R, zwR_L, zwR_I, zwR_J, zwR_R, zw2_s, zw2_n, ne_eq, not_false_eq_true, reduceCtorEq, not_true_eq_false, Nat.reduceEqDiff]
            by_cases q : j = i
            · subst q
              rw [zup_s]
              rfl
            · rw [zup_n (by omega)]
              exact e6 j (by omega)
        · have hm8 : m < 8 := by
            rcases Nat.lt_or_ge m 8 with q | q
            · exact q
            · have : m = 8 := by omega
              subst this
              exact absurd (by decide) h1
          obtain ⟨hh1, hh2⟩ := hH (i * 8 + (7 - m)) (by omega)
          have hp8 : wpn (fun k => H (i * 8 + k)) m * 256 + H (i * 8 + (7 - m)) < 2 ^ 64 := by
            have := wpn_lt hb (m + 1) (by omega)
            have h3 : 256 ^ (m + 1) ≤ 256 ^ 8 := Nat.pow_le_pow_right (by decide) (by omega)
            have h4 : wpn (fun k => H (i * 8 + k)) (m + 1) = wpn (fun k => H (i * 8 + k)) m * 256 + H (i * 8 + (7 - m)) := rfl
            omega
          have hstep : nI 7 - nI m + (-1) = nI 7 - nI (m + 1) := by
            by_cases q : m = 7
            · subst q; decide
            · rw [pk_sub (by omega), pk_sub (by omega), zn_m1 (by omega)]
              rfl
          rw [pk_sub (by omega), show nI i * 8 = nI (i * 8) from pk_mul i 8, nI_add, nI_clamp (by omega), hh1, zpack (by omega) hp8, ← pk_sub (by omega), hstep]
          exact ⟨vp_in_nI (by omega) (by decide), hJ (1000 - 20 * i - 1 - (m + 1)) (by omega) 15 (by simp) _ _ _ (Or.inr ⟨rfl, i, m + 1, rfl, hi, by omega, rfl, rfl, e1, e2, e3, e4, e5, e6⟩)⟩
    · intro J hJ
      simp only [zb_X6_keep_0, zT_push, zT_bin, zT_div, zT_bil, zT_shl, zT_un, zT_i2l, zT_l2i, zT_lcmp, zT_ild, zT_lld, zT_ald, zT_ist, zT_lst, zT_ast, zT_iinc, zT_dup, zT_dup2, zT_pop, zT_if1, zT_if2, zT_ifn, zT_getI, zT_getJ, zT_getR, zT_putI, zT_putZ, zT_putJ, zT_putR, zT_ald0, zT_lald, zT_aald, zT_iast, zT_zast, zT_bast, zT_last, zT_aast, zT_iret, zT_nret, zT_aret, zT_vret, zT_oi, zT_mm, zT_ialX, zT_S1, zT_S2, zT_S3, zT_V0, zT_V1, zT_V2, zT_V3, zT_V4, zT_V5, zT_V6, zT_I0, zT_I1, zT_I2, zlg, zlset, zlpr, zent, zok, va_rf, List.length_cons, List.length_nil, List.replicate, List.cons_append, List.nil_append, List.append_nil, Option.toList_some, Option.toList_none, Option.toList, Nat.reduceAdd, Nat.reduceSub, Nat.reduceLeDiff, Nat.zero_add, Nat.zero_le, true_and, and_true, Nat.le_refl, ge_iff_le, Nat.reduceEqDiff]
      exact hJ 1000 2 (by simp) _ _ _ (Or.inl ⟨rfl, 0, none, none, none, rfl, by omega, rfl, rfl, rfl, rfl, rfl, fun _ _ => rfl, fun _ _ => rfl, fun j hj => absurd hj (Nat.not_lt_zero _)⟩)
  · exact h.elim
