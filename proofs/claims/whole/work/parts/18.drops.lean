/-! WATER: the share by drops -/
theorem zneg1 {a : Nat} (h : a < 2 ^ 31) : (-1 : Int32) < nI a := by
  have h1 := nI_toInt h
  have h2 : (-1 : Int32).toInt = -1 := by decide
  rw [Int32.lt_iff_toInt_lt, h1, h2]
  omega
theorem wah_t {g : Nat → Nat} {i j : Nat} : wah g j i = true ↔ (g j < g i ∨ (g i = g j ∧ i < j)) := by simp [wah]
theorem wah_f {g : Nat → Nat} {i j : Nat} : wah g j i = false ↔ ¬ (g j < g i ∨ (g i = g j ∧ i < j)) := by simp [wah]
/-- the picked ones: those that go ahead of all others; as many as were picked -/
theorem wpick {g : Nat → Nat} {p : Nat → Bool} {n k : Nat} (hc : wct p n = k) (hu : ∀ i j, i < n → j < n → p i = true → p j = false → wah g j i = true) : ∀ i, i < n → (p i = true ↔ wct (wah g i) n < k) := by
  intro i hi
  constructor
  · intro hp
    rw [← hc]
    refine wct_strict (fun j hj hw => ?_) hi (by rw [wah_f]; omega) hp
    cases hpj : p j with
    | true => rfl
    | false =>
      have h1 := wah_t.mp (hu i j hi hj hp hpj)
      have h2 := wah_t.mp hw
      omega
  · intro hlt
    cases hpi : p i with
    | true => rfl
    | false =>
      have : wct p n ≤ wct (wah g i) n := wct_mono fun j hj hpj => hu j i hj hi hpj hpi
      omega
def zc_X5_shareByDrops (a : List Value) (M : zMm) (K : zKt) : Prop := match a with
  | [.ref k, .int x] => k = 10 ∧ zxw M ∧ ∃ n f D, n ≤ 4 ∧ M.2.1 10 10 = nI n ∧ x = nI f ∧ f ≤ 10000 ∧ (∀ i, i < n → M.2.1 17 i = nI (D i) ∧ 1 ≤ D i ∧ D i ≤ 200) ∧ ∀ M', zsm [18, 19] M M' → (∀ i, i < n → M'.2.1 18 i = nI (wsd D n f i)) → K none M'
  | _ => False
theorem wsm_bd {D : Nat → Nat} {b : Nat} : ∀ {n : Nat}, (∀ i, i < n → D i ≤ b) → wsm D n ≤ n * b
  | 0, _ => Nat.zero_le _
  | n + 1, h => by
    have := wsm_bd (D := D) (n := n) (fun i hi => h i (by omega))
    have := h n (by omega)
    unfold wsm
    rw [Nat.succ_mul]
    omega
theorem wsm_mn {g : Nat → Nat} {a : Nat} : ∀ {b : Nat}, a ≤ b → wsm g a ≤ wsm g b
  | 0, h => by
    have : a = 0 := by omega
    subst this; exact Nat.le_refl _
  | b + 1, h => by
    rcases Nat.lt_or_ge a (b + 1) with z | z
    · have := wsm_mn (g := g) (a := a) (b := b) (by omega)
      show wsm g a ≤ wsm g b + g b
      omega
    · have : a = b + 1 := by omega
      subst this; exact Nat.le_refl _
set_option maxHeartbeats 1000000 in
theorem zm_X5_shareByDrops (l : Launch) (D : va_G) (Y : Nat → ClassId) : zMt l D Y yX5_shareByDrops cX5_shareByDrops 6 none 1 23 0 0 zc_X5_shareByDrops := by
  refine zwhile (heads := [4, 37, 101]) (by decide) (fun K J _ _ => zb_X5_shareByDrops_0 K J) (fun K _ _ J h => zB_X5_shareByDrops K J h) (fun X hR J hJ => zbs_X5_shareByDrops_0 hR J hJ) (fun X hR => zBs_X5_shareByDrops hR) (fun avs M K h => ?_)
  unfold zc_X5_shareByDrops at h
  split at h
  · next k x =>
    obtain ⟨rfl, hx, n, f, D, hn, hw, rfl, hf, hD, h⟩ := h
    have hT := wsm_bd (D := D) (b := 200) (n := n) (fun i hi => (hD i hi).2.2)
    have hmem : ∀ i, i < n → D i ≤ wsm D n := fun i hi => wsm_mem hi
    have hfd : ∀ i, i < n → f * D i ≤ 2000000 := fun i hi => by
      have := Nat.mul_le_mul hf (hD i hi).2.2
      omega
    refine ⟨by simp [zent], fun q h' M' ls st => (h' = 4 ∧ ∃ i, q = 300 - i ∧ i ≤ n ∧ ls = [some (.ref 10), some (.int (nI f)), some (.int (nI (wsm D i))), some (.int (nI i)), none, none] ∧ st = [] ∧ M' = M) ∨
      (h' = 37 ∧ 0 < n ∧ ∃ i, q = 200 - i ∧ i ≤ n ∧ ls = [some (.ref 10), some (.int (nI f)), some (.int (nI (wsm D n))), some (.int (nI (f - wsm (fun j => f * D j / wsm D n) i))), some (.int (nI i)), none] ∧ st = [] ∧ zsm [18, 19] M M' ∧ (∀ j, j < i → M'.2.1 18 j = nI (f * D j / wsm D n) ∧ M'.2.1 19 j = nI (f * D j % wsm D n))) ∨
      (h' = 101 ∧ 0 < n ∧ ∃ i o p, q = 100 - i ∧ i ≤ f - wsm (fun j => f * D j / wsm D n) n ∧ ls = [some (.ref 10), some (.int (nI f)), some (.int (nI (wsm D n))), some (.int (nI (f - wsm (fun j => f * D j / wsm D n) n))), some (.int (nI i)), o] ∧ st = [] ∧ zsm [18, 19] M M' ∧ wct p n = i ∧ (∀ i j, i < n → j < n → p i = true → p j = false → wah (fun j => f * D j % wsm D n) j i = true) ∧ (∀ j, j < n → M'.2.1 18 j = nI (f * D j / wsm D n + if p j = true then 1 else 0) ∧ M'.2.1 19 j = if p j = true then -1 else nI (f * D j % wsm D n))), ?_, ?_⟩
    · rintro q J hJ h' - M' ls st (⟨rfl, i, rfl, hi, rfl, rfl, rfl⟩ | ⟨rfl, hn0, i, rfl, hi, rfl, rfl, hs, hc⟩ | ⟨rfl, hn0, i, o, p, rfl, hi, rfl, rfl, hs, hpc, hpu, hc⟩)
      · have hbi := wsm_bd (D := D) (b := 200) (n := i) (fun j hj => (hD j (by omega)).2.2)
        obtain ⟨x0, x1, x2, x3, x4, x5, x6, x7, x8⟩ := hx
        simp only [zB_X5_shareByDrops, zb_X5_shareByDrops_4, ↓reduceIte, zsh_10, zsh_17, x6, hw, zT_push, zT_bin, zT_div, zT_bil, zT_shl, zT_un, zT_i2l, zT_l2i, zT_lcmp, zT_ild, zT_lld, zT_ald, zT_ist, zT_lst, zT_ast, zT_iinc, zT_dup, zT_dup2, zT_pop, zT_if1, zT_if2, zT_ifn, zT_getI, zT_getJ, zT_getR, zT_putI, zT_putZ, zT_putJ, zT_putR, zT_ald0, zT_lald, zT_aald, zT_iast, zT_zast, zT_bast, zT_last, zT_aast, zT_iret, zT_nret, zT_aret, zT_vret, zT_oi, zT_mm, zT_ialX, zT_S1, zT_S2, zT_S3, zT_V0, zT_V1, zT_V2, zT_V3, zT_V4, zT_V5, zT_V6, zT_I0, zT_I1, zT_I2, zlg, zlset, zlpr, zent, zok, va_rf, List.length_cons, List.length_nil, List.replicate, List.cons_append, List.nil_append, List.append_nil, Option.toList_some, Option.toList_none, Option.toList, Nat.reduceAdd, Nat.reduceSub, Nat.reduceLeDiff, Nat.zero_add, Nat.zero_le, true_and, and_true, Nat.le_refl, ge_iff_le, Nat.reduceEqDiff]
        refine ⟨fun h1 => ⟨fun h2 => ?_, fun h2 => ?_⟩, fun h1 => ?_⟩
        · have := zn_ge' h1 (by omega) (by omega)
          have e : i = n := by omega
          subst e
          have hpos := (nI_ltI (a := 0) (by omega) (by omega)).mp h2
          have hn0 : 0 < i := by
            rcases Nat.eq_zero_or_pos i with z | z
            · subst z
              exact absurd hpos (Nat.lt_irrefl _)
            · exact z
          exact hJ 200 (by omega) 37 (by simp) _ _ _ (Or.inr (Or.inl ⟨rfl, hn0, 0, rfl, Nat.zero_le _, rfl, rfl, zsm.rf, fun j hj => absurd hj (Nat.not_lt_zero _)⟩))
        · have := zn_ge' h1 (by omega) (by omega)
          have e : i = n := by omega
          subst e
          refine h M' zsm.rf (fun j hj => ?_)
          have h3 : ¬ 0 < wsm D i := fun z => h2 ((nI_ltI (a := 0) (by omega) (by omega)).mpr z)
          have := hmem j hj
          have := (hD j hj).2.1
          omega
        · have hlt := zn_ge h1 (by omega) (by omega)
          rw [nI_clamp (by omega), (hD i hlt).1]
          refine ⟨vp_in_nI (by omega) (by decide), hJ (300 - (i + 1)) (by omega) 4 (by simp) _ _ _ (Or.inl ⟨rfl, i + 1, rfl, hlt, ?_, rfl, rfl⟩)⟩
          rw [nI_1, nI_add]
          rfl
      · have hT0 : 0 < wsm D n := Nat.lt_of_lt_of_le (hD 0 hn0).2.1 (hmem 0 hn0)
        have hleft := wsm_left (r := D) (f := f) hn0 hT0
        have h10 : M'.2.1 10 = M.2.1 10 := hs.2.2 10 (by simp)
        have h17 : M'.2.1 17 = M.2.1 17 := hs.2.2 17 (by simp)
        obtain ⟨x0, x1, x2, x3, x4, x5, x6, x7, x8⟩ := hx.to hs
        simp only [zB_X5_shareByDrops, zb_X5_shareByDrops_37, ↓reduceIte, Nat.reduceEqDiff, zsh_10, zsh_17, zsh_18, zsh_19, x6, x7, x8, h10, h17, hw, zT_push, zT_bin, zT_div, zT_bil, zT_shl, zT_un, zT_i2l, zT_l2i, zT_lcmp, zT_ild, zT_lld, zT_ald, zT_ist, zT_lst, zT_ast, zT_iinc, zT_dup, zT_dup2, zT_pop, zT_if1, zT_if2, zT_ifn, zT_getI, zT_getJ, zT_getR, zT_putI, zT_putZ, zT_putJ, zT_putR, zT_ald0, zT_lald, zT_aald, zT_iast, zT_zast, zT_bast, zT_last, zT_aast, zT_iret, zT_nret, zT_aret, zT_vret, zT_oi, zT_mm, zT_ialX, zT_S1, zT_S2, zT_S3, zT_V0, zT_V1, zT_V2, zT_V3, zT_V4, zT_V5, zT_V6, zT_I0, zT_I1, zT_I2, zlg, zlset, zlpr, zent, zok, va_rf, List.length_cons, List.length_nil, List.replicate, List.cons_append, List.nil_append, List.append_nil, Option.toList_some, Option.toList_none, Option.toList, Nat.reduceAdd, Nat.reduceSub, Nat.reduceLeDiff, Nat.zero_add, Nat.zero_le, true_and, and_true, Nat.le_refl, ge_iff_le, Nat.reduceEqDiff, zwI_L, zwI_I, zwI_J, zwI_R, zwJ_L, zwJ_I, zwJ_J, zwJ_R, zwR_L, zwR_I, zwR_J, zwR_R, zw2_s, zw2_n, ne_eq, not_false_eq_true, reduceCtorEq, not_true_eq_false, Nat.reduceEqDiff]
        refine ⟨fun h1 => ?_, fun h1 => ?_⟩
        · have := zn_ge' h1 (by omega) (by omega)
          have e : i = n := by omega
          subst e
          refine hJ 100 (by omega) 101 (by simp) _ _ _ (Or.inr (Or.inr ⟨rfl, hn0, 0, none, fun _ => false, rfl, Nat.zero_le _, rfl, rfl, hs, ?_, fun i j _ _ hp => absurd hp Bool.false_ne_true, fun j hj => ?_⟩))
          · have : ∀ m, wct (fun _ => false) m = 0 := by
              intro m
              induction m with
              | zero => rfl
              | succ m ih => unfold wct; rw [ih]; rfl
            exact this _
          · obtain ⟨c1, c2⟩ := hc j hj
            exact ⟨c1, c2⟩
        · have hlt := zn_ge h1 (by omega) (by omega)
          have hne : ¬ nI (wsm D n) = 0 := nI_ne0 hT0 (by omega)
          have hfd' := hfd i hlt
          have hdv : f * D i / wsm D n ≤ f * D i := Nat.div_le_self _ _
          have hbase : wsm (fun j => f * D j / wsm D n) (i + 1) ≤ f := by
            refine Nat.le_trans ?_ hleft.1
            exact wsm_mn hlt
          have hsplit : wsm (fun j => f * D j / wsm D n) (i + 1) = wsm (fun j => f * D j / wsm D n) i + f * D i / wsm D n := rfl
          rw [nI_clamp (by omega), (hD i hlt).1, pk_mul, pk_rem (a := f * D i) (by omega) hT0 (by omega), pk_div (by omega) hT0 (by omega), zup_s, pk_sub (by omega)]
          refine ⟨vp_in_nI (by omega) (by decide), hne, vp_in_nI (by omega) (by decide), vp_in_nI (by omega) (by decide), hne, vp_in_nI (by omega) (by decide), vp_in_nI (by omega) (by decide), hJ (200 - (i + 1)) (by omega) 37 (by simp) _ _ _ (Or.inr (Or.inl ⟨rfl, hn0, i + 1, rfl, hlt, ?_, rfl, (hs.w (by simp)).w (by simp), fun j hj => ?_⟩))⟩
          · rw [nI_1, hsplit, Nat.sub_sub]
          · simp only [zwI_L, zwI_I, zwI_J, zwI_R, zwJ_L, zwJ_I, zwJ_J, zwJ_R, zwR_L, zwR_I, zwR_J, zwR_R, zw2_s, zw2_n, ne_eq, not_false_eq_true, reduceCtorEq, not_true_eq_false, Nat.reduceEqDiff, zup_at]
            by_cases e : j = i
            · subst e
              simp
            · rw [if_neg e, if_neg e]
              exact hc j (by omega)
      · have hT0 : 0 < wsm D n := Nat.lt_of_lt_of_le (hD 0 hn0).2.1 (hmem 0 hn0)
        have hleft := wsm_left (r := D) (f := f) hn0 hT0
        have h10 : M'.2.1 10 = M.2.1 10 := hs.2.2 10 (by simp)
        obtain ⟨x0, x1, x2, x3, x4, x5, x6, x7, x8⟩ := hx.to hs
        simp only [zB_X5_shareByDrops, zb_X5_shareByDrops_101, ↓reduceIte, Nat.reduceEqDiff, zsh_10, x8, x7, zT_push, zT_bin, zT_div, zT_bil, zT_shl, zT_un, zT_i2l, zT_l2i, zT_lcmp, zT_ild, zT_lld, zT_ald, zT_ist, zT_lst, zT_ast, zT_iinc, zT_dup, zT_dup2, zT_pop, zT_if1, zT_if2, zT_ifn, zT_getI, zT_getJ, zT_getR, zT_putI, zT_putZ, zT_putJ, zT_putR, zT_ald0, zT_lald, zT_aald, zT_iast, zT_zast, zT_bast, zT_last, zT_aast, zT_iret, zT_nret, zT_aret, zT_vret, zT_oi, zT_mm, zT_ialX, zT_S1, zT_S2, zT_S3, zT_V0, zT_V1, zT_V2, zT_V3, zT_V4, zT_V5, zT_V6, zT_I0, zT_I1, zT_I2, zlg, zlset, zlpr, zent, zok, va_rf, List.length_cons, List.length_nil, List.replicate, List.cons_append, List.nil_append, List.append_nil, Option.toList_some, Option.toList_none, Option.toList, Nat.reduceAdd, Nat.reduceSub, Nat.reduceLeDiff, Nat.zero_add, Nat.zero_le, true_and, and_true, Nat.le_refl, ge_iff_le, Nat.reduceEqDiff]
        refine ⟨fun h1 => ?_, fun h1 => ?_⟩
        · have := zn_ge' h1 (by omega) (by omega)
          have e : i = f - wsm (fun j => f * D j / wsm D n) n := by omega
          refine h M' hs (fun j hj => ?_)
          rw [(hc j hj).1]
          unfold wsd
          have hp := wpick hpc hpu j hj
          rw [← e]
          by_cases hq : p j = true
          · rw [if_pos hq, if_pos (hp.mp hq)]
          · rw [if_neg hq, if_neg (fun z => hq (hp.mpr z))]
        · have hlt := zn_ge h1 (by omega) (by omega)
          unfold zc_X5_firstGreatest
          dsimp only
          refine ⟨rfl, Or.inr rfl, n, hn, by rw [h10]; exact hw, ?_⟩
          have hg0 := zfg_le (M'.2.1 19) n
          have hgm := zfg_max (M'.2.1 19) n
          generalize zfg (M'.2.1 19) n = g0 at hg0 hgm ⊢
          have hg1 : g0 < n := by omega
          have hmod : ∀ j, f * D j % wsm D n < 2 ^ 31 := fun j => Nat.lt_of_lt_of_le (Nat.mod_lt _ hT0) (by omega)
          have hpg : p g0 = false := by
            obtain ⟨j, hj, hpj⟩ := wct_ex (p := p) (n := n) (by omega)
            cases hq : p g0 with
            | false => rfl
            | true =>
              have h3 := (hgm j hj).1
              rw [(hc j hj).2, (hc g0 hg1).2, hpj, hq] at h3
              exact absurd (zneg1 (hmod j)) (Int32.not_lt.mpr h3)
          have hb : f * D g0 / wsm D n ≤ f * D g0 := Nat.div_le_self _ _
          have := hfd g0 hg1
          simp only [zsh_18, zsh_19, x7, x8, zT_push, zT_bin, zT_div, zT_bil, zT_shl, zT_un, zT_i2l, zT_l2i, zT_lcmp, zT_ild, zT_lld, zT_ald, zT_ist, zT_lst, zT_ast, zT_iinc, zT_dup, zT_dup2, zT_pop, zT_if1, zT_if2, zT_ifn, zT_getI, zT_getJ, zT_getR, zT_putI, zT_putZ, zT_putJ, zT_putR, zT_ald0, zT_lald, zT_aald, zT_iast, zT_zast, zT_bast, zT_last, zT_aast, zT_iret, zT_nret, zT_aret, zT_vret, zT_oi, zT_mm, zT_ialX, zT_S1, zT_S2, zT_S3, zT_V0, zT_V1, zT_V2, zT_V3, zT_V4, zT_V5, zT_V6, zT_I0, zT_I1, zT_I2, zlg, zlset, zlpr, zent, zok, va_rf, List.length_cons, List.length_nil, List.replicate, List.cons_append, List.nil_append, List.append_nil, Option.toList_some, Option.toList_none, Option.toList, Nat.reduceAdd, Nat.reduceSub, Nat.reduceLeDiff, Nat.zero_add, Nat.zero_le, true_and, and_true, Nat.le_refl, ge_iff_le, Nat.reduceEqDiff, zwI_L, zwI_I, zwI_J, zwI_R, zwJ_L, zwJ_I, zwJ_J, zwJ_R, zwR_L, zwR_I, zwR_J, zwR_R, zw2_s, zw2_n, ne_eq, not_false_eq_true, reduceCtorEq, not_true_eq_false, Nat.reduceEqDiff]
          rw [nI_clamp (by omega), (hc g0 hg1).1, hpg]
          refine ⟨vp_in_nI (by omega) (by decide), vp_in_nI (by omega) (by decide), vp_in_nI (by omega) (by decide), hJ (100 - (i + 1)) (by omega) 101 (by simp) _ _ _ (Or.inr (Or.inr ⟨rfl, hn0, i + 1, some (.int (nI g0)), fun j => if j = g0 then true else p j, rfl, hlt, by rw [nI_1], rfl, (hs.w (by simp)).w (by simp), by rw [wct_up hg1 hpg (fun _ _ => rfl), hpc], fun a b ha hb' hpa hpb => ?_, fun j hj => ?_⟩))⟩
          · dsimp only at hpa hpb
            have hbg : b ≠ g0 := by
              intro e
              rw [if_pos e] at hpb
              cases hpb
            rw [if_neg hbg] at hpb
            by_cases ea : a = g0
            · subst ea
              have h3 := hgm b hb'
              rw [(hc b hb').2, (hc a ha).2, hpb, hpg] at h3
              simp only [Bool.false_eq_true, if_false] at h3
              rw [nI_leI (hmod b) (hmod a), nI_ltI (hmod b) (hmod a)] at h3
              rw [wah_t]
              omega
            · rw [if_neg ea] at hpa
              exact hpu a b ha hb' hpa hpb
          · simp only [zwI_L, zwI_I, zwI_J, zwI_R, zwJ_L, zwJ_I, zwJ_J, zwJ_R, zwR_L, zwR_I, zwR_J, zwR_R, zw2_s, zw2_n, ne_eq, not_false_eq_true, reduceCtorEq, not_true_eq_false, Nat.reduceEqDiff, zup_at]
            by_cases e : j = g0
            · subst e
              refine ⟨?_, ?_⟩ <;> simp [nI_1]
            · have h5 := hc j hj
              simp only [e, if_false]
              exact h5
    · intro J hJ
      simp only [zb_X5_shareByDrops_0, zT_push, zT_bin, zT_div, zT_bil, zT_shl, zT_un, zT_i2l, zT_l2i, zT_lcmp, zT_ild, zT_lld, zT_ald, zT_ist, zT_lst, zT_ast, zT_iinc, zT_dup, zT_dup2, zT_pop, zT_if1, zT_if2, zT_ifn, zT_getI, zT_getJ, zT_getR, zT_putI, zT_putZ, zT_putJ, zT_putR, zT_ald0, zT_lald, zT_aald, zT_iast, zT_zast, zT_bast, zT_last, zT_aast, zT_iret, zT_nret, zT_aret, zT_vret, zT_oi, zT_mm, zT_ialX, zT_S1, zT_S2, zT_S3, zT_V0, zT_V1, zT_V2, zT_V3, zT_V4, zT_V5, zT_V6, zT_I0, zT_I1, zT_I2, zlg, zlset, zlpr, zent, zok, va_rf, List.length_cons, List.length_nil, List.replicate, List.cons_append, List.nil_append, List.append_nil, Option.toList_some, Option.toList_none, Option.toList, Nat.reduceAdd, Nat.reduceSub, Nat.reduceLeDiff, Nat.zero_add, Nat.zero_le, true_and, and_true, Nat.le_refl, ge_iff_le, Nat.reduceEqDiff]
      exact hJ 300 4 (by simp) _ _ _ (Or.inl ⟨rfl, 0, rfl, Nat.zero_le _, rfl, rfl, rfl⟩)
  · exact h.elim
