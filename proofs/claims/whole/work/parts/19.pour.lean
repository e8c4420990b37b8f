/-! WATER: pour -/
/-- the place from the end: b e: it goes ahead of e -/
def wps (b : Nat → Bool) (g : Nat → Nat) : Nat → Nat
  | 0 => 0
  | n + 1 => if b (g n) = true then wps b g n else n + 1
theorem wps_le (b : Nat → Bool) (g : Nat → Nat) : ∀ n, wps b g n ≤ n
  | 0 => Nat.le_refl _
  | n + 1 => by
    have := wps_le b g n
    unfold wps
    split <;> omega
def wat (L : List Nat) (i : Nat) : Nat := L.getD i 0
theorem wat_get {L : List Nat} {i : Nat} (h : i < L.length) : L[i]? = some (wat L i) := by
  unfold wat
  rw [List.getD_eq_getElem?_getD, List.getElem?_eq_getElem h]
  rfl
theorem wat_of {L : List Nat} {i x : Nat} (h : L[i]? = some x) : i < L.length ∧ wat L i = x := by
  obtain ⟨h1, h2⟩ := List.getElem?_eq_some_iff.mp h
  refine ⟨h1, ?_⟩
  have := wat_get h1
  rw [h] at this
  cases this
  rfl
/-- put c into the row, from the end on -/
def win (b : Nat → Bool) (c : Nat) (L : List Nat) : List Nat := L.take (wps b (wat L) L.length) ++ c :: L.drop (wps b (wat L) L.length)
theorem win_len (b : Nat → Bool) (c : Nat) (L : List Nat) : (win b c L).length = L.length + 1 := by
  have := wps_le b (wat L) L.length
  unfold win
  simp
  omega
theorem wins_get {L : List Nat} {p c i x : Nat} (hp : p ≤ L.length) (h : (L.take p ++ c :: L.drop p)[i]? = some x) : (i < p ∧ L[i]? = some x) ∨ (i = p ∧ x = c) ∨ (p < i ∧ L[i - 1]? = some x) := by
  have hl : (L.take p).length = p := by rw [List.length_take]; omega
  rcases Nat.lt_trichotomy i p with q | q | q
  · rw [List.getElem?_append_left (by omega), List.getElem?_take_of_lt q] at h
    exact Or.inl ⟨q, h⟩
  · subst q
    rw [List.getElem?_append_right (by omega), hl, Nat.sub_self] at h
    cases h
    exact Or.inr (Or.inl ⟨rfl, rfl⟩)
  · rw [List.getElem?_append_right (by omega), hl] at h
    obtain ⟨m, rfl⟩ : ∃ m, i = p + 1 + m := ⟨i - p - 1, by omega⟩
    rw [show p + 1 + m - p = m + 1 from by omega, List.getElem?_cons_succ, List.getElem?_drop] at h
    exact Or.inr (Or.inr ⟨q, by rw [show p + 1 + m - 1 = p + m from by omega]; exact h⟩)
theorem win_mem {b : Nat → Bool} {c : Nat} {L : List Nat} {x : Nat} : x ∈ win b c L ↔ x = c ∨ x ∈ L := by
  unfold win
  rw [List.mem_append, List.mem_cons]
  constructor
  · rintro (h | h | h)
    · exact Or.inr (List.mem_of_mem_take h)
    · exact Or.inl h
    · exact Or.inr (List.mem_of_mem_drop h)
  · rintro (h | h)
    · exact Or.inr (Or.inl h)
    · have := List.take_append_drop (wps b (wat L) L.length) L
      rw [← this] at h
      rcases List.mem_append.mp h with h | h
      · exact Or.inl h
      · exact Or.inr (Or.inr h)
def zc_X5_pour (a : List Value) (M : zMm) (K : zKt) : Prop := match a with
  | [.ref k, .int x, .int y] => k = 10 ∧ zxw M ∧ ∃ c f A L, x = nI c ∧ y = nI f ∧ c < 120 ∧ f ≤ 10000 ∧ A c ≤ 10000 ∧ zwt M A L ∧ (0 < f → A c = 0 → L.length < 120) ∧ ∀ M', zsm [10, 13, 15] M M' → (∀ j, j ≠ 5 → M'.2.1 10 j = M.2.1 10 j) → zwt M' (va_up A c (A c + f)) (if 0 < f ∧ A c = 0 then win (zbb (M.2.1 11) c) c L else L) → K none M'
  | _ => False
set_option maxHeartbeats 1000000 in
theorem zm_X5_pour (l : Launch) (D : va_G) (Y : Nat → ClassId) : zMt l D Y yX5_pour cX5_pour 4 none 1 22 0 0 zc_X5_pour := by
  refine zwhile1 (h0 := 27) (by decide) (fun K J _ _ => zb_X5_pour_0 K J) (fun K _ _ J => zb_X5_pour_27 K J) (fun X hR J hJ => zbs_X5_pour_0 hR J hJ) (fun X hR J hJ => zbs_X5_pour_27 hR J hJ) (fun avs M K h => ?_)
  unfold zc_X5_pour at h
  split at h
  · next k x y =>
    obtain ⟨rfl, hx, c, f, A, L, rfl, rfl, hc, hf, hAc, ⟨hA, hL, hn, hl⟩, hroom, h⟩ := h
    have hb := wps_le (zbb (M.2.1 11) c) (wat L) L.length
    have hL' : ∀ i, i < L.length → M.2.1 15 i = nI (wat L i) ∧ wat L i < 120 := fun i hi => hL i _ (wat_get hi)
    -- the last stretch: what came grows
    have fin : ∀ M' (J : Nat → zPP) o, zsm [10, 13, 15] M M' → M'.2.1 13 = M.2.1 13 → (∀ j, j ≠ 5 → M'.2.1 10 j = M.2.1 10 j) → (∀ i x, (if 0 < f ∧ A c = 0 then win (zbb (M.2.1 11) c) c L else L)[i]? = some x → M'.2.1 15 i = nI x ∧ x < 120) → M'.2.1 10 5 = nI (if 0 < f ∧ A c = 0 then win (zbb (M.2.1 11) c) c L else L).length → (if 0 < f ∧ A c = 0 then win (zbb (M.2.1 11) c) c L else L).length ≤ 120 → zb_X5_pour_84 K J M' [some (.ref 10), some (.int (nI c)), some (.int (nI f)), o] [] := by
      intro M' J o hs h13 h10 h15 h5 hlen
      obtain ⟨x0, x1, x2, x3, x4, x5, x6, x7, x8⟩ := hx.to hs
      simp only [zb_X5_pour_84, zsh_10, zsh_13, x2, zT_push, zT_bin, zT_div, zT_bil, zT_shl, zT_un, zT_i2l, zT_l2i, zT_lcmp, zT_ild, zT_lld, zT_ald, zT_ist, zT_lst, zT_ast, zT_iinc, zT_dup, zT_dup2, zT_pop, zT_if1, zT_if2, zT_ifn, zT_getI, zT_getJ, zT_getR, zT_putI, zT_putZ, zT_putJ, zT_putR, zT_ald0, zT_lald, zT_aald, zT_iast, zT_zast, zT_bast, zT_last, zT_aast, zT_iret, zT_nret, zT_aret, zT_vret, zT_oi, zT_mm, zT_ialX, zT_S1, zT_S2, zT_S3, zT_V0, zT_V1, zT_V2, zT_V3, zT_V4, zT_V5, zT_V6, zT_I0, zT_I1, zT_I2, zlg, zlset, zlpr, zent, zok, va_rf, List.length_cons, List.length_nil, List.replicate, List.cons_append, List.nil_append, List.append_nil, Option.toList_some, Option.toList_none, Option.toList, Nat.reduceAdd, Nat.reduceSub, Nat.reduceLeDiff, Nat.zero_add, Nat.zero_le, true_and, and_true, Nat.le_refl, ge_iff_le, Nat.reduceEqDiff]
      rw [nI_clamp (by omega)]
      refine ⟨vp_in_nI hc (by decide), vp_in_nI hc (by decide), h _ (hs.w (by simp)) (fun j hj => ?_) ⟨fun e he => ?_, fun i x hi => ?_, ?_, hlen⟩⟩
      · simp only [zwI_L, zwI_I, zwI_J, zwI_R, zwJ_L, zwJ_I, zwJ_J, zwJ_R, zwR_L, zwR_I, zwR_J, zwR_R, zw2_s, zw2_n, ne_eq, not_false_eq_true, reduceCtorEq, not_true_eq_false, Nat.reduceEqDiff]; exact h10 j hj
      · simp only [zwI_L, zwI_I, zwI_J, zwI_R, zwJ_L, zwJ_I, zwJ_J, zwJ_R, zwR_L, zwR_I, zwR_J, zwR_R, zw2_s, zw2_n, ne_eq, not_false_eq_true, reduceCtorEq, not_true_eq_false, Nat.reduceEqDiff, zup_at, h13]
        by_cases q : e = c
        · rw [if_pos q, if_pos q, hA c hc, nI_add]
        · rw [if_neg q, if_neg q, hA e he]
      · simp only [zwI_L, zwI_I, zwI_J, zwI_R, zwJ_L, zwJ_I, zwJ_J, zwJ_R, zwR_L, zwR_I, zwR_J, zwR_R, zw2_s, zw2_n, ne_eq, not_false_eq_true, reduceCtorEq, not_true_eq_false, Nat.reduceEqDiff]; exact h15 i x hi
      · simp only [zwI_L, zwI_I, zwI_J, zwI_R, zwJ_L, zwJ_I, zwJ_J, zwJ_R, zwR_L, zwR_I, zwR_J, zwR_R, zw2_s, zw2_n, ne_eq, not_false_eq_true, reduceCtorEq, not_true_eq_false, Nat.reduceEqDiff]; exact h5
    refine ⟨by simp [zent], fun q M' ls st => ∃ i, q = i ∧ i ≤ L.length ∧ 0 < f ∧ A c = 0 ∧ ls = [some (.ref 10), some (.int (nI c)), some (.int (nI f)), some (.int (nI i))] ∧ st = [] ∧ zsm [15] M M' ∧ wps (zbb (M.2.1 11) c) (wat L) i = wps (zbb (M.2.1 11) c) (wat L) L.length ∧ (∀ j, j < i → M'.2.1 15 j = nI (wat L j)) ∧ (∀ j, i < j → j ≤ L.length → M'.2.1 15 j = nI (wat L (j - 1))), ?_, ?_⟩
    · rintro i J hJ M' ls st ⟨_, rfl, hi, hf0, hA0, rfl, rfl, hs, hw, hlo, hhi⟩
      have h10 : M'.2.1 10 = M.2.1 10 := hs.2.2 10 (by simp)
      have h11 : M'.2.1 11 = M.2.1 11 := hs.2.2 11 (by simp)
      have h13 : M'.2.1 13 = M.2.1 13 := hs.2.2 13 (by simp)
      have hll := hroom hf0 hA0
      obtain ⟨x0, x1, x2, x3, x4, x5, x6, x7, x8⟩ := hx.to hs
      have hend : i = wps (zbb (M.2.1 11) c) (wat L) L.length → zb_X5_pour_67 K J M' [some (.ref 10), some (.int (nI c)), some (.int (nI f)), some (.int (nI i))] [] := by
        intro e
        simp only [zb_X5_pour_67, zsh_10, zsh_15, x4, zT_push, zT_bin, zT_div, zT_bil, zT_shl, zT_un, zT_i2l, zT_l2i, zT_lcmp, zT_ild, zT_lld, zT_ald, zT_ist, zT_lst, zT_ast, zT_iinc, zT_dup, zT_dup2, zT_pop, zT_if1, zT_if2, zT_ifn, zT_getI, zT_getJ, zT_getR, zT_putI, zT_putZ, zT_putJ, zT_putR, zT_ald0, zT_lald, zT_aald, zT_iast, zT_zast, zT_bast, zT_last, zT_aast, zT_iret, zT_nret, zT_aret, zT_vret, zT_oi, zT_mm, zT_ialX, zT_S1, zT_S2, zT_S3, zT_V0, zT_V1, zT_V2, zT_V3, zT_V4, zT_V5, zT_V6, zT_I0, zT_I1, zT_I2, zlg, zlset, zlpr, zent, zok, va_rf, List.length_cons, List.length_nil, List.replicate, List.cons_append, List.nil_append, List.append_nil, Option.toList_some, Option.toList_none, Option.toList, Nat.reduceAdd, Nat.reduceSub, Nat.reduceLeDiff, Nat.zero_add, Nat.zero_le, true_and, and_true, Nat.le_refl, ge_iff_le, Nat.reduceEqDiff]
        rw [nI_clamp (by omega)]
        refine ⟨vp_in_nI (by omega) (by decide), fin _ J _ (((hs.up (by simp)).w (by simp)).w (by simp)) ?_ (fun j hj => ?_) (fun j x hjx => ?_) ?_ ?_⟩
        · simp only [zwI_L, zwI_I, zwI_J, zwI_R, zwJ_L, zwJ_I, zwJ_J, zwJ_R, zwR_L, zwR_I, zwR_J, zwR_R, zw2_s, zw2_n, ne_eq, not_false_eq_true, reduceCtorEq, not_true_eq_false, Nat.reduceEqDiff]; exact h13
        · simp only [zwI_L, zwI_I, zwI_J, zwI_R, zwJ_L, zwJ_I, zwJ_J, zwJ_R, zwR_L, zwR_I, zwR_J, zwR_R, zw2_s, zw2_n, ne_eq, not_false_eq_true, reduceCtorEq, not_true_eq_false, Nat.reduceEqDiff]; rw [zup_n hj, h10]
        · rw [if_pos ⟨hf0, hA0⟩] at hjx
          unfold win at hjx
          rw [← e] at hjx
          simp only [zwI_L, zwI_I, zwI_J, zwI_R, zwJ_L, zwJ_I, zwJ_J, zwJ_R, zwR_L, zwR_I, zwR_J, zwR_R, zw2_s, zw2_n, ne_eq, not_false_eq_true, reduceCtorEq, not_true_eq_false, Nat.reduceEqDiff, zup_at]
          rcases wins_get hi hjx with ⟨q1, q2⟩ | ⟨q1, q2⟩ | ⟨q1, q2⟩
          · obtain ⟨q3, q4⟩ := wat_of q2
            rw [if_neg (by omega), hlo j q1, ← q4]
            exact ⟨rfl, (hL' j q3).2⟩
          · rw [if_pos q1, q2]
            exact ⟨rfl, hc⟩
          · obtain ⟨q3, q4⟩ := wat_of q2
            rw [if_neg (by omega), hhi j q1 (by omega), ← q4]
            exact ⟨rfl, (hL' _ q3).2⟩
        · rw [if_pos ⟨hf0, hA0⟩, win_len]
          simp only [zwI_L, zwI_I, zwI_J, zwI_R, zwJ_L, zwJ_I, zwJ_J, zwJ_R, zwR_L, zwR_I, zwR_J, zwR_R, zw2_s, zw2_n, ne_eq, not_false_eq_true, reduceCtorEq, not_true_eq_false, Nat.reduceEqDiff, zup_s]
          rw [h10, hn, nI_1]
        · rw [if_pos ⟨hf0, hA0⟩, win_len]
          omega
      simp only [zb_X5_pour_27, zsh_10, zsh_15, x4, zT_push, zT_bin, zT_div, zT_bil, zT_shl, zT_un, zT_i2l, zT_l2i, zT_lcmp, zT_ild, zT_lld, zT_ald, zT_ist, zT_lst, zT_ast, zT_iinc, zT_dup, zT_dup2, zT_pop, zT_if1, zT_if2, zT_ifn, zT_getI, zT_getJ, zT_getR, zT_putI, zT_putZ, zT_putJ, zT_putR, zT_ald0, zT_lald, zT_aald, zT_iast, zT_zast, zT_bast, zT_last, zT_aast, zT_iret, zT_nret, zT_aret, zT_vret, zT_oi, zT_mm, zT_ialX, zT_S1, zT_S2, zT_S3, zT_V0, zT_V1, zT_V2, zT_V3, zT_V4, zT_V5, zT_V6, zT_I0, zT_I1, zT_I2, zlg, zlset, zlpr, zent, zok, va_rf, List.length_cons, List.length_nil, List.replicate, List.cons_append, List.nil_append, List.append_nil, Option.toList_some, Option.toList_none, Option.toList, Nat.reduceAdd, Nat.reduceSub, Nat.reduceLeDiff, Nat.zero_add, Nat.zero_le, true_and, and_true, Nat.le_refl, ge_iff_le, Nat.reduceEqDiff, zwI_L, zwI_I, zwI_J, zwI_R, zwJ_L, zwJ_I, zwJ_J, zwJ_R, zwR_L, zwR_I, zwR_J, zwR_R, zw2_s, zw2_n, ne_eq, not_false_eq_true, reduceCtorEq, not_true_eq_false, Nat.reduceEqDiff]
      refine ⟨fun h1 => ?_, fun h1 => ?_⟩
      · have := zn_ge' (a := 0) h1 (by omega) (by omega)
        have e : i = 0 := by omega
        refine hend ?_
        rw [← hw, e]
        rfl
      · have hi0 := zn_ge (a := 0) h1 (by omega) (by omega)
        obtain ⟨m, rfl⟩ : ∃ m, i = m + 1 := ⟨i - 1, by omega⟩
        have hm := hL' m (by omega)
        rw [nI_pred, nI_clamp (by omega), hlo m (by omega)]
        refine ⟨vp_in_nI (by omega) (by decide), ?_⟩
        unfold zc_X5_goesAhead
        dsimp only
        refine ⟨rfl, x0, c, wat L m, rfl, rfl, hc, hm.2, ?_⟩
        simp only [x4, zsh_15, zT_push, zT_bin, zT_div, zT_bil, zT_shl, zT_un, zT_i2l, zT_l2i, zT_lcmp, zT_ild, zT_lld, zT_ald, zT_ist, zT_lst, zT_ast, zT_iinc, zT_dup, zT_dup2, zT_pop, zT_if1, zT_if2, zT_ifn, zT_getI, zT_getJ, zT_getR, zT_putI, zT_putZ, zT_putJ, zT_putR, zT_ald0, zT_lald, zT_aald, zT_iast, zT_zast, zT_bast, zT_last, zT_aast, zT_iret, zT_nret, zT_aret, zT_vret, zT_oi, zT_mm, zT_ialX, zT_S1, zT_S2, zT_S3, zT_V0, zT_V1, zT_V2, zT_V3, zT_V4, zT_V5, zT_V6, zT_I0, zT_I1, zT_I2, zlg, zlset, zlpr, zent, zok, va_rf, List.length_cons, List.length_nil, List.replicate, List.cons_append, List.nil_append, List.append_nil, Option.toList_some, Option.toList_none, Option.toList, Nat.reduceAdd, Nat.reduceSub, Nat.reduceLeDiff, Nat.zero_add, Nat.zero_le, true_and, and_true, Nat.le_refl, ge_iff_le, Nat.reduceEqDiff, zwI_L, zwI_I, zwI_J, zwI_R, zwJ_L, zwJ_I, zwJ_J, zwJ_R, zwR_L, zwR_I, zwR_J, zwR_R, zw2_s, zw2_n, ne_eq, not_false_eq_true, reduceCtorEq, not_true_eq_false, Nat.reduceEqDiff]
        rw [h11]
        have hw : (if zbb (M.2.1 11) c (wat L m) = true then wps (zbb (M.2.1 11) c) (wat L) m else m + 1) = wps (zbb (M.2.1 11) c) (wat L) L.length := hw
        by_cases hq : zbb (M.2.1 11) c (wat L m) = true
        · rw [if_pos hq] at hw ⊢
          rw [nI_clamp (n := m + 1) (by omega), nI_clamp (by omega), hlo m (by omega)]
          refine ⟨fun z => absurd z (by decide), fun _ => ⟨vp_in_nI (by omega) (by decide), vp_in_nI (by omega) (by decide), hJ m _ _ _ (by omega) ⟨m, rfl, by omega, hf0, hA0, by rw [pk_m1], rfl, hs.w (by simp), hw, fun j hj => ?_, fun j hj1 hj2 => ?_⟩⟩⟩
          · simp only [zwI_L, zwI_I, zwI_J, zwI_R, zwJ_L, zwJ_I, zwJ_J, zwJ_R, zwR_L, zwR_I, zwR_J, zwR_R, zw2_s, zw2_n, ne_eq, not_false_eq_true, reduceCtorEq, not_true_eq_false, Nat.reduceEqDiff]
            rw [zup_n (by omega)]
            exact hlo j (by omega)
          · simp only [zwI_L, zwI_I, zwI_J, zwI_R, zwJ_L, zwJ_I, zwJ_J, zwJ_R, zwR_L, zwR_I, zwR_J, zwR_R, zw2_s, zw2_n, ne_eq, not_false_eq_true, reduceCtorEq, not_true_eq_false, Nat.reduceEqDiff, zup_at]
            by_cases q : j = m + 1
            · rw [if_pos q, q]
              rfl
            · rw [if_neg q]
              exact hhi j (by omega) hj2
        · rw [if_neg hq] at hw ⊢
          exact ⟨fun _ => hend hw, fun z => absurd rfl z⟩
    · intro J hJ
      have hx' := hx
      obtain ⟨x0, x1, x2, x3, x4, x5, x6, x7, x8⟩ := hx
      simp only [zb_X5_pour_0, zsh_10, zsh_13, x2, zT_push, zT_bin, zT_div, zT_bil, zT_shl, zT_un, zT_i2l, zT_l2i, zT_lcmp, zT_ild, zT_lld, zT_ald, zT_ist, zT_lst, zT_ast, zT_iinc, zT_dup, zT_dup2, zT_pop, zT_if1, zT_if2, zT_ifn, zT_getI, zT_getJ, zT_getR, zT_putI, zT_putZ, zT_putJ, zT_putR, zT_ald0, zT_lald, zT_aald, zT_iast, zT_zast, zT_bast, zT_last, zT_aast, zT_iret, zT_nret, zT_aret, zT_vret, zT_oi, zT_mm, zT_ialX, zT_S1, zT_S2, zT_S3, zT_V0, zT_V1, zT_V2, zT_V3, zT_V4, zT_V5, zT_V6, zT_I0, zT_I1, zT_I2, zlg, zlset, zlpr, zent, zok, va_rf, List.length_cons, List.length_nil, List.replicate, List.cons_append, List.nil_append, List.append_nil, Option.toList_some, Option.toList_none, Option.toList, Nat.reduceAdd, Nat.reduceSub, Nat.reduceLeDiff, Nat.zero_add, Nat.zero_le, true_and, and_true, Nat.le_refl, ge_iff_le, Nat.reduceEqDiff]
      rw [nI_clamp (by omega), hA c hc, hn]
      have plain : ¬ (0 < f ∧ A c = 0) → ∀ o, zb_X5_pour_84 K J M [some (.ref 10), some (.int (nI c)), some (.int (nI f)), o] [] := by
        intro hq o
        refine fin M J o zsm.rf rfl (fun _ _ => rfl) ?_ ?_ ?_
        · rw [if_neg hq]; exact hL
        · rw [if_neg hq]; exact hn
        · rw [if_neg hq]; exact hl
      refine ⟨fun h1 => ?_, fun h1 => ⟨vp_in_nI hc (by decide), fun h2 => ⟨fun h3 => ?_, fun h3 => ?_⟩, fun h2 => ?_⟩⟩
      · have := zn_ge' (a := 0) h1 (by omega) (by omega)
        exact plain (by omega) _
      · have e1 := zn_ge (a := 0) h1 (by omega) (by omega)
        have e2 := (nI_eq (b := 0) (by omega) (by omega)).mp h2
        have e3 := zn_ge' (b := 120) h3 (by omega) (by omega)
        have := hroom e1 e2
        omega
      · have e1 := zn_ge (a := 0) h1 (by omega) (by omega)
        have e2 := (nI_eq (b := 0) (by omega) (by omega)).mp h2
        refine hJ L.length _ _ _ ⟨L.length, rfl, Nat.le_refl _, e1, e2, rfl, rfl, zsm.rf, rfl, fun j hj => (hL' j hj).1, fun j hj1 hj2 => by omega⟩
      · refine plain (fun z => h2 ?_) _
        rw [z.2]
        rfl
  · exact h.elim
