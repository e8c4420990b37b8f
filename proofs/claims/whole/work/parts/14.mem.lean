/-! LAWS of the memory, and contracts with one loop -/
theorem zwI_L {M : zMm} {k j : Nat} {x : Int32} : (zwI M k j x).1 = M.1 := rfl
theorem zwI_I {M : zMm} {k j : Nat} {x : Int32} : (zwI M k j x).2.1 = zw2 M.2.1 k j x := rfl
theorem zwI_J {M : zMm} {k j : Nat} {x : Int32} : (zwI M k j x).2.2.1 = M.2.2.1 := rfl
theorem zwI_R {M : zMm} {k j : Nat} {x : Int32} : (zwI M k j x).2.2.2 = M.2.2.2 := rfl
theorem zwJ_L {M : zMm} {k j : Nat} {x : Int64} : (zwJ M k j x).1 = M.1 := rfl
theorem zwJ_I {M : zMm} {k j : Nat} {x : Int64} : (zwJ M k j x).2.1 = M.2.1 := rfl
theorem zwJ_J {M : zMm} {k j : Nat} {x : Int64} : (zwJ M k j x).2.2.1 = zw2 M.2.2.1 k j x := rfl
theorem zwJ_R {M : zMm} {k j : Nat} {x : Int64} : (zwJ M k j x).2.2.2 = M.2.2.2 := rfl
theorem zwR_L {M : zMm} {k j : Nat} {x : Option Nat} : (zwR M k j x).1 = M.1 := rfl
theorem zwR_I {M : zMm} {k j : Nat} {x : Option Nat} : (zwR M k j x).2.1 = M.2.1 := rfl
theorem zwR_J {M : zMm} {k j : Nat} {x : Option Nat} : (zwR M k j x).2.2.1 = M.2.2.1 := rfl
theorem zwR_R {M : zMm} {k j : Nat} {x : Option Nat} : (zwR M k j x).2.2.2 = zw2 M.2.2.2 k j x := rfl
/-- the same but for the int rows ks -/
def zsm (ks : List Nat) (M M' : zMm) : Prop := M'.1 = M.1 ∧ M'.2.2 = M.2.2 ∧ ∀ k, k ∉ ks → M'.2.1 k = M.2.1 k
theorem zsm.rf {ks : List Nat} {M : zMm} : zsm ks M M := ⟨rfl, rfl, fun _ _ => rfl⟩
theorem zsm.tr {ks : List Nat} {M M' M'' : zMm} (h : zsm ks M M') (h' : zsm ks M' M'') : zsm ks M M'' := ⟨h'.1.trans h.1, h'.2.1.trans h.2.1, fun k hk => (h'.2.2 k hk).trans (h.2.2 k hk)⟩
theorem zsm.up {ks ks' : List Nat} {M M' : zMm} (h : zsm ks M M') (hs : ∀ k ∈ ks, k ∈ ks') : zsm ks' M M' := ⟨h.1, h.2.1, fun k hk => h.2.2 k (fun q => hk (hs k q))⟩
theorem zsm.w {ks : List Nat} {M M' : zMm} {k j : Nat} {x : Int32} (h : zsm ks M M') (hk : k ∈ ks) : zsm ks M (zwI M' k j x) := ⟨h.1, h.2.1, fun k' hk' => (zw2_n (fun e => hk' (by rw [e]; exact hk))).trans (h.2.2 k' hk')⟩
theorem zsm.R {ks : List Nat} {M M' : zMm} (h : zsm ks M M') : M'.2.2.2 = M.2.2.2 := congrArg Prod.snd h.2.1
theorem zsm.J {ks : List Nat} {M M' : zMm} (h : zsm ks M M') : M'.2.2.1 = M.2.2.1 := congrArg Prod.fst h.2.1
theorem zup_at {α : Type} {f : Nat → α} {j i : Nat} {v : α} : va_up f j v i = if i = j then v else f i := rfl
/-- a contract out of a body with one head -/
theorem zwhile1 {l : Launch} {D : va_G} {Y : Nat → ClassId} {y : MethodName} {cc : ByteArray} {maxL : Nat} {ret : Option FieldType} {fr lo mc ms : Nat} {C : List Value → zMm → zKt → Prop} {h0 : Nat} (hy : plainName y.cls = true) (B : zKt → (Nat → zPP) → Nat → Nat → zPP) (BL : zKt → Nat → Nat → (Nat → zPP) → zPP)
    (hB : ∀ X : zCt, zRX X = { frames := fr, cells := mc, slots := ms, locals := lo } → ∀ J : Nat → zPP, (∀ h ∈ [h0], zSd X y.cls y.name cc maxL ret h (J h)) → zSd X y.cls y.name cc maxL ret 0 (B (zKX X) J (zlc X) (zls X)))
    (hBL : ∀ X : zCt, zRX X = { frames := fr, cells := mc, slots := ms, locals := lo } → ∀ J : Nat → zPP, (∀ h ∈ [h0], zSd X y.cls y.name cc maxL ret h (J h)) → zSd X y.cls y.name cc maxL ret h0 (BL (zKX X) (zlc X) (zls X) J))
    (h : ∀ avs M K, C avs M K → (zent avs).length ≤ maxL ∧ ∃ Inv : Nat → zPP, (∀ n (J : Nat → zPP), (∀ n' M' ls st, n' < n → Inv n' M' ls st → J h0 M' ls st) → ∀ M' ls st, Inv n M' ls st → BL K (M.1.length + mc) (zss M.1 + ms) J M' ls st) ∧
      ∀ J : Nat → zPP, (∀ n M' ls st, Inv n M' ls st → J h0 M' ls st) → B K J (M.1.length + mc) (zss M.1 + ms) M (zent avs ++ List.replicate (maxL - (zent avs).length) none) []) : zMt l D Y y cc maxL ret fr lo mc ms C := by
  refine zwhile (heads := [h0]) hy B (fun K a b J _ => BL K a b J) hB (fun X hR J hJ h hh => ?_) (fun avs M K hC => ?_)
  · simp only [List.mem_cons, List.not_mem_nil, or_false] at hh
    subst hh
    exact hBL X hR J hJ
  · obtain ⟨h1, Inv, h2, h3⟩ := h avs M K hC
    exact ⟨h1, fun n _ => Inv n, fun n J hJ _ _ M' ls st hI => h2 n J (fun n' M'' ls' st' hn hI' => hJ n' hn h0 List.mem_cons_self M'' ls' st' hI') M' ls st hI, fun J hJ => h3 J (fun n M' ls st hI => hJ n h0 List.mem_cons_self M' ls st hI)⟩
theorem zn_lt {a b : Nat} (ha : a < 2 ^ 31) (hb : b < 2 ^ 31) : (nI a < nI b) = (a < b) := propext (nI_ltI ha hb)
theorem zn_le {a b : Nat} (ha : a < 2 ^ 31) (hb : b < 2 ^ 31) : (nI a ≤ nI b) = (a ≤ b) := propext (nI_leI ha hb)
/-! Land.layOut -/
def zc_X1_layOut (a : List Value) (M : zMm) (K : zKt) : Prop := match a with
  | [.ref k, .int w, .int h] => k = 1 ∧ M.2.2.2 1 0 = some 2 ∧ ∀ M', zsm [1, 2] M M' → M'.2.1 1 1 = w → M'.2.1 1 2 = h → M'.2.1 1 3 = 0 → M'.2.1 1 4 = M.2.1 1 4 → M'.2.1 1 5 = M.2.1 1 5 → (∀ c, c < 120 → M'.2.1 2 c = 50) → K none M'
  | _ => False
theorem zm_X1_layOut (l : Launch) (D : va_G) (Y : Nat → ClassId) : zMt l D Y yX1_layOut cX1_layOut 4 none 0 0 0 0 zc_X1_layOut := by
  refine zwhile1 (h0 := 17) (by decide) (fun K J _ _ => zb_X1_layOut_0 K J) (fun K _ _ J => zb_X1_layOut_17 K J) (fun X hR J hJ => zbs_X1_layOut_0 hR J hJ) (fun X hR J hJ => zbs_X1_layOut_17 hR J hJ) (fun avs M K h => ?_)
  unfold zc_X1_layOut at h
  split at h
  · next k w h' =>
    obtain ⟨rfl, hr, h⟩ := h
    refine ⟨by simp [zent], fun n M' ls st => ∃ i, n = 120 - i ∧ i ≤ 120 ∧ ls = [some (.ref 1), some (.int w), some (.int h'), some (.int (nI i))] ∧ st = [] ∧ zsm [1, 2] M M' ∧ M'.2.1 1 1 = w ∧ M'.2.1 1 2 = h' ∧ M'.2.1 1 3 = 0 ∧ M'.2.1 1 4 = M.2.1 1 4 ∧ M'.2.1 1 5 = M.2.1 1 5 ∧ ∀ c, c < i → M'.2.1 2 c = 50, ?_, ?_⟩
    · rintro n J hJ M' ls st ⟨i, rfl, hi, rfl, rfl, hs, e1, e2, e3, e4, e5, hc⟩
      have hr' : M'.2.2.2 1 0 = some 2 := by rw [hs.R]; exact hr
      simp only [zb_X1_layOut_17, zsh_1, zsh_2, hr', zT_push, zT_bin, zT_div, zT_bil, zT_shl, zT_un, zT_i2l, zT_l2i, zT_lcmp, zT_ild, zT_lld, zT_ald, zT_ist, zT_lst, zT_ast, zT_iinc, zT_dup, zT_dup2, zT_pop, zT_if1, zT_if2, zT_ifn, zT_getI, zT_getJ, zT_getR, zT_putI, zT_putZ, zT_putJ, zT_putR, zT_ald0, zT_lald, zT_aald, zT_iast, zT_zast, zT_bast, zT_last, zT_aast, zT_iret, zT_nret, zT_aret, zT_vret, zT_oi, zT_mm, zT_ialX, zT_S1, zT_S2, zT_S3, zT_V0, zT_V1, zT_V2, zT_V3, zT_V4, zT_V5, zT_V6, zT_I0, zT_I1, zT_I2, zlg, zlset, zlpr, zent, zok, va_rf, List.length_cons, List.length_nil, List.replicate, List.cons_append, List.nil_append, List.append_nil, Option.toList_some, Option.toList_none, Option.toList, Nat.reduceAdd, Nat.reduceSub, Nat.reduceLeDiff, Nat.zero_add, Nat.zero_le, true_and, and_true, Nat.le_refl, ge_iff_le, Nat.reduceEqDiff]
      refine ⟨fun h1 => ?_, fun h1 => ?_⟩
      · have hi2 : i = 120 := by
          have := (nI_leI (a := 120) (b := i) (by decide) (by omega)).mp h1
          omega
        subst hi2
        exact h M' hs e1 e2 e3 e4 e5 hc
      · have hi2 : i < 120 := by
          rcases Nat.lt_or_ge i 120 with q | q
          · exact q
          · exact absurd (nI_le (a := 120) q (by omega)) h1
        refine ⟨vp_in_nI hi2 (by decide), hJ (120 - (i + 1)) _ _ _ (by omega) ⟨i + 1, rfl, hi2, by rw [nI_1], rfl, hs.w (by simp), ?_, ?_, ?_, ?_, ?_, ?_⟩⟩
        · simp only [zwI_L, zwI_I, zwI_J, zwI_R, zwJ_L, zwJ_I, zwJ_J, zwJ_R, zwR_L, zwR_I, zwR_J, zwR_R, zw2_s, zw2_n, ne_eq, not_false_eq_true, reduceCtorEq, not_true_eq_false, Nat.reduceEqDiff]; exact e1
        · simp only [zwI_L, zwI_I, zwI_J, zwI_R, zwJ_L, zwJ_I, zwJ_J, zwJ_R, zwR_L, zwR_I, zwR_J, zwR_R, zw2_s, zw2_n, ne_eq, not_false_eq_true, reduceCtorEq, not_true_eq_false, Nat.reduceEqDiff]; exact e2
        · simp only [zwI_L, zwI_I, zwI_J, zwI_R, zwJ_L, zwJ_I, zwJ_J, zwJ_R, zwR_L, zwR_I, zwR_J, zwR_R, zw2_s, zw2_n, ne_eq, not_false_eq_true, reduceCtorEq, not_true_eq_false, Nat.reduceEqDiff]; exact e3
        · simp only [zwI_L, zwI_I, zwI_J, zwI_R, zwJ_L, zwJ_I, zwJ_J, zwJ_R, zwR_L, zwR_I, zwR_J, zwR_R, zw2_s, zw2_n, ne_eq, not_false_eq_true, reduceCtorEq, not_true_eq_false, Nat.reduceEqDiff]; exact e4
        · simp only [zwI_L, zwI_I, zwI_J, zwI_R, zwJ_L, zwJ_I, zwJ_J, zwJ_R, zwR_L, zwR_I, zwR_J, zwR_R, zw2_s, zw2_n, ne_eq, not_false_eq_true, reduceCtorEq, not_true_eq_false, Nat.reduceEqDiff]; exact e5
        · intro c hcc
          rw [nI_clamp (by omega)]
          simp only [zwI_L, zwI_I, zwI_J, zwI_R, zwJ_L, zwJ_I, zwJ_J, zwJ_R, zwR_L, zwR_I, zwR_J, zwR_R, zw2_s, zw2_n, ne_eq, not_false_eq_true, reduceCtorEq, not_true_eq_false, Nat.reduceEqDiff, zup_at]
          split
          · rfl
          · exact hc c (by omega)
    · intro J hJ
      simp only [zb_X1_layOut_0, zsh_1, zT_push, zT_bin, zT_div, zT_bil, zT_shl, zT_un, zT_i2l, zT_l2i, zT_lcmp, zT_ild, zT_lld, zT_ald, zT_ist, zT_lst, zT_ast, zT_iinc, zT_dup, zT_dup2, zT_pop, zT_if1, zT_if2, zT_ifn, zT_getI, zT_getJ, zT_getR, zT_putI, zT_putZ, zT_putJ, zT_putR, zT_ald0, zT_lald, zT_aald, zT_iast, zT_zast, zT_bast, zT_last, zT_aast, zT_iret, zT_nret, zT_aret, zT_vret, zT_oi, zT_mm, zT_ialX, zT_S1, zT_S2, zT_S3, zT_V0, zT_V1, zT_V2, zT_V3, zT_V4, zT_V5, zT_V6, zT_I0, zT_I1, zT_I2, zlg, zlset, zlpr, zent, zok, va_rf, List.length_cons, List.length_nil, List.replicate, List.cons_append, List.nil_append, List.append_nil, Option.toList_some, Option.toList_none, Option.toList, Nat.reduceAdd, Nat.reduceSub, Nat.reduceLeDiff, Nat.zero_add, Nat.zero_le, true_and, and_true, Nat.le_refl, ge_iff_le, Nat.reduceEqDiff]
      refine hJ 120 _ _ _ ⟨0, rfl, by omega, rfl, rfl, ((zsm.rf.w (by simp)).w (by simp)).w (by simp), ?_, ?_, ?_, ?_, ?_, fun c hc => absurd hc (Nat.not_lt_zero _)⟩
      all_goals simp only [zwI_L, zwI_I, zwI_J, zwI_R, zwJ_L, zwJ_I, zwJ_J, zwJ_R, zwR_L, zwR_I, zwR_J, zwR_R, zw2_s, zw2_n, ne_eq, not_false_eq_true, reduceCtorEq, not_true_eq_false, Nat.reduceEqDiff, zup_at, Nat.reduceEqDiff, ↓reduceIte]
  · exact h.elim
