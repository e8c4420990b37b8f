/-! DeltaRunsModel flat -/
theorem zd_X8_flat_0 : decode cX8_flat 0 = .ok (.iconst 0, 1) := by decide +kernel
theorem zd_X8_flat_1 : decode cX8_flat 1 = .ok (.istore_n 1, 1) := by decide +kernel
theorem zd_X8_flat_2 : decode cX8_flat 2 = .ok (.iload_n 1, 1) := by decide +kernel
theorem zd_X8_flat_3 : decode cX8_flat 3 = .ok (.bipush 120, 2) := by decide +kernel
theorem zd_X8_flat_5 : decode cX8_flat 5 = .ok (.if_icmp .ge 17, 3) := by decide +kernel
theorem zd_X8_flat_8 : decode cX8_flat 8 = .ok (.aload_n 0, 1) := by decide +kernel
theorem zd_X8_flat_9 : decode cX8_flat 9 = .ok (.getfield 22, 3) := by decide +kernel
theorem zd_X8_flat_12 : decode cX8_flat 12 = .ok (.iload_n 1, 1) := by decide +kernel
theorem zd_X8_flat_13 : decode cX8_flat 13 = .ok (.bipush 50, 2) := by decide +kernel
theorem zd_X8_flat_15 : decode cX8_flat 15 = .ok (.iastore, 1) := by decide +kernel
theorem zd_X8_flat_16 : decode cX8_flat 16 = .ok (.iinc 1 1, 3) := by decide +kernel
theorem zd_X8_flat_19 : decode cX8_flat 19 = .ok (.goto (-17), 3) := by decide +kernel
theorem zd_X8_flat_22 : decode cX8_flat 22 = .ok (.aload_n 0, 1) := by decide +kernel
theorem zd_X8_flat_23 : decode cX8_flat 23 = .ok (.iconst 0, 1) := by decide +kernel
theorem zd_X8_flat_24 : decode cX8_flat 24 = .ok (.putfield 99, 3) := by decide +kernel
theorem zd_X8_flat_27 : decode cX8_flat 27 = .ok (.aload_n 0, 1) := by decide +kernel
theorem zd_X8_flat_28 : decode cX8_flat 28 = .ok (.iconst 0, 1) := by decide +kernel
theorem zd_X8_flat_29 : decode cX8_flat 29 = .ok (.putfield 102, 3) := by decide +kernel
theorem zd_X8_flat_32 : decode cX8_flat 32 = .ok (.return_, 1) := by decide +kernel
def zb_X8_flat_0 (K : zKt) (J : Nat → zPP) : zPP := zT_push (.int 0) (zT_ist 1 (J 2))
theorem zbs_X8_flat_0 {X : zCt} (hR : zRX X = { frames := 0, cells := 0, slots := 0, locals := 0 }) (J : Nat → zPP) (hJ : ∀ h ∈ ([2] : List Nat), zSd X RX8 "flat" cX8_flat 2 none h (J h)) : zSd X RX8 "flat" cX8_flat 2 none 0 (zb_X8_flat_0 (zKX X) J) := zs_iconst zd_X8_flat_0 (by decide) (zs_istore_n zd_X8_flat_1 rfl (by decide) (hJ 2 (by decide)))
def zb_X8_flat_2 (K : zKt) (J : Nat → zPP) : zPP := zT_ild 1 (zT_push (.int 120) (zT_if2 (fun x y => y ≤ x) (zT_ald 0 (zT_push (.int 0) (zT_putI 8 5 38 (zT_ald 0 (zT_push (.int 0) (zT_putI 8 31 38 (zT_vret K))))))) (zT_ald 0 (zT_getR 8 7 38 (zT_ild 1 (zT_push (.int 50) (zT_iast (zT_iinc 1 1 (J 2)))))))))
theorem zbs_X8_flat_2 {X : zCt} (hR : zRX X = { frames := 0, cells := 0, slots := 0, locals := 0 }) (J : Nat → zPP) (hJ : ∀ h ∈ ([2] : List Nat), zSd X RX8 "flat" cX8_flat 2 none h (J h)) : zSd X RX8 "flat" cX8_flat 2 none 2 (zb_X8_flat_2 (zKX X) J) := zs_iload_n zd_X8_flat_2 rfl (zs_bipush zd_X8_flat_3 (by decide) (zs_icmp_ge (tgt := 22) zd_X8_flat_5 (by decide) (zs_aload_n zd_X8_flat_22 rfl (zs_iconst zd_X8_flat_23 (by decide) (zs_putI (ci := 8) (j := 5) (T := TX8) rfl inX8 tyX8_ok nmX8 (by decide) gw_3_94 rfl rfl rfl zd_X8_flat_24 (zs_aload_n zd_X8_flat_27 rfl (zs_iconst zd_X8_flat_28 (by decide) (zs_putI (ci := 8) (j := 31) (T := TX8) rfl inX8 tyX8_ok nmX8 (by decide) gw_3_120 rfl rfl rfl zd_X8_flat_29 (zs_vret rfl zd_X8_flat_32))))))) (zs_aload_n zd_X8_flat_8 rfl (zs_getR (ci := 8) (j := 7) (T := TX8) rfl inX8 (by decide) gw_3_96 rfl zd_X8_flat_9 (zs_iload_n zd_X8_flat_12 rfl (zs_bipush zd_X8_flat_13 (by decide) (zs_iast zd_X8_flat_15 (zs_iinc zd_X8_flat_16 (by decide) (by decide) (zs_goto (tgt := 2) zd_X8_flat_19 (by decide) (hJ 2 (by decide)))))))))))
def zB_X8_flat (K : zKt) (J : Nat → zPP) (h : Nat) : zPP := if h = 2 then zb_X8_flat_2 K J else (fun _ _ _ => False)
theorem zBs_X8_flat {X : zCt} (hR : zRX X = { frames := 0, cells := 0, slots := 0, locals := 0 }) : ∀ J : Nat → zPP, (∀ h ∈ ([2] : List Nat), zSd X RX8 "flat" cX8_flat 2 none h (J h)) → ∀ h ∈ ([2] : List Nat), zSd X RX8 "flat" cX8_flat 2 none h (zB_X8_flat (zKX X) J h) := by
  intro J hJ h hh
  unfold zB_X8_flat
  simp only [List.mem_cons, List.not_mem_nil, or_false] at hh
  subst hh
  exact zbs_X8_flat_2 hR J hJ
theorem zdn_X8_flat : yX8_flat.cls ≠ "java/lang/invoke/MethodHandle" ∧ yX8_flat.cls ≠ "java/lang/invoke/VarHandle" ∧ (parseMethodDescriptor yX8_flat.desc).map (fun d => d.parameters.length) = some 0 := by decide +kernel
/-! THE MODEL'S STATE, over the same full state -/
/-- the Model's place of the cell e of the 12-wide land -/
def mI (w e : Nat) : Nat := e / 12 * w + e % 12
theorem mI_lt {w h e : Nat} (hw : w ≤ 12) (hh : h ≤ 10) (he : wil w h e) : mI w e < w * h := by
  obtain ⟨h1, h2⟩ := he
  unfold mI
  have : e / 12 * w + w ≤ h * w := by
    have := Nat.mul_le_mul_right w (show e / 12 + 1 ≤ h by omega)
    rw [Nat.add_mul, Nat.one_mul] at this
    exact this
  rw [Nat.mul_comm w h]
  omega
theorem mI_120 {w h e : Nat} (hw : w ≤ 12) (hh : h ≤ 10) (he : wil w h e) : mI w e < 120 := by
  have h1 := mI_lt hw hh he
  have h2 : w * h ≤ 12 * 10 := Nat.mul_le_mul hw hh
  omega
theorem mI_dm {w e : Nat} (h1 : e % 12 < w) : mI w e / w = e / 12 ∧ mI w e % w = e % 12 := by
  unfold mI
  have hw : 0 < w := by omega
  refine ⟨?_, ?_⟩
  · rw [Nat.add_comm, Nat.add_mul_div_right _ _ hw, Nat.div_eq_of_lt h1, Nat.zero_add]
  · rw [Nat.add_comm, Nat.add_mul_mod_self_right, Nat.mod_eq_of_lt h1]
theorem mI_inj {w e e' : Nat} (h1 : e % 12 < w) (h2 : e' % 12 < w) (h : mI w e = mI w e') : e = e' := by
  have a := mI_dm h1
  have b := mI_dm h2
  rw [h] at a
  omega
/-- back -/
def mB (w c : Nat) : Nat := c / w * 12 + c % w
theorem mB_wil {w h c : Nat} (hw : 1 ≤ w) (hw2 : w ≤ 12) (hc : c < w * h) : wil w h (mB w c) ∧ mI w (mB w c) = c ∧ mB w c / 12 = c / w ∧ mB w c % 12 = c % w := by
  have h1 : c % w < w := Nat.mod_lt _ hw
  have h2 : c / w < h := Nat.div_lt_of_lt_mul hc
  have e1 : mB w c / 12 = c / w := by unfold mB; omega
  have e2 : mB w c % 12 = c % w := by unfold mB; omega
  refine ⟨⟨by rw [e2]; exact h1, by rw [e1]; exact h2⟩, ?_, e1, e2⟩
  unfold mI
  rw [e1, e2, Nat.mul_comm]
  exact Nat.div_add_mod c w
def zMr (M : zMm) : Prop := M.2.2.2 200 7 = some 201 ∧ M.2.2.2 200 9 = some 202 ∧ M.2.2.2 200 10 = some 203 ∧ M.2.2.2 200 11 = some 204 ∧ M.2.2.2 200 12 = some 205 ∧ M.2.2.2 200 13 = some 206 ∧ M.2.2.2 200 15 = some 207 ∧ M.2.2.2 200 16 = some 208 ∧ M.2.2.2 200 24 = some 209 ∧ M.2.2.2 200 25 = some 210 ∧ M.2.2.2 200 26 = some 211 ∧ M.2.2.2 200 27 = some 212 ∧ M.2.2.2 200 28 = some 213 ∧ M.2.2.2 200 29 = some 214 ∧ M.2.2.2 200 30 = some 215 ∧ M.2.2.2 200 32 = some 216 ∧ M.2.2.2 200 33 = some 217 ∧ M.2.2.2 200 34 = some 218 ∧ M.2.2.2 200 35 = some 219 ∧ M.2.2.2 200 36 = some 220 ∧ M.2.2.2 200 37 = some 221
/-- land, lake, spring, acts -/
def zMS (M : zMm) (σ : wSP) : Prop := wsok σ ∧ M.2.1 200 2 = nI (sW σ) ∧ M.2.1 200 3 = nI (sH σ) ∧ M.2.1 200 4 = nI (sL σ) ∧ M.2.1 200 5 = nI (mI (sW σ) (sS σ)) ∧ M.2.1 200 6 = nI (sF σ) ∧ (∀ e, wil (sW σ) (sH σ) e → M.2.1 201 (mI (sW σ) e) = nI (sG σ e)) ∧
  M.2.1 200 8 = nI (sA σ).length ∧ (sA σ).length ≤ 20 ∧ ∀ i a, (sA σ)[i]? = some a → wacok a ∧ M.2.1 202 i = nI (wak a) ∧ M.2.1 203 i = nI (way a) ∧ M.2.1 204 i = nI (wax a) ∧ M.2.1 205 i = nI (wao a) ∧ M.2.1 206 i = nI (wab a)
def zMT (M : zMm) (tp : List Nat) : Prop := M.2.1 200 17 = nI tp.length ∧ tp.length ≤ 300 ∧ ∀ i b, tp[i]? = some b → b < 256 ∧ M.2.1 208 i = nI b
def zME (M : zMm) (w h : Nat) (es : List wEn) : Prop := M.2.1 200 31 = nI es.length ∧ es.length ≤ 200 ∧ ∀ i e, es[i]? = some e → weok e ∧ wil w h (wec e) ∧ M.2.1 216 i = nI (wey e) ∧ M.2.1 217 i = nI (mI w (wec e)) ∧ M.2.1 218 i = nI (weh e) ∧ M.2.1 219 i = nI (wed e)
def zMF (M : zMm) (F : wFS) : Prop := zMr M ∧ zMS M F.1 ∧ zME M (sW F.1) (sH F.1) F.2.1 ∧ zMT M F.2.2.1 ∧ M.2.1 200 22 = F.2.2.2.1 ∧ M.2.1 200 1 = F.2.2.2.2
def zc_X8_flat (a : List Value) (M : zMm) (K : zKt) : Prop := match a with
  | [.ref k] => k = 200 ∧ M.2.2.2 200 7 = some 201 ∧ ∀ M', zsm [200, 201] M M' → M'.2.1 200 5 = 0 → M'.2.1 200 31 = 0 → (∀ j, j ≠ 5 → j ≠ 31 → M'.2.1 200 j = M.2.1 200 j) → (∀ e, e < 120 → M'.2.1 201 e = 50) → K none M'
  | _ => False
set_option maxHeartbeats 1000000 in
theorem zm_X8_flat (l : Launch) (D : va_G) (Y : Nat → ClassId) : zMt l D Y yX8_flat cX8_flat 2 none 0 0 0 0 zc_X8_flat := by
  refine zwhile1 (h0 := 2) (by decide) (fun K J _ _ => zb_X8_flat_0 K J) (fun K _ _ J => zb_X8_flat_2 K J) (fun X hR J hJ => zbs_X8_flat_0 hR J hJ) (fun X hR J hJ => zbs_X8_flat_2 hR J hJ) (fun avs M K h => ?_)
  unfold zc_X8_flat at h
  split at h
  · obtain ⟨rfl, hr, h⟩ := h
    refine ⟨by simp [zent], fun q M' ls st => ∃ i, q = 120 - i ∧ i ≤ 120 ∧ ls = [some (.ref 200), some (.int (nI i))] ∧ st = [] ∧ zsm [201] M M' ∧ (∀ e, e < i → M'.2.1 201 e = 50), ?_, ?_⟩
    · rintro q J hJ M' ls st ⟨i, rfl, hi, rfl, rfl, hs, hc⟩
      have hr' : M'.2.2.2 200 7 = some 201 := by rw [hs.R]; exact hr
      simp only [zb_X8_flat_2, zsh_200, zsh_201, hr', zT_push, zT_bin, zT_div, zT_bil, zT_shl, zT_un, zT_i2l, zT_l2i, zT_lcmp, zT_ild, zT_lld, zT_ald, zT_ist, zT_lst, zT_ast, zT_iinc, zT_dup, zT_dup2, zT_pop, zT_if1, zT_if2, zT_ifn, zT_getI, zT_getJ, zT_getR, zT_putI, zT_putZ, zT_putJ, zT_putR, zT_ald0, zT_lald, zT_aald, zT_iast, zT_zast, zT_bast, zT_last, zT_aast, zT_iret, zT_nret, zT_aret, zT_vret, zT_oi, zT_mm, zT_ialX, zT_S1, zT_S2, zT_S3, zT_V0, zT_V1, zT_V2, zT_V3, zT_V4, zT_V5, zT_V6, zT_I0, zT_I1, zT_I2, zlg, zlset, zlpr, zent, zok, va_rf, List.length_cons, List.length_nil, List.replicate, List.cons_append, List.nil_append, List.append_nil, Option.toList_some, Option.toList_none, Option.toList, Nat.reduceAdd, Nat.reduceSub, Nat.reduceLeDiff, Nat.zero_add, Nat.zero_le, true_and, and_true, Nat.le_refl, ge_iff_le, Nat.reduceEqDiff]
      refine ⟨fun h1 => ?_, fun h1 => ?_⟩
      · have := zn_ge' (b := 120) h1 (by omega) (by omega)
        have e : i = 120 := by omega
        subst e
        have e0 : M'.2.1 200 = M.2.1 200 := hs.at (by simp)
        refine h _ (((hs.up (by simp)).w (by simp)).w (by simp)) ?_ ?_ (fun j q1 q2 => ?_) (fun e he => ?_)
        · simp only [zwI_L, zwI_I, zwI_J, zwI_R, zwJ_L, zwJ_I, zwJ_J, zwJ_R, zwR_L, zwR_I, zwR_J, zwR_R, zw2_s, zw2_n, ne_eq, not_false_eq_true, reduceCtorEq, not_true_eq_false, Nat.reduceEqDiff]; rw [zup_n (by decide), zup_s]
        · simp only [zwI_L, zwI_I, zwI_J, zwI_R, zwJ_L, zwJ_I, zwJ_J, zwJ_R, zwR_L, zwR_I, zwR_J, zwR_R, zw2_s, zw2_n, ne_eq, not_false_eq_true, reduceCtorEq, not_true_eq_false, Nat.reduceEqDiff]; rw [zup_s]
        · simp only [zwI_L, zwI_I, zwI_J, zwI_R, zwJ_L, zwJ_I, zwJ_J, zwJ_R, zwR_L, zwR_I, zwR_J, zwR_R, zw2_s, zw2_n, ne_eq, not_false_eq_true, reduceCtorEq, not_true_eq_false, Nat.reduceEqDiff]; rw [zup_n q2, zup_n q1, e0]
        · simp only [zwI_L, zwI_I, zwI_J, zwI_R, zwJ_L, zwJ_I, zwJ_J, zwJ_R, zwR_L, zwR_I, zwR_J, zwR_R, zw2_s, zw2_n, ne_eq, not_false_eq_true, reduceCtorEq, not_true_eq_false, Nat.reduceEqDiff]; exact hc e he
      · have hlt := zn_ge (b := 120) h1 (by omega) (by omega)
        rw [nI_clamp (by omega)]
        refine ⟨vp_in_nI hlt (by decide), hJ (120 - (i + 1)) _ _ _ (by omega) ⟨i + 1, rfl, hlt, by rw [nI_1], rfl, hs.w (by simp), fun e he => ?_⟩⟩
        simp only [zwI_L, zwI_I, zwI_J, zwI_R, zwJ_L, zwJ_I, zwJ_J, zwJ_R, zwR_L, zwR_I, zwR_J, zwR_R, zw2_s, zw2_n, ne_eq, not_false_eq_true, reduceCtorEq, not_true_eq_false, Nat.reduceEqDiff]
        by_cases q : e = i
        · subst q; rw [zup_s]
        · rw [zup_n q]; exact hc e (by omega)
    · intro J hJ
      simp only [zb_X8_flat_0, zT_push, zT_bin, zT_div, zT_bil, zT_shl, zT_un, zT_i2l, zT_l2i, zT_lcmp, zT_ild, zT_lld, zT_ald, zT_ist, zT_lst, zT_ast, zT_iinc, zT_dup, zT_dup2, zT_pop, zT_if1, zT_if2, zT_ifn, zT_getI, zT_getJ, zT_getR, zT_putI, zT_putZ, zT_putJ, zT_putR, zT_ald0, zT_lald, zT_aald, zT_iast, zT_zast, zT_bast, zT_last, zT_aast, zT_iret, zT_nret, zT_aret, zT_vret, zT_oi, zT_mm, zT_ialX, zT_S1, zT_S2, zT_S3, zT_V0, zT_V1, zT_V2, zT_V3, zT_V4, zT_V5, zT_V6, zT_I0, zT_I1, zT_I2, zlg, zlset, zlpr, zent, zok, va_rf, List.length_cons, List.length_nil, List.replicate, List.cons_append, List.nil_append, List.append_nil, Option.toList_some, Option.toList_none, Option.toList, Nat.reduceAdd, Nat.reduceSub, Nat.reduceLeDiff, Nat.zero_add, Nat.zero_le, true_and, and_true, Nat.le_refl, ge_iff_le, Nat.reduceEqDiff]
      exact hJ 120 _ _ _ ⟨0, rfl, by omega, rfl, rfl, zsm.rf, fun e he => absurd he (Nat.not_lt_zero _)⟩
  · exact h.elim
