/-! DeltaRunsModel begin -/
theorem zd_X8_begin_0 : decode cX8_begin 0 = .ok (.iconst 0, 1) := by decide +kernel
theorem zd_X8_begin_1 : decode cX8_begin 1 = .ok (.istore_n 1, 1) := by decide +kernel
theorem zd_X8_begin_2 : decode cX8_begin 2 = .ok (.iload_n 1, 1) := by decide +kernel
theorem zd_X8_begin_3 : decode cX8_begin 3 = .ok (.aload_n 0, 1) := by decide +kernel
theorem zd_X8_begin_4 : decode cX8_begin 4 = .ok (.getfield 7, 3) := by decide +kernel
theorem zd_X8_begin_7 : decode cX8_begin 7 = .ok (.aload_n 0, 1) := by decide +kernel
theorem zd_X8_begin_8 : decode cX8_begin 8 = .ok (.getfield 13, 3) := by decide +kernel
theorem zd_X8_begin_11 : decode cX8_begin 11 = .ok (.imul, 1) := by decide +kernel
theorem zd_X8_begin_12 : decode cX8_begin 12 = .ok (.if_icmp .ge 35, 3) := by decide +kernel
theorem zd_X8_begin_15 : decode cX8_begin 15 = .ok (.aload_n 0, 1) := by decide +kernel
theorem zd_X8_begin_16 : decode cX8_begin 16 = .ok (.getfield 50, 3) := by decide +kernel
theorem zd_X8_begin_19 : decode cX8_begin 19 = .ok (.iload_n 1, 1) := by decide +kernel
theorem zd_X8_begin_20 : decode cX8_begin 20 = .ok (.aload_n 0, 1) := by decide +kernel
theorem zd_X8_begin_21 : decode cX8_begin 21 = .ok (.getfield 22, 3) := by decide +kernel
theorem zd_X8_begin_24 : decode cX8_begin 24 = .ok (.iload_n 1, 1) := by decide +kernel
theorem zd_X8_begin_25 : decode cX8_begin 25 = .ok (.iaload, 1) := by decide +kernel
theorem zd_X8_begin_26 : decode cX8_begin 26 = .ok (.iastore, 1) := by decide +kernel
theorem zd_X8_begin_27 : decode cX8_begin 27 = .ok (.aload_n 0, 1) := by decide +kernel
theorem zd_X8_begin_28 : decode cX8_begin 28 = .ok (.getfield 53, 3) := by decide +kernel
theorem zd_X8_begin_31 : decode cX8_begin 31 = .ok (.iload_n 1, 1) := by decide +kernel
theorem zd_X8_begin_32 : decode cX8_begin 32 = .ok (.iconst 0, 1) := by decide +kernel
theorem zd_X8_begin_33 : decode cX8_begin 33 = .ok (.bastore, 1) := by decide +kernel
theorem zd_X8_begin_34 : decode cX8_begin 34 = .ok (.aload_n 0, 1) := by decide +kernel
theorem zd_X8_begin_35 : decode cX8_begin 35 = .ok (.getfield 57, 3) := by decide +kernel
theorem zd_X8_begin_38 : decode cX8_begin 38 = .ok (.iload_n 1, 1) := by decide +kernel
theorem zd_X8_begin_39 : decode cX8_begin 39 = .ok (.iconst 0, 1) := by decide +kernel
theorem zd_X8_begin_40 : decode cX8_begin 40 = .ok (.iastore, 1) := by decide +kernel
theorem zd_X8_begin_41 : decode cX8_begin 41 = .ok (.iinc 1 1, 3) := by decide +kernel
theorem zd_X8_begin_44 : decode cX8_begin 44 = .ok (.goto (-42), 3) := by decide +kernel
theorem zd_X8_begin_47 : decode cX8_begin 47 = .ok (.return_, 1) := by decide +kernel
def zb_X8_begin_0 (K : zKt) (J : Nat → zPP) : zPP := zT_push (.int 0) (zT_ist 1 (J 2))
theorem zbs_X8_begin_0 {X : zCt} (hR : zRX X = { frames := 0, cells := 0, slots := 0, locals := 0 }) (J : Nat → zPP) (hJ : ∀ h ∈ ([2] : List Nat), zSd X RX8 "begin" cX8_begin 2 none h (J h)) : zSd X RX8 "begin" cX8_begin 2 none 0 (zb_X8_begin_0 (zKX X) J) := zs_iconst zd_X8_begin_0 (by decide) (zs_istore_n zd_X8_begin_1 rfl (by decide) (hJ 2 (by decide)))
def zb_X8_begin_2 (K : zKt) (J : Nat → zPP) : zPP := zT_ild 1 (zT_ald 0 (zT_getI 8 2 38 (zT_ald 0 (zT_getI 8 3 38 (zT_bin (fun x y => x * y) (zT_if2 (fun x y => y ≤ x) (zT_vret K) (zT_ald 0 (zT_getR 8 24 38 (zT_ild 1 (zT_ald 0 (zT_getR 8 7 38 (zT_ild 1 (zT_ald0 0 (zT_iast (zT_ald 0 (zT_getR 8 25 38 (zT_ild 1 (zT_push (.int 0) (zT_zast (zT_ald 0 (zT_getR 8 26 38 (zT_ild 1 (zT_push (.int 0) (zT_iast (zT_iinc 1 1 (J 2))))))))))))))))))))))))))
theorem zbs_X8_begin_2 {X : zCt} (hR : zRX X = { frames := 0, cells := 0, slots := 0, locals := 0 }) (J : Nat → zPP) (hJ : ∀ h ∈ ([2] : List Nat), zSd X RX8 "begin" cX8_begin 2 none h (J h)) : zSd X RX8 "begin" cX8_begin 2 none 2 (zb_X8_begin_2 (zKX X) J) := zs_iload_n zd_X8_begin_2 rfl (zs_aload_n zd_X8_begin_3 rfl (zs_getI (ci := 8) (j := 2) (T := TX8) rfl inX8 (by decide) gw_3_91 rfl zd_X8_begin_4 (zs_aload_n zd_X8_begin_7 rfl (zs_getI (ci := 8) (j := 3) (T := TX8) rfl inX8 (by decide) gw_3_92 rfl zd_X8_begin_8 (zs_imul zd_X8_begin_11 (zs_icmp_ge (tgt := 47) zd_X8_begin_12 (by decide) (zs_vret rfl zd_X8_begin_47) (zs_aload_n zd_X8_begin_15 rfl (zs_getR (ci := 8) (j := 24) (T := TX8) rfl inX8 (by decide) gw_3_113 rfl zd_X8_begin_16 (zs_iload_n zd_X8_begin_19 rfl (zs_aload_n zd_X8_begin_20 rfl (zs_getR (ci := 8) (j := 7) (T := TX8) rfl inX8 (by decide) gw_3_96 rfl zd_X8_begin_21 (zs_iload_n zd_X8_begin_24 rfl (zs_iald zd_X8_begin_25 (zs_iast zd_X8_begin_26 (zs_aload_n zd_X8_begin_27 rfl (zs_getR (ci := 8) (j := 25) (T := TX8) rfl inX8 (by decide) gw_3_114 rfl zd_X8_begin_28 (zs_iload_n zd_X8_begin_31 rfl (zs_iconst zd_X8_begin_32 (by decide) (zs_zast zd_X8_begin_33 (zs_aload_n zd_X8_begin_34 rfl (zs_getR (ci := 8) (j := 26) (T := TX8) rfl inX8 (by decide) gw_3_115 rfl zd_X8_begin_35 (zs_iload_n zd_X8_begin_38 rfl (zs_iconst zd_X8_begin_39 (by decide) (zs_iast zd_X8_begin_40 (zs_iinc zd_X8_begin_41 (by decide) (by decide) (zs_goto (tgt := 2) zd_X8_begin_44 (by decide) (hJ 2 (by decide))))))))))))))))))))))))))))
def zB_X8_begin (K : zKt) (J : Nat → zPP) (h : Nat) : zPP := if h = 2 then zb_X8_begin_2 K J else (fun _ _ _ => False)
theorem zBs_X8_begin {X : zCt} (hR : zRX X = { frames := 0, cells := 0, slots := 0, locals := 0 }) : ∀ J : Nat → zPP, (∀ h ∈ ([2] : List Nat), zSd X RX8 "begin" cX8_begin 2 none h (J h)) → ∀ h ∈ ([2] : List Nat), zSd X RX8 "begin" cX8_begin 2 none h (zB_X8_begin (zKX X) J h) := by
  intro J hJ h hh
  unfold zB_X8_begin
  simp only [List.mem_cons, List.not_mem_nil, or_false] at hh
  subst hh
  exact zbs_X8_begin_2 hR J hJ
theorem zdn_X8_begin : yX8_begin.cls ≠ "java/lang/invoke/MethodHandle" ∧ yX8_begin.cls ≠ "java/lang/invoke/VarHandle" ∧ (parseMethodDescriptor yX8_begin.desc).map (fun d => d.parameters.length) = some 0 := by decide +kernel
/-! the Model's heights, dykes, flows -/
def zmh (M : zMm) (w h : Nat) (H : Nat → Nat) : Prop := ∀ e, wil w h e → M.2.1 209 (mI w e) = nI (H e) ∧ H e ≤ 200
def zmd (M : zMm) (w h : Nat) (D : Nat → Bool) : Prop := ∀ e, wil w h e → M.2.1 210 (mI w e) = if D e = true then 1 else 0
def zmg (M : zMm) (w h : Nat) (G : Nat → Nat) : Prop := ∀ e, wil w h e → M.2.1 211 (mI w e) = nI (G e)
def zc_X8_begin (a : List Value) (M : zMm) (K : zKt) : Prop := match a with
  | [.ref k] => k = 200 ∧ zMr M ∧ ∃ σ, zMS M σ ∧ ∀ M', zsm [209, 210, 211] M M' → zmh M' (sW σ) (sH σ) (sG σ) → zmd M' (sW σ) (sH σ) (fun _ => false) → zmg M' (sW σ) (sH σ) (fun _ => 0) → K none M'
  | _ => False
set_option maxHeartbeats 1000000 in
theorem zm_X8_begin (l : Launch) (D : va_G) (Y : Nat → ClassId) : zMt l D Y yX8_begin cX8_begin 2 none 0 0 0 0 zc_X8_begin := by
  refine zwhile1 (h0 := 2) (by decide) (fun K J _ _ => zb_X8_begin_0 K J) (fun K _ _ J => zb_X8_begin_2 K J) (fun X hR J hJ => zbs_X8_begin_0 hR J hJ) (fun X hR J hJ => zbs_X8_begin_2 hR J hJ) (fun avs M K h => ?_)
  unfold zc_X8_begin at h
  split at h
  · obtain ⟨rfl, g1, σ, ⟨ok, w1, w2, w3, w4, w5, w6, w7⟩, h⟩ := h
    obtain ⟨k1, k2, k3, k4, k5, k6, k7, k8, k9⟩ := id ok
    have hwh : sW σ * sH σ ≤ 12 * 10 := Nat.mul_le_mul k2 k4
    obtain ⟨r7, -, -, -, -, -, -, -, r24, r25, r26, -⟩ := id g1
    refine ⟨by simp [zent], fun q M' ls st => ∃ i, q = 200 - i ∧ i ≤ sW σ * sH σ ∧ ls = [some (.ref 200), some (.int (nI i))] ∧ st = [] ∧ zsm [209, 210, 211] M M' ∧ (∀ e, e < i → M'.2.1 209 e = M.2.1 201 e ∧ M'.2.1 210 e = 0 ∧ M'.2.1 211 e = 0), ?_, ?_⟩
    · rintro q J hJ M' ls st ⟨i, rfl, hi, rfl, rfl, hs, hc⟩
      have e0 : M'.2.1 200 = M.2.1 200 := hs.at (by simp)
      have e1 : M'.2.1 201 = M.2.1 201 := hs.at (by simp)
      have eR := hs.R
      simp only [zb_X8_begin_2, zsh_200, zsh_201, zsh_209, zsh_210, zsh_211, eR, r7, r24, r25, r26, e0, e1, w1, w2, pk_mul, zwI_R, zT_push, zT_bin, zT_div, zT_bil, zT_shl, zT_un, zT_i2l, zT_l2i, zT_lcmp, zT_ild, zT_lld, zT_ald, zT_ist, zT_lst, zT_ast, zT_iinc, zT_dup, zT_dup2, zT_pop, zT_if1, zT_if2, zT_ifn, zT_getI, zT_getJ, zT_getR, zT_putI, zT_putZ, zT_putJ, zT_putR, zT_ald0, zT_lald, zT_aald, zT_iast, zT_zast, zT_bast, zT_last, zT_aast, zT_iret, zT_nret, zT_aret, zT_vret, zT_oi, zT_mm, zT_ialX, zT_S1, zT_S2, zT_S3, zT_V0, zT_V1, zT_V2, zT_V3, zT_V4, zT_V5, zT_V6, zT_I0, zT_I1, zT_I2, zlg, zlset, zlpr, zent, zok, va_rf, List.length_cons, List.length_nil, List.replicate, List.cons_append, List.nil_append, List.append_nil, Option.toList_some, Option.toList_none, Option.toList, Nat.reduceAdd, Nat.reduceSub, Nat.reduceLeDiff, Nat.zero_add, Nat.zero_le, true_and, and_true, Nat.le_refl, ge_iff_le, Nat.reduceEqDiff]
      refine ⟨fun h1 => ?_, fun h1 => ?_⟩
      · have := zn_ge' h1 (by omega) (by omega)
        have e : i = sW σ * sH σ := by omega
        subst e
        refine h M' hs (fun e he => ⟨?_, k9 e⟩) (fun e he => ?_) (fun e he => ?_)
        · rw [(hc _ (mI_lt k2 k4 he)).1]; exact w6 e he
        · rw [(hc _ (mI_lt k2 k4 he)).2.1]; rfl
        · rw [(hc _ (mI_lt k2 k4 he)).2.2]; rfl
      · have hlt := zn_ge h1 (by omega) (by omega)
        have hin : vp_in (nI i) 120 := vp_in_nI (by omega) (by decide)
        rw [nI_clamp (by omega)]
        refine ⟨hin, hin, hin, Or.inl trivial, hin, hJ (200 - (i + 1)) _ _ _ (by omega) ⟨i + 1, rfl, hlt, by rw [nI_1], rfl, ((hs.w (by simp)).w (by simp)).w (by simp), fun e he => ?_⟩⟩
        simp only [zwI_L, zwI_I, zwI_J, zwI_R, zwJ_L, zwJ_I, zwJ_J, zwJ_R, zwR_L, zwR_I, zwR_J, zwR_R, zw2_s, zw2_n, ne_eq, not_false_eq_true, reduceCtorEq, not_true_eq_false, Nat.reduceEqDiff]
        by_cases q : e = i
        · subst q; rw [zup_s, zup_s, zup_s]; exact ⟨rfl, rfl, rfl⟩
        · rw [zup_n q, zup_n q, zup_n q]; exact hc e (by omega)
    · intro J hJ
      simp only [zb_X8_begin_0, zT_push, zT_bin, zT_div, zT_bil, zT_shl, zT_un, zT_i2l, zT_l2i, zT_lcmp, zT_ild, zT_lld, zT_ald, zT_ist, zT_lst, zT_ast, zT_iinc, zT_dup, zT_dup2, zT_pop, zT_if1, zT_if2, zT_ifn, zT_getI, zT_getJ, zT_getR, zT_putI, zT_putZ, zT_putJ, zT_putR, zT_ald0, zT_lald, zT_aald, zT_iast, zT_zast, zT_bast, zT_last, zT_aast, zT_iret, zT_nret, zT_aret, zT_vret, zT_oi, zT_mm, zT_ialX, zT_S1, zT_S2, zT_S3, zT_V0, zT_V1, zT_V2, zT_V3, zT_V4, zT_V5, zT_V6, zT_I0, zT_I1, zT_I2, zlg, zlset, zlpr, zent, zok, va_rf, List.length_cons, List.length_nil, List.replicate, List.cons_append, List.nil_append, List.append_nil, Option.toList_some, Option.toList_none, Option.toList, Nat.reduceAdd, Nat.reduceSub, Nat.reduceLeDiff, Nat.zero_add, Nat.zero_le, true_and, and_true, Nat.le_refl, ge_iff_le, Nat.reduceEqDiff]
      exact hJ 200 _ _ _ ⟨0, rfl, by omega, rfl, rfl, zsm.rf, fun e he => absurd he (Nat.not_lt_zero _)⟩
  · exact h.elim
