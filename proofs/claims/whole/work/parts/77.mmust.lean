/-! DeltaRunsModel must -/
theorem zd_X8_must_0 : decode cX8_must 0 = .ok (.aload_n 0, 1) := by decide +kernel
theorem zd_X8_must_1 : decode cX8_must 1 = .ok (.getfield 162, 3) := by decide +kernel
theorem zd_X8_must_4 : decode cX8_must 4 = .ok (.ifCond .ne 20, 3) := by decide +kernel
theorem zd_X8_must_7 : decode cX8_must 7 = .ok (.iload_n 1, 1) := by decide +kernel
theorem zd_X8_must_8 : decode cX8_must 8 = .ok (.ifCond .ne 16, 3) := by decide +kernel
theorem zd_X8_must_11 : decode cX8_must 11 = .ok (.aload_n 0, 1) := by decide +kernel
theorem zd_X8_must_12 : decode cX8_must 12 = .ok (.iconst 1, 1) := by decide +kernel
theorem zd_X8_must_13 : decode cX8_must 13 = .ok (.putfield 162, 3) := by decide +kernel
theorem zd_X8_must_16 : decode cX8_must 16 = .ok (.aload_n 0, 1) := by decide +kernel
theorem zd_X8_must_17 : decode cX8_must 17 = .ok (.aload_n 0, 1) := by decide +kernel
theorem zd_X8_must_18 : decode cX8_must 18 = .ok (.getfield 137, 3) := by decide +kernel
theorem zd_X8_must_21 : decode cX8_must 21 = .ok (.putfield 47, 3) := by decide +kernel
theorem zd_X8_must_24 : decode cX8_must 24 = .ok (.aload_n 0, 1) := by decide +kernel
theorem zd_X8_must_25 : decode cX8_must 25 = .ok (.getfield 162, 3) := by decide +kernel
theorem zd_X8_must_28 : decode cX8_must 28 = .ok (.ifCond .ne 7, 3) := by decide +kernel
theorem zd_X8_must_31 : decode cX8_must 31 = .ok (.aload_n 0, 1) := by decide +kernel
theorem zd_X8_must_32 : decode cX8_must 32 = .ok (.invokevirtual 166, 3) := by decide +kernel
theorem zd_X8_must_35 : decode cX8_must 35 = .ok (.return_, 1) := by decide +kernel
def zb_X8_must_35 (K : zKt) (J : Nat → zPP) : zPP := zT_vret K
theorem zbs_X8_must_35 {X : zCt} (hR : zRX X = { frames := 2, cells := 0, slots := 0, locals := 40 }) (J : Nat → zPP) (hJ : ∀ h ∈ ([] : List Nat), zSd X RX8 "must" cX8_must 2 none h (J h)) : zSd X RX8 "must" cX8_must 2 none 35 (zb_X8_must_35 (zKX X) J) := zs_vret rfl zd_X8_must_35
def zb_X8_must_24 (K : zKt) (J : Nat → zPP) : zPP := zT_ald 0 (zT_getI 8 23 38 (zT_if1 (fun x => x = 0) (zT_ald 0 (zT_V0 zok 8 38 zc_X8_next (zb_X8_must_35 K J))) (zb_X8_must_35 K J)))
theorem zbs_X8_must_24 {X : zCt} (hR : zRX X = { frames := 2, cells := 0, slots := 0, locals := 40 }) (J : Nat → zPP) (hJ : ∀ h ∈ ([] : List Nat), zSd X RX8 "must" cX8_must 2 none h (J h)) : zSd X RX8 "must" cX8_must 2 none 24 (zb_X8_must_24 (zKX X) J) := zs_aload_n zd_X8_must_24 rfl (zs_getI (ci := 8) (j := 23) (T := TX8) rfl inX8 (by decide) gw_3_112 rfl zd_X8_must_25 (zs_if_ne (tgt := 35) zd_X8_must_28 (by decide) (zbs_X8_must_35 hR J hJ) (zs_aload_n zd_X8_must_31 rfl (zs_V (ci := 8) rfl rfl (zm_X8_next _ _ _) gw_4_15 gw_4_12 gw_4_14 gw_0_26 gw_1_7 zdn_X8_next (zrm hR (by decide) (by decide)) zd_X8_must_32 (zCl_V0 zok_l) (zbs_X8_must_35 hR J hJ)))))
def zb_X8_must_0 (K : zKt) (J : Nat → zPP) : zPP := zT_ald 0 (zT_getI 8 23 38 (zT_if1 (fun x => x = 0) (zT_ild 1 (zT_if1 (fun x => x = 0) (zT_ald 0 (zT_push (.int 1) (zT_putZ 8 23 38 (zT_ald 0 (zT_ald 0 (zT_getI 8 18 38 (zT_putI 8 22 38 (zb_X8_must_24 K J)))))))) (zb_X8_must_24 K J))) (zb_X8_must_24 K J)))
theorem zbs_X8_must_0 {X : zCt} (hR : zRX X = { frames := 2, cells := 0, slots := 0, locals := 40 }) (J : Nat → zPP) (hJ : ∀ h ∈ ([] : List Nat), zSd X RX8 "must" cX8_must 2 none h (J h)) : zSd X RX8 "must" cX8_must 2 none 0 (zb_X8_must_0 (zKX X) J) := zs_aload_n zd_X8_must_0 rfl (zs_getI (ci := 8) (j := 23) (T := TX8) rfl inX8 (by decide) gw_3_112 rfl zd_X8_must_1 (zs_if_ne (tgt := 24) zd_X8_must_4 (by decide) (zbs_X8_must_24 hR J hJ) (zs_iload_n zd_X8_must_7 rfl (zs_if_ne (tgt := 24) zd_X8_must_8 (by decide) (zbs_X8_must_24 hR J hJ) (zs_aload_n zd_X8_must_11 rfl (zs_iconst zd_X8_must_12 (by decide) (zs_putZ (ci := 8) (j := 23) (T := TX8) rfl inX8 tyX8_ok nmX8 (by decide) gw_3_112 rfl rfl rfl zd_X8_must_13 (zs_aload_n zd_X8_must_16 rfl (zs_aload_n zd_X8_must_17 rfl (zs_getI (ci := 8) (j := 18) (T := TX8) rfl inX8 (by decide) gw_3_107 rfl zd_X8_must_18 (zs_putI (ci := 8) (j := 22) (T := TX8) rfl inX8 tyX8_ok nmX8 (by decide) gw_3_111 rfl rfl rfl zd_X8_must_21 (zbs_X8_must_24 hR J hJ))))))))))))
theorem zdn_X8_must : yX8_must.cls ≠ "java/lang/invoke/MethodHandle" ∧ yX8_must.cls ≠ "java/lang/invoke/VarHandle" ∧ (parseMethodDescriptor yX8_must.desc).map (fun d => d.parameters.length) = some 1 := by decide +kernel
/-- from, to, sort, worth, fault and bad may have changed -/
def mch (M M' : zMm) : Prop := M'.1 = M.1 ∧ M'.2.2.2 = M.2.2.2 ∧ (∀ k, k ≠ 200 → M'.2.1 k = M.2.1 k) ∧ ∀ j, j < 18 ∨ 23 < j → M'.2.1 200 j = M.2.1 200 j
theorem mch.rf {M : zMm} : mch M M := ⟨rfl, rfl, fun _ _ => rfl, fun _ _ => rfl⟩
theorem mch.tr {M M' M'' : zMm} (h : mch M M') (h' : mch M' M'') : mch M M'' := ⟨h'.1.trans h.1, h'.2.1.trans h.2.1, fun k hk => (h'.2.2.1 k hk).trans (h.2.2.1 k hk), fun j hj => (h'.2.2.2 j hj).trans (h.2.2.2 j hj)⟩
theorem mch.w {M M' : zMm} (h : mch M M') {j : Nat} {x : Int32} (hj : 18 ≤ j ∧ j ≤ 23) : mch M (zwI M' 200 j x) := ⟨h.1, h.2.1, fun k hk => (zw2_n hk).trans (h.2.2.1 k hk), fun i hi => by
  simp only [zwI_L, zwI_I, zwI_J, zwI_R, zwJ_L, zwJ_I, zwJ_J, zwJ_R, zwR_L, zwR_I, zwR_J, zwR_R, zw2_s, zw2_n, ne_eq, not_false_eq_true, reduceCtorEq, not_true_eq_false, Nat.reduceEqDiff]
  rw [zup_n (by omega)]
  exact h.2.2.2 i hi⟩
theorem mcn.ch {M M' : zMm} (h : mcn M M') : mch M M' := ⟨h.1, h.2.1, h.2.2.1, fun j hj => h.2.2.2 j (by omega)⟩
theorem mch.T {M M' : zMm} (h : mch M M') {tp : List Nat} (hT : zMT M tp) : zMT M' tp := by
  unfold zMT
  rw [h.2.2.2 17 (by omega), h.2.2.1 208 (by decide)]
  exact hT
theorem mch.R {M M' : zMm} (h : mch M M') : M'.2.2.2 = M.2.2.2 := h.2.1
def mPs (M : zMm) (tp : List Nat) : Nat ⊕ Nat → Prop
  | .inl f => M.2.1 200 23 = 1 ∧ M.2.1 200 22 = nI f
  | .inr a => M.2.1 200 23 = 0 ∧ M.2.1 200 22 = -1 ∧ a ≤ tp.length ∧ mTk M tp a
def mmu (tp : List Nat) (s : Nat ⊕ Nat) (x : Int32) : Nat ⊕ Nat := match s with
  | .inl f => .inl f
  | .inr a => if x = 0 then .inl a else .inr (wno tp a)
theorem mmu_0 {tp : List Nat} {a : Nat} {x : Int32} (h : x = 0) : mmu tp (.inr a) x = .inl a := if_pos h
theorem mmu_1 {tp : List Nat} {a : Nat} {x : Int32} (h : ¬ x = 0) : mmu tp (.inr a) x = .inr (wno tp a) := if_neg h
def zc_X8_must (a : List Value) (M : zMm) (K : zKt) : Prop := match a with
  | [.ref k, .int x] => k = 200 ∧ M.2.2.2 200 16 = some 208 ∧ ∃ tp s, zMT M tp ∧ mPs M tp s ∧ ∀ M', mch M M' → mPs M' tp (mmu tp s x) → K none M'
  | _ => False
set_option maxHeartbeats 1000000 in
theorem zm_X8_must (l : Launch) (D : va_G) (Y : Nat → ClassId) : zMt l D Y yX8_must cX8_must 2 none 2 40 0 0 zc_X8_must := by
  refine zflat (by decide) (fun K J _ _ => zb_X8_must_0 K J) (fun X hR => zbs_X8_must_0 hR zJ0 zJ0_ok) (fun avs M K h => ?_)
  unfold zc_X8_must at h
  split at h
  · next k x =>
    obtain ⟨rfl, r16, tp, s, hT, hP, h⟩ := h
    refine ⟨by simp [zent], ?_⟩
    rcases s with f | a
    · obtain ⟨p1, p2⟩ := id hP
      simp only [zb_X8_must_0, zb_X8_must_24, zb_X8_must_35, zsh_200, p1, zT_push, zT_bin, zT_div, zT_bil, zT_shl, zT_un, zT_i2l, zT_l2i, zT_lcmp, zT_ild, zT_lld, zT_ald, zT_ist, zT_lst, zT_ast, zT_iinc, zT_dup, zT_dup2, zT_pop, zT_if1, zT_if2, zT_ifn, zT_getI, zT_getJ, zT_getR, zT_putI, zT_putZ, zT_putJ, zT_putR, zT_ald0, zT_lald, zT_aald, zT_iast, zT_zast, zT_bast, zT_last, zT_aast, zT_iret, zT_nret, zT_aret, zT_vret, zT_oi, zT_mm, zT_ialX, zT_S1, zT_S2, zT_S3, zT_V0, zT_V1, zT_V2, zT_V3, zT_V4, zT_V5, zT_V6, zT_I0, zT_I1, zT_I2, zlg, zlset, zlpr, zent, zok, va_rf, List.length_cons, List.length_nil, List.replicate, List.cons_append, List.nil_append, List.append_nil, Option.toList_some, Option.toList_none, Option.toList, Nat.reduceAdd, Nat.reduceSub, Nat.reduceLeDiff, Nat.zero_add, Nat.zero_le, true_and, and_true, Nat.le_refl, ge_iff_le, Nat.reduceEqDiff]
      exact ⟨fun z => absurd z (by decide), fun _ => ⟨fun z => absurd z (by decide), fun _ => h M mch.rf hP⟩⟩
    · obtain ⟨p1, p2, p3, q1, q2, q3, q4⟩ := id hP
      simp only [zb_X8_must_0, zb_X8_must_24, zb_X8_must_35, zsh_200, p1, q1, zwI_L, zwI_I, zwI_J, zwI_R, zwJ_L, zwJ_I, zwJ_J, zwJ_R, zwR_L, zwR_I, zwR_J, zwR_R, zw2_s, zw2_n, ne_eq, not_false_eq_true, reduceCtorEq, not_true_eq_false, Nat.reduceEqDiff, zup_s, zup_n, zT_push, zT_bin, zT_div, zT_bil, zT_shl, zT_un, zT_i2l, zT_l2i, zT_lcmp, zT_ild, zT_lld, zT_ald, zT_ist, zT_lst, zT_ast, zT_iinc, zT_dup, zT_dup2, zT_pop, zT_if1, zT_if2, zT_ifn, zT_getI, zT_getJ, zT_getR, zT_putI, zT_putZ, zT_putJ, zT_putR, zT_ald0, zT_lald, zT_aald, zT_iast, zT_zast, zT_bast, zT_last, zT_aast, zT_iret, zT_nret, zT_aret, zT_vret, zT_oi, zT_mm, zT_ialX, zT_S1, zT_S2, zT_S3, zT_V0, zT_V1, zT_V2, zT_V3, zT_V4, zT_V5, zT_V6, zT_I0, zT_I1, zT_I2, zlg, zlset, zlpr, zent, zok, va_rf, List.length_cons, List.length_nil, List.replicate, List.cons_append, List.nil_append, List.append_nil, Option.toList_some, Option.toList_none, Option.toList, Nat.reduceAdd, Nat.reduceSub, Nat.reduceLeDiff, Nat.zero_add, Nat.zero_le, true_and, and_true, Nat.le_refl, ge_iff_le, Nat.reduceEqDiff]
      refine ⟨fun _ => ⟨fun h1 => ⟨Or.inr trivial, fun z => absurd z (by decide), fun _ => ?_⟩, fun h1 => ?_⟩, fun z => z.elim⟩
      · refine h _ ((mch.rf.w (by omega)).w (by omega)) ?_
        rw [mmu_0 h1]
        refine ⟨?_, ?_⟩
        · simp only [zwI_L, zwI_I, zwI_J, zwI_R, zwJ_L, zwJ_I, zwJ_J, zwJ_R, zwR_L, zwR_I, zwR_J, zwR_R, zw2_s, zw2_n, ne_eq, not_false_eq_true, reduceCtorEq, not_true_eq_false, Nat.reduceEqDiff, zup_s, zup_n]
        · simp only [zwI_L, zwI_I, zwI_J, zwI_R, zwJ_L, zwJ_I, zwJ_J, zwJ_R, zwR_L, zwR_I, zwR_J, zwR_R, zw2_s, zw2_n, ne_eq, not_false_eq_true, reduceCtorEq, not_true_eq_false, Nat.reduceEqDiff, zup_s, zup_n]
      · unfold zc_X8_next
        dsimp only
        refine ⟨fun _ => ⟨rfl, r16, tp, wte tp a, hT, q2, (wte_bd p3).2.1, fun M' hs hk => ?_⟩, fun z => z.elim⟩
        try simp only [zT_push, zT_bin, zT_div, zT_bil, zT_shl, zT_un, zT_i2l, zT_l2i, zT_lcmp, zT_ild, zT_lld, zT_ald, zT_ist, zT_lst, zT_ast, zT_iinc, zT_dup, zT_dup2, zT_pop, zT_if1, zT_if2, zT_ifn, zT_getI, zT_getJ, zT_getR, zT_putI, zT_putZ, zT_putJ, zT_putR, zT_ald0, zT_lald, zT_aald, zT_iast, zT_zast, zT_bast, zT_last, zT_aast, zT_iret, zT_nret, zT_aret, zT_vret, zT_oi, zT_mm, zT_ialX, zT_S1, zT_S2, zT_S3, zT_V0, zT_V1, zT_V2, zT_V3, zT_V4, zT_V5, zT_V6, zT_I0, zT_I1, zT_I2, zlg, zlset, zlpr, zent, zok, va_rf, List.length_cons, List.length_nil, List.replicate, List.cons_append, List.nil_append, List.append_nil, Option.toList_some, Option.toList_none, Option.toList, Nat.reduceAdd, Nat.reduceSub, Nat.reduceLeDiff, Nat.zero_add, Nat.zero_le, true_and, and_true, Nat.le_refl, ge_iff_le, Nat.reduceEqDiff]
        refine h M' hs.ch ?_
        rw [mmu_1 h1]
        exact ⟨by rw [hs.2.2.2 23 (by omega)]; exact p1, by rw [hs.2.2.2 22 (by omega)]; exact p2, wno_bd p3, hk⟩
  · exact h.elim
/-! DeltaRunsModel number -/
theorem zd_X8_number_0 : decode cX8_number 0 = .ok (.aload_n 0, 1) := by decide +kernel
theorem zd_X8_number_1 : decode cX8_number 1 = .ok (.getfield 140, 3) := by decide +kernel
theorem zd_X8_number_4 : decode cX8_number 4 = .ok (.l2i, 1) := by decide +kernel
theorem zd_X8_number_5 : decode cX8_number 5 = .ok (.istore 5, 2) := by decide +kernel
theorem zd_X8_number_7 : decode cX8_number 7 = .ok (.aload_n 0, 1) := by decide +kernel
theorem zd_X8_number_8 : decode cX8_number 8 = .ok (.aload_n 0, 1) := by decide +kernel
theorem zd_X8_number_9 : decode cX8_number 9 = .ok (.getfield 151, 3) := by decide +kernel
theorem zd_X8_number_12 : decode cX8_number 12 = .ok (.iconst 2, 1) := by decide +kernel
theorem zd_X8_number_13 : decode cX8_number 13 = .ok (.if_icmp .ne 19, 3) := by decide +kernel
theorem zd_X8_number_16 : decode cX8_number 16 = .ok (.aload_n 0, 1) := by decide +kernel
theorem zd_X8_number_17 : decode cX8_number 17 = .ok (.getfield 140, 3) := by decide +kernel
theorem zd_X8_number_20 : decode cX8_number 20 = .ok (.lload_n 1, 1) := by decide +kernel
theorem zd_X8_number_21 : decode cX8_number 21 = .ok (.lload_n 3, 1) := by decide +kernel
theorem zd_X8_number_22 : decode cX8_number 22 = .ok (.invokestatic 105, 3) := by decide +kernel
theorem zd_X8_number_25 : decode cX8_number 25 = .ok (.ifCond .eq 7, 3) := by decide +kernel
theorem zd_X8_number_28 : decode cX8_number 28 = .ok (.iconst 1, 1) := by decide +kernel
theorem zd_X8_number_29 : decode cX8_number 29 = .ok (.goto 4, 3) := by decide +kernel
theorem zd_X8_number_32 : decode cX8_number 32 = .ok (.iconst 0, 1) := by decide +kernel
theorem zd_X8_number_33 : decode cX8_number 33 = .ok (.invokevirtual 169, 3) := by decide +kernel
theorem zd_X8_number_36 : decode cX8_number 36 = .ok (.iload 5, 2) := by decide +kernel
theorem zd_X8_number_38 : decode cX8_number 38 = .ok (.ireturn, 1) := by decide +kernel
def zb_X8_number_33 (K : zKt) (J : Nat → zPP) : zPP := zT_V1 zok 8 38 zc_X8_must (zT_ild 5 (zT_iret K))
theorem zbs_X8_number_33 {X : zCt} (hR : zRX X = { frames := 3, cells := 0, slots := 0, locals := 61 }) (J : Nat → zPP) (hJ : ∀ h ∈ ([] : List Nat), zSd X RX8 "number" cX8_number 6 (some .int) h (J h)) : zSd X RX8 "number" cX8_number 6 (some .int) 33 (zb_X8_number_33 (zKX X) J) := zs_V (ci := 8) rfl rfl (zm_X8_must _ _ _) gw_4_37 gw_4_34 gw_4_36 gw_0_29 gw_1_7 zdn_X8_must (zrm hR (by decide) (by decide)) zd_X8_number_33 (zCl_V1 zok_l) (zs_iload zd_X8_number_36 (zs_iret rfl zd_X8_number_38))
def zb_X8_number_32 (K : zKt) (J : Nat → zPP) : zPP := zT_push (.int 0) (zb_X8_number_33 K J)
theorem zbs_X8_number_32 {X : zCt} (hR : zRX X = { frames := 3, cells := 0, slots := 0, locals := 61 }) (J : Nat → zPP) (hJ : ∀ h ∈ ([] : List Nat), zSd X RX8 "number" cX8_number 6 (some .int) h (J h)) : zSd X RX8 "number" cX8_number 6 (some .int) 32 (zb_X8_number_32 (zKX X) J) := zs_iconst zd_X8_number_32 (by decide) (zbs_X8_number_33 hR J hJ)
def zb_X8_number_0 (K : zKt) (J : Nat → zPP) : zPP := zT_ald 0 (zT_getJ 8 21 38 (zT_l2i (zT_ist 5 (zT_ald 0 (zT_ald 0 (zT_getI 8 20 38 (zT_push (.int 2) (zT_if2 (fun x y => x = y) (zT_ald 0 (zT_getJ 8 21 38 (zT_lld 1 (zT_lld 3 (zT_S3 zok zc_X8_in (zT_if1 (fun x => x = 0) (zb_X8_number_32 K J) (zT_push (.int 1) (zb_X8_number_33 K J)))))))) (zb_X8_number_32 K J)))))))))
theorem zbs_X8_number_0 {X : zCt} (hR : zRX X = { frames := 3, cells := 0, slots := 0, locals := 61 }) (J : Nat → zPP) (hJ : ∀ h ∈ ([] : List Nat), zSd X RX8 "number" cX8_number 6 (some .int) h (J h)) : zSd X RX8 "number" cX8_number 6 (some .int) 0 (zb_X8_number_0 (zKX X) J) := zs_aload_n zd_X8_number_0 rfl (zs_getJ (ci := 8) (j := 21) (T := TX8) rfl inX8 (by decide) gw_3_110 rfl zd_X8_number_1 (zs_l2i zd_X8_number_4 (zs_istore zd_X8_number_5 (by decide) (zs_aload_n zd_X8_number_7 rfl (zs_aload_n zd_X8_number_8 rfl (zs_getI (ci := 8) (j := 20) (T := TX8) rfl inX8 (by decide) gw_3_109 rfl zd_X8_number_9 (zs_iconst zd_X8_number_12 (by decide) (zs_icmp_ne (tgt := 32) zd_X8_number_13 (by decide) (zbs_X8_number_32 hR J hJ) (zs_aload_n zd_X8_number_16 rfl (zs_getJ (ci := 8) (j := 21) (T := TX8) rfl inX8 (by decide) gw_3_110 rfl zd_X8_number_17 (zs_lload_n zd_X8_number_20 rfl (zs_lload_n zd_X8_number_21 rfl (zs_S (zm_X8_in _ _ _) gw_3_212 gw_3_210 gw_3_211 gw_1_7 zdn_X8_in (zrm hR (by decide) (by decide)) zd_X8_number_22 (zCl_S3 zok_l) (zs_if_eq (tgt := 32) zd_X8_number_25 (by decide) (zbs_X8_number_32 hR J hJ) (zs_iconst zd_X8_number_28 (by decide) (zs_goto (tgt := 33) zd_X8_number_29 (by decide) (zbs_X8_number_33 hR J hJ)))))))))))))))))
theorem zdn_X8_number : yX8_number.cls ≠ "java/lang/invoke/MethodHandle" ∧ yX8_number.cls ≠ "java/lang/invoke/VarHandle" ∧ (parseMethodDescriptor yX8_number.desc).map (fun d => d.parameters.length) = some 2 := by decide +kernel
def mnu (tp : List Nat) (s : Nat ⊕ Nat) (lo hi : Nat) : Nat ⊕ Nat := match s with
  | .inl f => .inl f
  | .inr a => if wnm tp a lo hi = true then .inr (wno tp a) else .inl a
theorem mnu_1 {tp : List Nat} {a lo hi : Nat} (h : wnm tp a lo hi = true) : mnu tp (.inr a) lo hi = .inr (wno tp a) := if_pos h
theorem mnu_0 {tp : List Nat} {a lo hi : Nat} (h : ¬ wnm tp a lo hi = true) : mnu tp (.inr a) lo hi = .inl a := if_neg h
def zc_X8_number (a : List Value) (M : zMm) (K : zKt) : Prop := match a with
  | [.ref k, .long x, .long y] => k = 200 ∧ M.2.2.2 200 16 = some 208 ∧ ∃ tp s lo hi, zMT M tp ∧ mPs M tp s ∧ x = lN lo ∧ y = lN hi ∧ lo ≤ 1000 ∧ hi ≤ 1000 ∧ ∀ M' v, mch M M' → mPs M' tp (mnu tp s lo hi) → (∀ a, s = .inr a → wnm tp a lo hi = true → v = nI (wnv tp a)) → K (some (.int v)) M'
  | _ => False
set_option maxHeartbeats 1000000 in
theorem zm_X8_number (l : Launch) (D : va_G) (Y : Nat → ClassId) : zMt l D Y yX8_number cX8_number 6 (some .int) 3 61 0 0 zc_X8_number := by
  refine zflat (by decide) (fun K J _ _ => zb_X8_number_0 K J) (fun X hR => zbs_X8_number_0 hR zJ0 zJ0_ok) (fun avs M K h => ?_)
  unfold zc_X8_number at h
  split at h
  · next k x y =>
    obtain ⟨rfl, r16, tp, s, lo, hi, hT, hP, rfl, rfl, hlo, hhi, h⟩ := h
    refine ⟨by simp [zent], ?_⟩
    have S33 : ∀ v : Int32, (∀ a, s = .inr a → (v = 0 ↔ ¬ wnm tp a lo hi = true)) → (v = 0 ∨ v = 1) → zb_X8_number_33 K zJ0 M [some (.ref 200), some (.long (lN lo)), none, some (.long (lN hi)), none, some (.int (M.2.2.1 200 21).toInt32)] [.int v, .ref 200] := by
      intro v hv _
      simp only [zb_X8_number_33, zsh_200, zT_push, zT_bin, zT_div, zT_bil, zT_shl, zT_un, zT_i2l, zT_l2i, zT_lcmp, zT_ild, zT_lld, zT_ald, zT_ist, zT_lst, zT_ast, zT_iinc, zT_dup, zT_dup2, zT_pop, zT_if1, zT_if2, zT_ifn, zT_getI, zT_getJ, zT_getR, zT_putI, zT_putZ, zT_putJ, zT_putR, zT_ald0, zT_lald, zT_aald, zT_iast, zT_zast, zT_bast, zT_last, zT_aast, zT_iret, zT_nret, zT_aret, zT_vret, zT_oi, zT_mm, zT_ialX, zT_S1, zT_S2, zT_S3, zT_V0, zT_V1, zT_V2, zT_V3, zT_V4, zT_V5, zT_V6, zT_I0, zT_I1, zT_I2, zlg, zlset, zlpr, zent, zok, va_rf, List.length_cons, List.length_nil, List.replicate, List.cons_append, List.nil_append, List.append_nil, Option.toList_some, Option.toList_none, Option.toList, Nat.reduceAdd, Nat.reduceSub, Nat.reduceLeDiff, Nat.zero_add, Nat.zero_le, true_and, and_true, Nat.le_refl, ge_iff_le, Nat.reduceEqDiff]
      unfold zc_X8_must
      dsimp only
      refine ⟨rfl, r16, tp, s, hT, hP, fun M' hs hP' => ?_⟩
      try simp only [zT_push, zT_bin, zT_div, zT_bil, zT_shl, zT_un, zT_i2l, zT_l2i, zT_lcmp, zT_ild, zT_lld, zT_ald, zT_ist, zT_lst, zT_ast, zT_iinc, zT_dup, zT_dup2, zT_pop, zT_if1, zT_if2, zT_ifn, zT_getI, zT_getJ, zT_getR, zT_putI, zT_putZ, zT_putJ, zT_putR, zT_ald0, zT_lald, zT_aald, zT_iast, zT_zast, zT_bast, zT_last, zT_aast, zT_iret, zT_nret, zT_aret, zT_vret, zT_oi, zT_mm, zT_ialX, zT_S1, zT_S2, zT_S3, zT_V0, zT_V1, zT_V2, zT_V3, zT_V4, zT_V5, zT_V6, zT_I0, zT_I1, zT_I2, zlg, zlset, zlpr, zent, zok, va_rf, List.length_cons, List.length_nil, List.replicate, List.cons_append, List.nil_append, List.append_nil, Option.toList_some, Option.toList_none, Option.toList, Nat.reduceAdd, Nat.reduceSub, Nat.reduceLeDiff, Nat.zero_add, Nat.zero_le, true_and, and_true, Nat.le_refl, ge_iff_le, Nat.reduceEqDiff]
      refine h M' _ hs ?_ (fun a ha hw => ?_)
      · rcases s with f | a
        · exact hP'
        · by_cases q : wnm tp a lo hi = true
          · rw [mmu_1 (fun z => (hv a rfl).mp z q)] at hP'
            rw [mnu_1 q]; exact hP'
          · rw [mmu_0 ((hv a rfl).mpr q)] at hP'
            rw [mnu_0 q]; exact hP'
      · subst ha
        obtain ⟨p1, p2, p3, q1, q2, q3, q4⟩ := id hP
        rw [q4]
        exact (mnum p3 hlo hhi).2 hw
    have hq : ∀ a, s = .inr a → ((M.2.1 200 20 = 2 ∧ lN lo ≤ M.2.2.1 200 21 ∧ M.2.2.1 200 21 ≤ lN hi) ↔ wnm tp a lo hi = true) := by
      intro a ha
      subst ha
      obtain ⟨p1, p2, p3, q1, q2, q3, q4⟩ := id hP
      rw [q3, q4, ← (mnum p3 hlo hhi).1]
      have := msr_le (tp := tp) (a := a)
      have e : nI (msr tp a) = 2 ↔ msr tp a = 2 := nI_eq (b := 2) (by omega) (by decide)
      rw [e]
    unfold zb_X8_number_0
    simp only [zb_X8_number_32, zsh_200, zT_push, zT_bin, zT_div, zT_bil, zT_shl, zT_un, zT_i2l, zT_l2i, zT_lcmp, zT_ild, zT_lld, zT_ald, zT_ist, zT_lst, zT_ast, zT_iinc, zT_dup, zT_dup2, zT_pop, zT_if1, zT_if2, zT_ifn, zT_getI, zT_getJ, zT_getR, zT_putI, zT_putZ, zT_putJ, zT_putR, zT_ald0, zT_lald, zT_aald, zT_iast, zT_zast, zT_bast, zT_last, zT_aast, zT_iret, zT_nret, zT_aret, zT_vret, zT_oi, zT_mm, zT_ialX, zT_S1, zT_S2, zT_S3, zT_V0, zT_V1, zT_V2, zT_V3, zT_V4, zT_V5, zT_V6, zT_I0, zT_I1, zT_I2, zlg, zlset, zlpr, zent, zok, va_rf, List.length_cons, List.length_nil, List.replicate, List.cons_append, List.nil_append, List.append_nil, Option.toList_some, Option.toList_none, Option.toList, Nat.reduceAdd, Nat.reduceSub, Nat.reduceLeDiff, Nat.zero_add, Nat.zero_le, true_and, and_true, Nat.le_refl, ge_iff_le, Nat.reduceEqDiff]
    unfold zc_X8_in
    simp only [zbI_0, zT_push, zT_bin, zT_div, zT_bil, zT_shl, zT_un, zT_i2l, zT_l2i, zT_lcmp, zT_ild, zT_lld, zT_ald, zT_ist, zT_lst, zT_ast, zT_iinc, zT_dup, zT_dup2, zT_pop, zT_if1, zT_if2, zT_ifn, zT_getI, zT_getJ, zT_getR, zT_putI, zT_putZ, zT_putJ, zT_putR, zT_ald0, zT_lald, zT_aald, zT_iast, zT_zast, zT_bast, zT_last, zT_aast, zT_iret, zT_nret, zT_aret, zT_vret, zT_oi, zT_mm, zT_ialX, zT_S1, zT_S2, zT_S3, zT_V0, zT_V1, zT_V2, zT_V3, zT_V4, zT_V5, zT_V6, zT_I0, zT_I1, zT_I2, zlg, zlset, zlpr, zent, zok, va_rf, List.length_cons, List.length_nil, List.replicate, List.cons_append, List.nil_append, List.append_nil, Option.toList_some, Option.toList_none, Option.toList, Nat.reduceAdd, Nat.reduceSub, Nat.reduceLeDiff, Nat.zero_add, Nat.zero_le, true_and, and_true, Nat.le_refl, ge_iff_le, Nat.reduceEqDiff]
    refine ⟨fun h1 => ⟨fun h2 => S33 _ (fun a ha => ⟨fun _ z => h2 ((hq a ha).mpr z).2, fun _ => rfl⟩) (Or.inl rfl), fun h2 => S33 _ (fun a ha => ⟨fun z => absurd z (by decide), fun z => absurd ((hq a ha).mp ⟨h1, Classical.not_not.mp h2⟩) z⟩) (Or.inr rfl)⟩, fun h1 => S33 _ (fun a ha => ⟨fun _ z => h1 ((hq a ha).mpr z).1, fun _ => rfl⟩) (Or.inl rfl)⟩
  · exact h.elim
theorem word_use {M : zMm} {tp : List Nat} {a : Nat} (hP : mPs M tp (.inr a)) {i : Nat} (hi : i < 7) {v : Int64} (hv : v = lN (zwV i)) : (M.2.1 200 20 = 1 ∧ M.2.2.1 200 21 = v) ↔ wis tp a i = true := by
  obtain ⟨p1, p2, p3, q1, q2, q3, q4⟩ := id hP
  rw [q3, q4, hv, ← mis p3 hi]
  have := msr_le (tp := tp) (a := a)
  have e : nI (msr tp a) = 1 ↔ msr tp a = 1 := nI_eq (b := 1) (by omega) (by decide)
  rw [e]
theorem mV_0 : mV 121 101 97 114 0 0 = lN (zwV 0) := by decide +kernel
theorem mV_1 : mV 100 121 107 101 0 0 = lN (zwV 1) := by decide +kernel
theorem mV_2 : mV 111 112 101 110 0 0 = lN (zwV 2) := by decide +kernel
theorem mV_3 : mV 99 117 116 0 0 0 = lN (zwV 3) := by decide +kernel
theorem mV_4 : mV 100 114 101 100 103 101 = lN (zwV 4) := by decide +kernel
theorem mV_5 : mV 98 121 0 0 0 0 = lN (zwV 5) := by decide +kernel
theorem mV_6 : mV 116 111 0 0 0 0 = lN (zwV 6) := by decide +kernel
