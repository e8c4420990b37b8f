/-! feed -/
def pby (x : Int32) : Nat := x.toBitVec.toNat % 2 ^ 8
theorem pby_lt (x : Int32) : pby x < 256 := Nat.mod_lt _ (by decide)
theorem pby_and (x : Int32) : x &&& 255 = nI (pby x) := pk_and x 8 (by decide)
theorem pby_8 (x : Int32) : (nI (pby x)).toInt8.toInt32 = x.toInt8.toInt32 := by
  congr 1
  apply Int8.toBitVec_inj.mp
  apply BitVec.eq_of_toNat_eq
  show ((nI (pby x)).toBitVec.signExtend 8).toNat = (x.toBitVec.signExtend 8).toNat
  rw [BitVec.signExtend_eq_setWidth_of_le _ (by decide), BitVec.signExtend_eq_setWidth_of_le _ (by decide), BitVec.toNat_setWidth, BitVec.toNat_setWidth]
  show (BitVec.ofNat 32 (pby x)).toNat % 2 ^ 8 = _
  rw [BitVec.toNat_ofNat, Nat.mod_eq_of_lt (show pby x < 2 ^ 32 by have := pby_lt x; omega)]
  unfold pby
  omega
def psh (v s : Int32) : Nat := pby (v >>> (s &&& 31))
def pF4 (v : Int32) : List Nat := [psh v 24, psh v 16, psh v 8, psh v 0]
def zc_X4_addFour (a : List Value) (M : zMm) (K : zKt) : Prop := match a with
  | [.ref k, .int v] => k = 3 ∧ M.2.2.2 3 0 = some 4 ∧ ∃ tp, zTp M tp ∧ tp.length + 4 ≤ 300 ∧ ∀ M', zsm [3, 4] M M' → zTp M' (tp ++ pF4 v) → K none M'
  | _ => False
theorem pF4_len (v : Int32) : (pF4 v).length = 4 := rfl
theorem zTp.add {M : zMm} {tp : List Nat} {x : Int32} (h : zTp M tp) (hl : tp.length < 300) : zTp (zwI (zwI M 4 tp.length x.toInt8.toInt32) 3 1 (nI tp.length + 1)) (tp ++ [pby x]) := by
  obtain ⟨h1, h2, h3⟩ := h
  refine ⟨?_, by rw [List.length_append, List.length_singleton]; omega, fun i b hi => ?_⟩
  · simp only [zwI_L, zwI_I, zwI_J, zwI_R, zwJ_L, zwJ_I, zwJ_J, zwJ_R, zwR_L, zwR_I, zwR_J, zwR_R, zw2_s, zw2_n, ne_eq, not_false_eq_true, reduceCtorEq, not_true_eq_false, Nat.reduceEqDiff, List.length_append, List.length_singleton]
    rw [zup_s, nI_1]
  · simp only [zwI_L, zwI_I, zwI_J, zwI_R, zwJ_L, zwJ_I, zwJ_J, zwJ_R, zwR_L, zwR_I, zwR_J, zwR_R, zw2_s, zw2_n, ne_eq, not_false_eq_true, reduceCtorEq, not_true_eq_false, Nat.reduceEqDiff]
    by_cases q : i < tp.length
    · rw [List.getElem?_append_left q] at hi
      rw [zup_n (by omega)]
      exact h3 i b hi
    · rw [List.getElem?_append_right (by omega)] at hi
      have q2 : i = tp.length := by
        rcases Nat.lt_or_ge (i - tp.length) 1 with z | z
        · omega
        · rw [List.getElem?_eq_none (by simpa using z)] at hi; cases hi
      subst q2
      simp at hi
      subst hi
      rw [zup_s]
      exact ⟨pby_lt x, (pby_8 x).symm⟩
set_option maxHeartbeats 1000000 in
theorem zm_X4_addFour (l : Launch) (D : va_G) (Y : Nat → ClassId) : zMt l D Y yX4_addFour cX4_addFour 3 none 0 0 0 0 zc_X4_addFour := by
  refine zwhile1 (h0 := 3) (by decide) (fun K J _ _ => zb_X4_addFour_0 K J) (fun K _ _ J => zb_X4_addFour_3 K J) (fun X hR J hJ => zbs_X4_addFour_0 hR J hJ) (fun X hR J hJ => zbs_X4_addFour_3 hR J hJ) (fun avs M K h => ?_)
  unfold zc_X4_addFour at h
  split at h
  · next k v =>
    obtain ⟨rfl, hr, tp, hT, hl, h⟩ := h
    refine ⟨by simp [zent], fun q M' ls st => ∃ t, q = 4 - t ∧ t ≤ 4 ∧ ls = [some (.ref 3), some (.int v), some (.int (24 - nI (8 * t)))] ∧ st = [] ∧ zsm [3, 4] M M' ∧ zTp M' (tp ++ (pF4 v).take t), ?_, ?_⟩
    · rintro q J hJ M' ls st ⟨t, rfl, ht, rfl, rfl, hs, hT'⟩
      have hr' : M'.2.2.2 3 0 = some 4 := by rw [hs.R]; exact hr
      have hl' : (tp ++ (pF4 v).take t).length = tp.length + t := by
        rw [List.length_append, List.length_take, pF4_len, Nat.min_eq_left ht]
      have t1 := hT'.1
      simp only [zb_X4_addFour_3, zb_X4_addFour_46, zsh_3, zsh_4, hr', t1, hl', zwI_R, zwI_I, zw2_n (show (3 : Nat) ≠ 4 by decide), zT_push, zT_bin, zT_div, zT_bil, zT_shl, zT_un, zT_i2l, zT_l2i, zT_lcmp, zT_ild, zT_lld, zT_ald, zT_ist, zT_lst, zT_ast, zT_iinc, zT_dup, zT_dup2, zT_pop, zT_if1, zT_if2, zT_ifn, zT_getI, zT_getJ, zT_getR, zT_putI, zT_putZ, zT_putJ, zT_putR, zT_ald0, zT_lald, zT_aald, zT_iast, zT_zast, zT_bast, zT_last, zT_aast, zT_iret, zT_nret, zT_aret, zT_vret, zT_oi, zT_mm, zT_ialX, zT_S1, zT_S2, zT_S3, zT_V0, zT_V1, zT_V2, zT_V3, zT_V4, zT_V5, zT_V6, zT_I0, zT_I1, zT_I2, zlg, zlset, zlpr, zent, zok, va_rf, List.length_cons, List.length_nil, List.replicate, List.cons_append, List.nil_append, List.append_nil, Option.toList_some, Option.toList_none, Option.toList, Nat.reduceAdd, Nat.reduceSub, Nat.reduceLeDiff, Nat.zero_add, Nat.zero_le, true_and, and_true, Nat.le_refl, ge_iff_le, Nat.reduceEqDiff]
      refine ⟨fun h1 => ?_, fun h1 => ⟨fun h2 => absurd (zn_ge' (b := 300) h2 (by omega) (by decide)) ?_, fun h2 => ?_⟩⟩
      · have e : t = 4 := by
          rcases t with _ | _ | _ | _ | _ | t
          · exact absurd h1 (by decide)
          · exact absurd h1 (by decide)
          · exact absurd h1 (by decide)
          · exact absurd h1 (by decide)
          · rfl
          · omega
        subst e
        exact h M' hs hT'
      · have : t < 4 := by
          rcases Nat.lt_or_ge t 4 with q | q
          · exact q
          · have e : t = 4 := by omega
            subst e
            exact absurd (by decide) h1
        omega
      · have hlt : t < 4 := by
          rcases Nat.lt_or_ge t 4 with q | q
          · exact q
          · have e : t = 4 := by omega
            subst e
            exact absurd (by decide) h1
        refine ⟨vp_in_nI (by omega) (by decide), ?_⟩
        rw [nI_clamp (by omega), Int8.toInt8_toInt32]
        refine hJ (4 - (t + 1)) _ _ _ (by omega) ⟨t + 1, rfl, by omega, ?_, rfl, (hs.w (by simp)).w (by simp), ?_⟩
        · have : ∀ t, t < 4 → 24 - nI (8 * t) + (-8) = 24 - nI (8 * (t + 1)) := by decide
          rw [this t hlt]
        · have := hT'.add (x := v >>> ((24 - nI (8 * t)) &&& 31)) (by omega)
          rw [hl'] at this
          have e : (tp ++ (pF4 v).take t) ++ [pby (v >>> ((24 - nI (8 * t)) &&& 31))] = tp ++ (pF4 v).take (t + 1) := by
            rw [List.append_assoc]
            congr 1
            rcases t with _ | _ | _ | _ | t
            · rfl
            · rfl
            · rfl
            · rfl
            · omega
          rw [e] at this
          exact this
    · intro J hJ
      simp only [zb_X4_addFour_0, zT_push, zT_bin, zT_div, zT_bil, zT_shl, zT_un, zT_i2l, zT_l2i, zT_lcmp, zT_ild, zT_lld, zT_ald, zT_ist, zT_lst, zT_ast, zT_iinc, zT_dup, zT_dup2, zT_pop, zT_if1, zT_if2, zT_ifn, zT_getI, zT_getJ, zT_getR, zT_putI, zT_putZ, zT_putJ, zT_putR, zT_ald0, zT_lald, zT_aald, zT_iast, zT_zast, zT_bast, zT_last, zT_aast, zT_iret, zT_nret, zT_aret, zT_vret, zT_oi, zT_mm, zT_ialX, zT_S1, zT_S2, zT_S3, zT_V0, zT_V1, zT_V2, zT_V3, zT_V4, zT_V5, zT_V6, zT_I0, zT_I1, zT_I2, zlg, zlset, zlpr, zent, zok, va_rf, List.length_cons, List.length_nil, List.replicate, List.cons_append, List.nil_append, List.append_nil, Option.toList_some, Option.toList_none, Option.toList, Nat.reduceAdd, Nat.reduceSub, Nat.reduceLeDiff, Nat.zero_add, Nat.zero_le, true_and, and_true, Nat.le_refl, ge_iff_le, Nat.reduceEqDiff]
      refine hJ 4 _ _ _ ⟨0, rfl, by omega, rfl, rfl, zsm.rf, ?_⟩
      rw [List.take_zero, List.append_nil]
      exact hT
  · exact h.elim
/-! DeltaRuns feed -/
theorem zd_X7_feed_0 : decode cX7_feed 0 = .ok (.aload_n 0, 1) := by decide +kernel
theorem zd_X7_feed_1 : decode cX7_feed 1 = .ok (.getfield 19, 3) := by decide +kernel
theorem zd_X7_feed_4 : decode cX7_feed 4 = .ok (.getfield 102, 3) := by decide +kernel
theorem zd_X7_feed_7 : decode cX7_feed 7 = .ok (.bipush 20, 2) := by decide +kernel
theorem zd_X7_feed_9 : decode cX7_feed 9 = .ok (.iadd, 1) := by decide +kernel
theorem zd_X7_feed_10 : decode cX7_feed 10 = .ok (.sipush 300, 3) := by decide +kernel
theorem zd_X7_feed_13 : decode cX7_feed 13 = .ok (.if_icmp .le 5, 3) := by decide +kernel
theorem zd_X7_feed_16 : decode cX7_feed 16 = .ok (.iconst (-1), 1) := by decide +kernel
theorem zd_X7_feed_17 : decode cX7_feed 17 = .ok (.ireturn, 1) := by decide +kernel
theorem zd_X7_feed_18 : decode cX7_feed 18 = .ok (.aload_n 0, 1) := by decide +kernel
theorem zd_X7_feed_19 : decode cX7_feed 19 = .ok (.getfield 19, 3) := by decide +kernel
theorem zd_X7_feed_22 : decode cX7_feed 22 = .ok (.iload_n 1, 1) := by decide +kernel
theorem zd_X7_feed_23 : decode cX7_feed 23 = .ok (.invokevirtual 105, 3) := by decide +kernel
theorem zd_X7_feed_26 : decode cX7_feed 26 = .ok (.aload_n 0, 1) := by decide +kernel
theorem zd_X7_feed_27 : decode cX7_feed 27 = .ok (.getfield 19, 3) := by decide +kernel
theorem zd_X7_feed_30 : decode cX7_feed 30 = .ok (.iload_n 2, 1) := by decide +kernel
theorem zd_X7_feed_31 : decode cX7_feed 31 = .ok (.invokevirtual 105, 3) := by decide +kernel
theorem zd_X7_feed_34 : decode cX7_feed 34 = .ok (.aload_n 0, 1) := by decide +kernel
theorem zd_X7_feed_35 : decode cX7_feed 35 = .ok (.getfield 19, 3) := by decide +kernel
theorem zd_X7_feed_38 : decode cX7_feed 38 = .ok (.iload_n 3, 1) := by decide +kernel
theorem zd_X7_feed_39 : decode cX7_feed 39 = .ok (.invokevirtual 105, 3) := by decide +kernel
theorem zd_X7_feed_42 : decode cX7_feed 42 = .ok (.aload_n 0, 1) := by decide +kernel
theorem zd_X7_feed_43 : decode cX7_feed 43 = .ok (.getfield 19, 3) := by decide +kernel
theorem zd_X7_feed_46 : decode cX7_feed 46 = .ok (.iload 4, 2) := by decide +kernel
theorem zd_X7_feed_48 : decode cX7_feed 48 = .ok (.invokevirtual 105, 3) := by decide +kernel
theorem zd_X7_feed_51 : decode cX7_feed 51 = .ok (.aload_n 0, 1) := by decide +kernel
theorem zd_X7_feed_52 : decode cX7_feed 52 = .ok (.getfield 19, 3) := by decide +kernel
theorem zd_X7_feed_55 : decode cX7_feed 55 = .ok (.iload 5, 2) := by decide +kernel
theorem zd_X7_feed_57 : decode cX7_feed 57 = .ok (.invokevirtual 105, 3) := by decide +kernel
theorem zd_X7_feed_60 : decode cX7_feed 60 = .ok (.aload_n 0, 1) := by decide +kernel
theorem zd_X7_feed_61 : decode cX7_feed 61 = .ok (.getfield 19, 3) := by decide +kernel
theorem zd_X7_feed_64 : decode cX7_feed 64 = .ok (.getfield 102, 3) := by decide +kernel
theorem zd_X7_feed_67 : decode cX7_feed 67 = .ok (.ireturn, 1) := by decide +kernel
def zb_X7_feed_0 (K : zKt) (J : Nat → zPP) : zPP := zT_ald 0 (zT_getR 7 1 9 (zT_getI 4 1 2 (zT_push (.int 20) (zT_bin (fun x y => x + y) (zT_push (.int 300) (zT_if2 (fun x y => x ≤ y) (zT_ald 0 (zT_getR 7 1 9 (zT_ild 1 (zT_V1 zok 4 2 zc_X4_addFour (zT_ald 0 (zT_getR 7 1 9 (zT_ild 2 (zT_V1 zok 4 2 zc_X4_addFour (zT_ald 0 (zT_getR 7 1 9 (zT_ild 3 (zT_V1 zok 4 2 zc_X4_addFour (zT_ald 0 (zT_getR 7 1 9 (zT_ild 4 (zT_V1 zok 4 2 zc_X4_addFour (zT_ald 0 (zT_getR 7 1 9 (zT_ild 5 (zT_V1 zok 4 2 zc_X4_addFour (zT_ald 0 (zT_getR 7 1 9 (zT_getI 4 1 2 (zT_iret K)))))))))))))))))))))))) (zT_push (.int (-1)) (zT_iret K))))))))
theorem zbs_X7_feed_0 {X : zCt} (hR : zRX X = { frames := 1, cells := 0, slots := 0, locals := 22 }) (J : Nat → zPP) (hJ : ∀ h ∈ ([] : List Nat), zSd X RX7 "feed" cX7_feed 6 (some .int) h (J h)) : zSd X RX7 "feed" cX7_feed 6 (some .int) 0 (zb_X7_feed_0 (zKX X) J) := zs_aload_n zd_X7_feed_0 rfl (zs_getR (ci := 7) (j := 1) (T := TX7) rfl inX7 (by decide) gw_1_186 rfl zd_X7_feed_1 (zs_getI (ci := 4) (j := 1) (T := TX4) rfl inX4 (by decide) gw_1_70 rfl zd_X7_feed_4 (zs_bipush zd_X7_feed_7 (by decide) (zs_iadd zd_X7_feed_9 (zs_sipush zd_X7_feed_10 (by decide) (zs_icmp_le (tgt := 18) zd_X7_feed_13 (by decide) (zs_aload_n zd_X7_feed_18 rfl (zs_getR (ci := 7) (j := 1) (T := TX7) rfl inX7 (by decide) gw_1_186 rfl zd_X7_feed_19 (zs_iload_n zd_X7_feed_22 rfl (zs_V (ci := 4) rfl rfl (zm_X4_addFour _ _ _) gw_2_24 gw_2_21 gw_2_22 gw_2_23 gw_1_3 zdn_X4_addFour (zrm hR (by decide) (by decide)) zd_X7_feed_23 (zCl_V1 zok_l) (zs_aload_n zd_X7_feed_26 rfl (zs_getR (ci := 7) (j := 1) (T := TX7) rfl inX7 (by decide) gw_1_186 rfl zd_X7_feed_27 (zs_iload_n zd_X7_feed_30 rfl (zs_V (ci := 4) rfl rfl (zm_X4_addFour _ _ _) gw_2_24 gw_2_21 gw_2_22 gw_2_23 gw_1_3 zdn_X4_addFour (zrm hR (by decide) (by decide)) zd_X7_feed_31 (zCl_V1 zok_l) (zs_aload_n zd_X7_feed_34 rfl (zs_getR (ci := 7) (j := 1) (T := TX7) rfl inX7 (by decide) gw_1_186 rfl zd_X7_feed_35 (zs_iload_n zd_X7_feed_38 rfl (zs_V (ci := 4) rfl rfl (zm_X4_addFour _ _ _) gw_2_24 gw_2_21 gw_2_22 gw_2_23 gw_1_3 zdn_X4_addFour (zrm hR (by decide) (by decide)) zd_X7_feed_39 (zCl_V1 zok_l) (zs_aload_n zd_X7_feed_42 rfl (zs_getR (ci := 7) (j := 1) (T := TX7) rfl inX7 (by decide) gw_1_186 rfl zd_X7_feed_43 (zs_iload zd_X7_feed_46 (zs_V (ci := 4) rfl rfl (zm_X4_addFour _ _ _) gw_2_24 gw_2_21 gw_2_22 gw_2_23 gw_1_3 zdn_X4_addFour (zrm hR (by decide) (by decide)) zd_X7_feed_48 (zCl_V1 zok_l) (zs_aload_n zd_X7_feed_51 rfl (zs_getR (ci := 7) (j := 1) (T := TX7) rfl inX7 (by decide) gw_1_186 rfl zd_X7_feed_52 (zs_iload zd_X7_feed_55 (zs_V (ci := 4) rfl rfl (zm_X4_addFour _ _ _) gw_2_24 gw_2_21 gw_2_22 gw_2_23 gw_1_3 zdn_X4_addFour (zrm hR (by decide) (by decide)) zd_X7_feed_57 (zCl_V1 zok_l) (zs_aload_n zd_X7_feed_60 rfl (zs_getR (ci := 7) (j := 1) (T := TX7) rfl inX7 (by decide) gw_1_186 rfl zd_X7_feed_61 (zs_getI (ci := 4) (j := 1) (T := TX4) rfl inX4 (by decide) gw_1_70 rfl zd_X7_feed_64 (zs_iret rfl zd_X7_feed_67)))))))))))))))))))))))) (zs_iconst zd_X7_feed_16 (by decide) (zs_iret rfl zd_X7_feed_17))))))))
theorem zdn_X7_feed : yX7_feed.cls ≠ "java/lang/invoke/MethodHandle" ∧ yX7_feed.cls ≠ "java/lang/invoke/VarHandle" ∧ (parseMethodDescriptor yX7_feed.desc).map (fun d => d.parameters.length) = some 5 := by decide +kernel
def pFeed (a b c d e : Int32) (F : wFS) : Int32 × wFS :=
  if F.2.2.1.length + 20 ≤ 300 then (nI (F.2.2.1.length + 20), (F.1, F.2.1, F.2.2.1 ++ (pF4 a ++ pF4 b ++ pF4 c ++ pF4 d ++ pF4 e), F.2.2.2.1, F.2.2.2.2)) else (-1, F)
def zc_X7_feed (a : List Value) (M : zMm) (K : zKt) : Prop := match a with
  | [.ref k, .int a, .int b, .int c, .int d, .int e] => k = 0 ∧ ∃ F pk dk p, zXF M F pk dk p ∧ ∀ M', zXF M' (pFeed a b c d e F).2 pk dk p → K (some (.int (pFeed a b c d e F).1)) M'
  | _ => False
set_option maxHeartbeats 1000000 in
theorem zm_X7_feed (l : Launch) (D : va_G) (Y : Nat → ClassId) : zMt l D Y yX7_feed cX7_feed 6 (some .int) 1 22 0 0 zc_X7_feed := by
  refine zflat (by decide) (fun K J lc lz => zb_X7_feed_0 K J) (fun X hR => zbs_X7_feed_0 hR zJ0 zJ0_ok) (fun avs M K h => ?_)
  unfold zc_X7_feed at h
  split at h
  · next k a b c d e =>
    obtain ⟨rfl, F, pk, dk, p, hF, h⟩ := h
    have hF' := hF
    obtain ⟨hxi, hEn, hel, hTp, hft, hst⟩ := hF
    obtain ⟨a0, a1, a2, a3, a4, a5, a6, a7, a8, -⟩ := id hxi.1
    have t1 := hTp.1
    have t2 := hTp.2.1
    refine ⟨by simp [zent], ?_⟩
    simp only [zb_X7_feed_0, zsh_0, zsh_3, a1, t1, show (20 : Int32) = nI 20 from rfl, nI_add, zT_push, zT_bin, zT_div, zT_bil, zT_shl, zT_un, zT_i2l, zT_l2i, zT_lcmp, zT_ild, zT_lld, zT_ald, zT_ist, zT_lst, zT_ast, zT_iinc, zT_dup, zT_dup2, zT_pop, zT_if1, zT_if2, zT_ifn, zT_getI, zT_getJ, zT_getR, zT_putI, zT_putZ, zT_putJ, zT_putR, zT_ald0, zT_lald, zT_aald, zT_iast, zT_zast, zT_bast, zT_last, zT_aast, zT_iret, zT_nret, zT_aret, zT_vret, zT_oi, zT_mm, zT_ialX, zT_S1, zT_S2, zT_S3, zT_V0, zT_V1, zT_V2, zT_V3, zT_V4, zT_V5, zT_V6, zT_I0, zT_I1, zT_I2, zlg, zlset, zlpr, zent, zok, va_rf, List.length_cons, List.length_nil, List.replicate, List.cons_append, List.nil_append, List.append_nil, Option.toList_some, Option.toList_none, Option.toList, Nat.reduceAdd, Nat.reduceSub, Nat.reduceLeDiff, Nat.zero_add, Nat.zero_le, true_and, and_true, Nat.le_refl, ge_iff_le, Nat.reduceEqDiff]
    refine ⟨fun h1 => ?_, fun h1 => ?_⟩
    · have hle : F.2.2.1.length + 20 ≤ 300 := (nI_leI (b := 300) (by omega) (by decide)).mp h1
      unfold zc_X4_addFour
      dsimp only
      refine ⟨rfl, a8, F.2.2.1, hTp, by omega, fun M1 hs1 hT1 => ?_⟩
      have b1 : ∀ {j}, M1.2.2.2 0 j = M.2.2.2 0 j := by intro j; rw [hs1.R]
      have c8 : M1.2.2.2 3 0 = some 4 := by rw [hs1.R]; exact a8
      simp only [zsh_0, zsh_3, b1, a1, zT_push, zT_bin, zT_div, zT_bil, zT_shl, zT_un, zT_i2l, zT_l2i, zT_lcmp, zT_ild, zT_lld, zT_ald, zT_ist, zT_lst, zT_ast, zT_iinc, zT_dup, zT_dup2, zT_pop, zT_if1, zT_if2, zT_ifn, zT_getI, zT_getJ, zT_getR, zT_putI, zT_putZ, zT_putJ, zT_putR, zT_ald0, zT_lald, zT_aald, zT_iast, zT_zast, zT_bast, zT_last, zT_aast, zT_iret, zT_nret, zT_aret, zT_vret, zT_oi, zT_mm, zT_ialX, zT_S1, zT_S2, zT_S3, zT_V0, zT_V1, zT_V2, zT_V3, zT_V4, zT_V5, zT_V6, zT_I0, zT_I1, zT_I2, zlg, zlset, zlpr, zent, zok, va_rf, List.length_cons, List.length_nil, List.replicate, List.cons_append, List.nil_append, List.append_nil, Option.toList_some, Option.toList_none, Option.toList, Nat.reduceAdd, Nat.reduceSub, Nat.reduceLeDiff, Nat.zero_add, Nat.zero_le, true_and, and_true, Nat.le_refl, ge_iff_le, Nat.reduceEqDiff]
      refine ⟨c8, _, hT1, by simp only [List.length_append, pF4_len]; omega, fun M2 hs2 hT2 => ?_⟩
      have hs12 := hs1.tr hs2
      have b2 : ∀ {j}, M2.2.2.2 0 j = M.2.2.2 0 j := by intro j; rw [hs12.R]
      have c8 : M2.2.2.2 3 0 = some 4 := by rw [hs12.R]; exact a8
      simp only [zsh_0, zsh_3, b2, a1, zT_push, zT_bin, zT_div, zT_bil, zT_shl, zT_un, zT_i2l, zT_l2i, zT_lcmp, zT_ild, zT_lld, zT_ald, zT_ist, zT_lst, zT_ast, zT_iinc, zT_dup, zT_dup2, zT_pop, zT_if1, zT_if2, zT_ifn, zT_getI, zT_getJ, zT_getR, zT_putI, zT_putZ, zT_putJ, zT_putR, zT_ald0, zT_lald, zT_aald, zT_iast, zT_zast, zT_bast, zT_last, zT_aast, zT_iret, zT_nret, zT_aret, zT_vret, zT_oi, zT_mm, zT_ialX, zT_S1, zT_S2, zT_S3, zT_V0, zT_V1, zT_V2, zT_V3, zT_V4, zT_V5, zT_V6, zT_I0, zT_I1, zT_I2, zlg, zlset, zlpr, zent, zok, va_rf, List.length_cons, List.length_nil, List.replicate, List.cons_append, List.nil_append, List.append_nil, Option.toList_some, Option.toList_none, Option.toList, Nat.reduceAdd, Nat.reduceSub, Nat.reduceLeDiff, Nat.zero_add, Nat.zero_le, true_and, and_true, Nat.le_refl, ge_iff_le, Nat.reduceEqDiff]
      refine ⟨c8, _, hT2, by simp only [List.length_append, pF4_len]; omega, fun M3 hs3 hT3 => ?_⟩
      have hs13 := hs12.tr hs3
      have b3 : ∀ {j}, M3.2.2.2 0 j = M.2.2.2 0 j := by intro j; rw [hs13.R]
      have c8 : M3.2.2.2 3 0 = some 4 := by rw [hs13.R]; exact a8
      simp only [zsh_0, zsh_3, b3, a1, zT_push, zT_bin, zT_div, zT_bil, zT_shl, zT_un, zT_i2l, zT_l2i, zT_lcmp, zT_ild, zT_lld, zT_ald, zT_ist, zT_lst, zT_ast, zT_iinc, zT_dup, zT_dup2, zT_pop, zT_if1, zT_if2, zT_ifn, zT_getI, zT_getJ, zT_getR, zT_putI, zT_putZ, zT_putJ, zT_putR, zT_ald0, zT_lald, zT_aald, zT_iast, zT_zast, zT_bast, zT_last, zT_aast, zT_iret, zT_nret, zT_aret, zT_vret, zT_oi, zT_mm, zT_ialX, zT_S1, zT_S2, zT_S3, zT_V0, zT_V1, zT_V2, zT_V3, zT_V4, zT_V5, zT_V6, zT_I0, zT_I1, zT_I2, zlg, zlset, zlpr, zent, zok, va_rf, List.length_cons, List.length_nil, List.replicate, List.cons_append, List.nil_append, List.append_nil, Option.toList_some, Option.toList_none, Option.toList, Nat.reduceAdd, Nat.reduceSub, Nat.reduceLeDiff, Nat.zero_add, Nat.zero_le, true_and, and_true, Nat.le_refl, ge_iff_le, Nat.reduceEqDiff]
      refine ⟨c8, _, hT3, by simp only [List.length_append, pF4_len]; omega, fun M4 hs4 hT4 => ?_⟩
      have hs14 := hs13.tr hs4
      have b4 : ∀ {j}, M4.2.2.2 0 j = M.2.2.2 0 j := by intro j; rw [hs14.R]
      have c8 : M4.2.2.2 3 0 = some 4 := by rw [hs14.R]; exact a8
      simp only [zsh_0, zsh_3, b4, a1, zT_push, zT_bin, zT_div, zT_bil, zT_shl, zT_un, zT_i2l, zT_l2i, zT_lcmp, zT_ild, zT_lld, zT_ald, zT_ist, zT_lst, zT_ast, zT_iinc, zT_dup, zT_dup2, zT_pop, zT_if1, zT_if2, zT_ifn, zT_getI, zT_getJ, zT_getR, zT_putI, zT_putZ, zT_putJ, zT_putR, zT_ald0, zT_lald, zT_aald, zT_iast, zT_zast, zT_bast, zT_last, zT_aast, zT_iret, zT_nret, zT_aret, zT_vret, zT_oi, zT_mm, zT_ialX, zT_S1, zT_S2, zT_S3, zT_V0, zT_V1, zT_V2, zT_V3, zT_V4, zT_V5, zT_V6, zT_I0, zT_I1, zT_I2, zlg, zlset, zlpr, zent, zok, va_rf, List.length_cons, List.length_nil, List.replicate, List.cons_append, List.nil_append, List.append_nil, Option.toList_some, Option.toList_none, Option.toList, Nat.reduceAdd, Nat.reduceSub, Nat.reduceLeDiff, Nat.zero_add, Nat.zero_le, true_and, and_true, Nat.le_refl, ge_iff_le, Nat.reduceEqDiff]
      refine ⟨c8, _, hT4, by simp only [List.length_append, pF4_len]; omega, fun M5 hs5 hT5 => ?_⟩
      have hs15 := hs14.tr hs5
      have b5 : ∀ {j}, M5.2.2.2 0 j = M.2.2.2 0 j := by intro j; rw [hs15.R]
      have hT6 : zTp M5 (F.2.2.1 ++ (pF4 a ++ pF4 b ++ pF4 c ++ pF4 d ++ pF4 e)) := by
        simp only [List.append_assoc] at hT5 ⊢
        exact hT5
      have l5 : M5.2.1 3 1 = nI (F.2.2.1.length + 20) := by
        rw [hT6.1]
        simp only [List.length_append, pF4_len]
      simp only [zsh_0, zsh_3, b5, a1, l5, zT_push, zT_bin, zT_div, zT_bil, zT_shl, zT_un, zT_i2l, zT_l2i, zT_lcmp, zT_ild, zT_lld, zT_ald, zT_ist, zT_lst, zT_ast, zT_iinc, zT_dup, zT_dup2, zT_pop, zT_if1, zT_if2, zT_ifn, zT_getI, zT_getJ, zT_getR, zT_putI, zT_putZ, zT_putJ, zT_putR, zT_ald0, zT_lald, zT_aald, zT_iast, zT_zast, zT_bast, zT_last, zT_aast, zT_iret, zT_nret, zT_aret, zT_vret, zT_oi, zT_mm, zT_ialX, zT_S1, zT_S2, zT_S3, zT_V0, zT_V1, zT_V2, zT_V3, zT_V4, zT_V5, zT_V6, zT_I0, zT_I1, zT_I2, zlg, zlset, zlpr, zent, zok, va_rf, List.length_cons, List.length_nil, List.replicate, List.cons_append, List.nil_append, List.append_nil, Option.toList_some, Option.toList_none, Option.toList, Nat.reduceAdd, Nat.reduceSub, Nat.reduceLeDiff, Nat.zero_add, Nat.zero_le, true_and, and_true, Nat.le_refl, ge_iff_le, Nat.reduceEqDiff]
      have h2 := h M5
      unfold pFeed at h2
      rw [if_pos hle] at h2
      exact h2 ⟨hxi.mv hs15 (by simp), hEn.to (fun k a b => hs15.at (by simp; omega)), hel, hT6, by rw [hs15.at (by simp)]; exact hft, by rw [hs15.at (by simp)]; exact hst⟩
    · have hle : ¬ F.2.2.1.length + 20 ≤ 300 := fun z => h1 ((nI_leI (b := 300) (by omega) (by decide)).mpr z)
      have h2 := h M
      unfold pFeed at h2
      rw [if_neg hle] at h2
      exact h2 hF'
  · exact h.elim
