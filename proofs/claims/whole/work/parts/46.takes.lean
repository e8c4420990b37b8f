/-! DeltaRuns$Reader takes -/
theorem zd_X3_takes_0 : decode cX3_takes 0 = .ok (.aload_n 0, 1) := by decide +kernel
theorem zd_X3_takes_1 : decode cX3_takes 1 = .ok (.getfield 86, 3) := by decide +kernel
theorem zd_X3_takes_4 : decode cX3_takes 4 = .ok (.aload_n 0, 1) := by decide +kernel
theorem zd_X3_takes_5 : decode cX3_takes 5 = .ok (.getfield 36, 3) := by decide +kernel
theorem zd_X3_takes_8 : decode cX3_takes 8 = .ok (.isub, 1) := by decide +kernel
theorem zd_X3_takes_9 : decode cX3_takes 9 = .ok (.aload_n 1, 1) := by decide +kernel
theorem zd_X3_takes_10 : decode cX3_takes 10 = .ok (.invokevirtual 89, 3) := by decide +kernel
theorem zd_X3_takes_13 : decode cX3_takes 13 = .ok (.if_icmp .eq 5, 3) := by decide +kernel
theorem zd_X3_takes_16 : decode cX3_takes 16 = .ok (.iconst 0, 1) := by decide +kernel
theorem zd_X3_takes_17 : decode cX3_takes 17 = .ok (.ireturn, 1) := by decide +kernel
theorem zd_X3_takes_18 : decode cX3_takes 18 = .ok (.iconst 0, 1) := by decide +kernel
theorem zd_X3_takes_19 : decode cX3_takes 19 = .ok (.istore_n 2, 1) := by decide +kernel
theorem zd_X3_takes_20 : decode cX3_takes 20 = .ok (.iload_n 2, 1) := by decide +kernel
theorem zd_X3_takes_21 : decode cX3_takes 21 = .ok (.aload_n 1, 1) := by decide +kernel
theorem zd_X3_takes_22 : decode cX3_takes 22 = .ok (.invokevirtual 89, 3) := by decide +kernel
theorem zd_X3_takes_25 : decode cX3_takes 25 = .ok (.if_icmp .ge 33, 3) := by decide +kernel
theorem zd_X3_takes_28 : decode cX3_takes 28 = .ok (.aload_n 0, 1) := by decide +kernel
theorem zd_X3_takes_29 : decode cX3_takes 29 = .ok (.getfield 9, 3) := by decide +kernel
theorem zd_X3_takes_32 : decode cX3_takes 32 = .ok (.getfield 94, 3) := by decide +kernel
theorem zd_X3_takes_35 : decode cX3_takes 35 = .ok (.aload_n 0, 1) := by decide +kernel
theorem zd_X3_takes_36 : decode cX3_takes 36 = .ok (.getfield 36, 3) := by decide +kernel
theorem zd_X3_takes_39 : decode cX3_takes 39 = .ok (.iload_n 2, 1) := by decide +kernel
theorem zd_X3_takes_40 : decode cX3_takes 40 = .ok (.iadd, 1) := by decide +kernel
theorem zd_X3_takes_41 : decode cX3_takes 41 = .ok (.baload, 1) := by decide +kernel
theorem zd_X3_takes_42 : decode cX3_takes 42 = .ok (.aload_n 1, 1) := by decide +kernel
theorem zd_X3_takes_43 : decode cX3_takes 43 = .ok (.iload_n 2, 1) := by decide +kernel
theorem zd_X3_takes_44 : decode cX3_takes 44 = .ok (.invokevirtual 100, 3) := by decide +kernel
theorem zd_X3_takes_47 : decode cX3_takes 47 = .ok (.if_icmp .eq 5, 3) := by decide +kernel
theorem zd_X3_takes_50 : decode cX3_takes 50 = .ok (.iconst 0, 1) := by decide +kernel
theorem zd_X3_takes_51 : decode cX3_takes 51 = .ok (.ireturn, 1) := by decide +kernel
theorem zd_X3_takes_52 : decode cX3_takes 52 = .ok (.iinc 2 1, 3) := by decide +kernel
theorem zd_X3_takes_55 : decode cX3_takes 55 = .ok (.goto (-35), 3) := by decide +kernel
theorem zd_X3_takes_58 : decode cX3_takes 58 = .ok (.aload_n 0, 1) := by decide +kernel
theorem zd_X3_takes_59 : decode cX3_takes 59 = .ok (.invokevirtual 25, 3) := by decide +kernel
theorem zd_X3_takes_62 : decode cX3_takes 62 = .ok (.iconst 1, 1) := by decide +kernel
theorem zd_X3_takes_63 : decode cX3_takes 63 = .ok (.ireturn, 1) := by decide +kernel
def zb_X3_takes_0 (K : zKt) (J : Nat → zPP) : zPP := zT_ald 0 (zT_getI 3 3 5 (zT_ald 0 (zT_getI 3 2 5 (zT_bin (fun x y => x - y) (zT_ald 1 (zT_VS0 zc_J0_length_8abf5 (zT_if2 (fun x y => x = y) (zT_push (.int 0) (zT_ist 2 (J 20))) (zT_push (.int 0) (zT_nret .boolean K)))))))))
theorem zbs_X3_takes_0 {X : zCt} (hR : zRX X = { frames := 4, cells := 0, slots := 0, locals := 85 }) (J : Nat → zPP) (hJ : ∀ h ∈ ([20] : List Nat), zSd X RX3 "takes" cX3_takes 3 (some .boolean) h (J h)) : zSd X RX3 "takes" cX3_takes 3 (some .boolean) 0 (zb_X3_takes_0 (zKX X) J) := zs_aload_n zd_X3_takes_0 rfl (zs_getI (ci := 3) (j := 3) (T := TX3) rfl inX3 (by decide) gw_2_42 rfl zd_X3_takes_1 (zs_aload_n zd_X3_takes_4 rfl (zs_getI (ci := 3) (j := 2) (T := TX3) rfl inX3 (by decide) gw_2_41 rfl zd_X3_takes_5 (zs_isub zd_X3_takes_8 (zs_aload_n zd_X3_takes_9 rfl (zs_VS (n := 0) rfl (zm_J0_length_8abf5 _ _ _) gw_2_85 gw_2_82 gw_2_83 gw_2_84 gw_1_9 zdn_J0_length_8abf5 (zrm hR (by decide) (by decide)) zd_X3_takes_10 zCl_VS0 (zs_icmp_eq (tgt := 18) zd_X3_takes_13 (by decide) (zs_iconst zd_X3_takes_18 (by decide) (zs_istore_n zd_X3_takes_19 rfl (by decide) (hJ 20 (by decide)))) (zs_iconst zd_X3_takes_16 (by decide) (zs_nret rfl zd_X3_takes_17)))))))))
def zb_X3_takes_20 (K : zKt) (J : Nat → zPP) : zPP := zT_ild 2 (zT_ald 1 (zT_VS0 zc_J0_length_8abf5 (zT_if2 (fun x y => y ≤ x) (zT_ald 0 (zT_V0 zok 3 5 zc_X3_step (zT_push (.int 1) (zT_nret .boolean K)))) (zT_ald 0 (zT_getR 3 0 5 (zT_getR 4 0 2 (zT_ald 0 (zT_getI 3 2 5 (zT_ild 2 (zT_bin (fun x y => x + y) (zT_ald0 2 (zT_ald 1 (zT_ild 2 (zT_VS1 zc_J0_charAt_5068e (zT_if2 (fun x y => x = y) (zT_iinc 2 1 (J 20)) (zT_push (.int 0) (zT_nret .boolean K)))))))))))))))))
theorem zbs_X3_takes_20 {X : zCt} (hR : zRX X = { frames := 4, cells := 0, slots := 0, locals := 85 }) (J : Nat → zPP) (hJ : ∀ h ∈ ([20] : List Nat), zSd X RX3 "takes" cX3_takes 3 (some .boolean) h (J h)) : zSd X RX3 "takes" cX3_takes 3 (some .boolean) 20 (zb_X3_takes_20 (zKX X) J) := zs_iload_n zd_X3_takes_20 rfl (zs_aload_n zd_X3_takes_21 rfl (zs_VS (n := 0) rfl (zm_J0_length_8abf5 _ _ _) gw_2_85 gw_2_82 gw_2_83 gw_2_84 gw_1_9 zdn_J0_length_8abf5 (zrm hR (by decide) (by decide)) zd_X3_takes_22 zCl_VS0 (zs_icmp_ge (tgt := 58) zd_X3_takes_25 (by decide) (zs_aload_n zd_X3_takes_58 rfl (zs_V (ci := 3) rfl rfl (zm_X3_step _ _ _) gw_2_62 gw_2_59 gw_2_61 gw_0_3 gw_1_8 zdn_X3_step (zrm hR (by decide) (by decide)) zd_X3_takes_59 (zCl_V0 zok_l) (zs_iconst zd_X3_takes_62 (by decide) (zs_nret rfl zd_X3_takes_63)))) (zs_aload_n zd_X3_takes_28 rfl (zs_getR (ci := 3) (j := 0) (T := TX3) rfl inX3 (by decide) gw_2_39 rfl zd_X3_takes_29 (zs_getR (ci := 4) (j := 0) (T := TX4) rfl inX4 (by decide) gw_1_68 rfl zd_X3_takes_32 (zs_aload_n zd_X3_takes_35 rfl (zs_getI (ci := 3) (j := 2) (T := TX3) rfl inX3 (by decide) gw_2_41 rfl zd_X3_takes_36 (zs_iload_n zd_X3_takes_39 rfl (zs_iadd zd_X3_takes_40 (zs_bald zd_X3_takes_41 (zs_aload_n zd_X3_takes_42 rfl (zs_iload_n zd_X3_takes_43 rfl (zs_VS (n := 1) rfl (zm_J0_charAt_5068e _ _ _) gw_2_95 gw_2_92 gw_2_93 gw_2_94 gw_1_9 zdn_J0_charAt_5068e (zrm hR (by decide) (by decide)) zd_X3_takes_44 zCl_VS1 (zs_icmp_eq (tgt := 52) zd_X3_takes_47 (by decide) (zs_iinc zd_X3_takes_52 (by decide) (by decide) (zs_goto (tgt := 20) zd_X3_takes_55 (by decide) (hJ 20 (by decide)))) (zs_iconst zd_X3_takes_50 (by decide) (zs_nret rfl zd_X3_takes_51)))))))))))))))))
def zB_X3_takes (K : zKt) (J : Nat → zPP) (h : Nat) : zPP := if h = 20 then zb_X3_takes_20 K J else (fun _ _ _ => False)
theorem zBs_X3_takes {X : zCt} (hR : zRX X = { frames := 4, cells := 0, slots := 0, locals := 85 }) : ∀ J : Nat → zPP, (∀ h ∈ ([20] : List Nat), zSd X RX3 "takes" cX3_takes 3 (some .boolean) h (J h)) → ∀ h ∈ ([20] : List Nat), zSd X RX3 "takes" cX3_takes 3 (some .boolean) h (zB_X3_takes (zKX X) J h) := by
  intro J hJ h hh
  unfold zB_X3_takes
  simp only [List.mem_cons, List.not_mem_nil, or_false] at hh
  subst hh
  exact zbs_X3_takes_20 hR J hJ
theorem zdn_X3_takes : yX3_takes.cls ≠ "java/lang/invoke/MethodHandle" ∧ yX3_takes.cls ≠ "java/lang/invoke/VarHandle" ∧ (parseMethodDescriptor yX3_takes.desc).map (fun d => d.parameters.length) = some 1 := by decide +kernel
/-! takes, takesNumber -/
def zSw : List (List Nat) := [[121, 101, 97, 114], [100, 121, 107, 101], [111, 112, 101, 110], [99, 117, 116], [100, 114, 101, 100, 103, 101], [98, 121], [116, 111], [59]]
def zwl' (i : Nat) : Nat := zSl.getD i 0
def zwc (i n : Nat) : Nat := (zSw.getD i []).getD n 0
theorem zwc_ch : ∀ i, i < 8 → ∀ n, n < 6 → zch i n = nI (zwc i n) ∧ zwc i n < 128 := by decide
def wiw (tp : List Nat) (a b i : Nat) : Bool := decide (b = a + zwl' i ∧ ∀ n, n < zwl' i → bt tp (a + n) = zwc i n)
def zc_X3_takes (a : List Value) (M : zMm) (K : zKt) : Prop := match a with
  | [.ref k, .ref w] => ∃ tp a b i, zRd M k tp a b ∧ a ≤ b ∧ b ≤ tp.length ∧ i < 8 ∧ w = 2010 + i ∧ (wiw tp a b i = false → K (some (.int 0)) M) ∧ (wiw tp a b i = true → ∀ M', zsm [k] M M' → zRd M' k tp (wtk tp b).1 (wtk tp b).2 → M'.2.1 k 4 = M.2.1 k 4 → K (some (.int 1)) M')
  | _ => False
set_option maxHeartbeats 2000000 in
theorem zm_X3_takes (l : Launch) (D : va_G) (Y : Nat → ClassId) : zMt l D Y yX3_takes cX3_takes 3 (some .boolean) 4 85 0 0 zc_X3_takes := by
  refine zwhile1 (h0 := 20) (by decide) (fun K J _ _ => zb_X3_takes_0 K J) (fun K _ _ J => zb_X3_takes_20 K J) (fun X hR J hJ => zbs_X3_takes_0 hR J hJ) (fun X hR J hJ => zbs_X3_takes_20 hR J hJ) (fun avs M K h => ?_)
  unfold zc_X3_takes at h
  split at h
  · next k w =>
    obtain ⟨tp, a, b, i, hRd, hab, hb, hi, rfl, hF, hTr⟩ := h
    obtain ⟨hk, hk5, r0, r3, hT, hga, hgb⟩ := id hRd
    have t1 := hT.1
    have t2 := hT.2.1
    have h6 := zSl_6 i hi
    have hwl : zwl' i = zSl.getD i 0 := rfl
    refine ⟨by simp [zent], fun q M' ls st => M' = M ∧ b = a + zwl' i ∧ ∃ n, q = 10 - n ∧ n ≤ zwl' i ∧ ls = [some (.ref k), some (.ref (2010 + i)), some (.int (nI n))] ∧ st = [] ∧ ∀ n', n' < n → bt tp (a + n') = zwc i n', ?_, ?_⟩
    · rintro q J hJ M' ls st ⟨rfl, he, n, rfl, hn, rfl, rfl, hall⟩
      simp only [zb_X3_takes_20, zT_VS0, zT_VS1, hk, zsh_3, zsh_4, r0, r3, hga, zT_push, zT_bin, zT_div, zT_bil, zT_shl, zT_un, zT_i2l, zT_l2i, zT_lcmp, zT_ild, zT_lld, zT_ald, zT_ist, zT_lst, zT_ast, zT_iinc, zT_dup, zT_dup2, zT_pop, zT_if1, zT_if2, zT_ifn, zT_getI, zT_getJ, zT_getR, zT_putI, zT_putZ, zT_putJ, zT_putR, zT_ald0, zT_lald, zT_aald, zT_iast, zT_zast, zT_bast, zT_last, zT_aast, zT_iret, zT_nret, zT_aret, zT_vret, zT_oi, zT_mm, zT_ialX, zT_S1, zT_S2, zT_S3, zT_V0, zT_V1, zT_V2, zT_V3, zT_V4, zT_V5, zT_V6, zT_I0, zT_I1, zT_I2, zlg, zlset, zlpr, zent, zok, va_rf, List.length_cons, List.length_nil, List.replicate, List.cons_append, List.nil_append, List.append_nil, Option.toList_some, Option.toList_none, Option.toList, Nat.reduceAdd, Nat.reduceSub, Nat.reduceLeDiff, Nat.zero_add, Nat.zero_le, true_and, and_true, Nat.le_refl, ge_iff_le, Nat.reduceEqDiff]
      refine ⟨⟨i, hi, rfl⟩, ?_⟩
      unfold zc_J0_length_8abf5
      dsimp only
      refine ⟨i, hi, rfl, ?_⟩
      simp only [hk, zsh_3, zsh_4, r0, r3, hga, nI_add, zT_push, zT_bin, zT_div, zT_bil, zT_shl, zT_un, zT_i2l, zT_l2i, zT_lcmp, zT_ild, zT_lld, zT_ald, zT_ist, zT_lst, zT_ast, zT_iinc, zT_dup, zT_dup2, zT_pop, zT_if1, zT_if2, zT_ifn, zT_getI, zT_getJ, zT_getR, zT_putI, zT_putZ, zT_putJ, zT_putR, zT_ald0, zT_lald, zT_aald, zT_iast, zT_zast, zT_bast, zT_last, zT_aast, zT_iret, zT_nret, zT_aret, zT_vret, zT_oi, zT_mm, zT_ialX, zT_S1, zT_S2, zT_S3, zT_V0, zT_V1, zT_V2, zT_V3, zT_V4, zT_V5, zT_V6, zT_I0, zT_I1, zT_I2, zlg, zlset, zlpr, zent, zok, va_rf, List.length_cons, List.length_nil, List.replicate, List.cons_append, List.nil_append, List.append_nil, Option.toList_some, Option.toList_none, Option.toList, Nat.reduceAdd, Nat.reduceSub, Nat.reduceLeDiff, Nat.zero_add, Nat.zero_le, true_and, and_true, Nat.le_refl, ge_iff_le, Nat.reduceEqDiff]
      refine ⟨fun h1 => ?_, fun h1 => ?_⟩
      · have := zn_ge' h1 (by omega) (by omega)
        have en : n = zwl' i := by omega
        unfold zc_X3_step
        dsimp only
        refine ⟨tp, a, b, hRd, hb, fun M2 hs2 hR2 h4 => ?_⟩
        refine ⟨rfl, hTr ?_ M2 hs2 hR2 h4⟩
        unfold wiw
        simp only [decide_eq_true_eq]
        exact ⟨he, by rw [← en]; exact hall⟩
      · have hlt := zn_ge h1 (by omega) (by omega)
        obtain ⟨v1, v2⟩ := hT.at (i := a + n) (by omega)
        obtain ⟨w1, w2⟩ := zwc_ch i hi n (by omega)
        rw [nI_clamp (by omega), v2]
        refine ⟨vp_in_nI (by omega) (by decide), ⟨i, hi, rfl⟩, ?_⟩
        unfold zc_J0_charAt_5068e
        dsimp only
        refine ⟨i, n, hi, rfl, hlt, rfl, ?_⟩
        simp only [w1, zT_push, zT_bin, zT_div, zT_bil, zT_shl, zT_un, zT_i2l, zT_l2i, zT_lcmp, zT_ild, zT_lld, zT_ald, zT_ist, zT_lst, zT_ast, zT_iinc, zT_dup, zT_dup2, zT_pop, zT_if1, zT_if2, zT_ifn, zT_getI, zT_getJ, zT_getR, zT_putI, zT_putZ, zT_putJ, zT_putR, zT_ald0, zT_lald, zT_aald, zT_iast, zT_zast, zT_bast, zT_last, zT_aast, zT_iret, zT_nret, zT_aret, zT_vret, zT_oi, zT_mm, zT_ialX, zT_S1, zT_S2, zT_S3, zT_V0, zT_V1, zT_V2, zT_V3, zT_V4, zT_V5, zT_V6, zT_I0, zT_I1, zT_I2, zlg, zlset, zlpr, zent, zok, va_rf, List.length_cons, List.length_nil, List.replicate, List.cons_append, List.nil_append, List.append_nil, Option.toList_some, Option.toList_none, Option.toList, Nat.reduceAdd, Nat.reduceSub, Nat.reduceLeDiff, Nat.zero_add, Nat.zero_le, true_and, and_true, Nat.le_refl, ge_iff_le, Nat.reduceEqDiff]
        refine ⟨fun h2 => ?_, fun h2 => ?_⟩
        · have h3 := (zsb_eq _ v1 _ w2).mp h2
          refine hJ (10 - (n + 1)) _ _ _ (by omega) ⟨rfl, he, n + 1, rfl, hlt, by rw [nI_1], rfl, fun n' hn' => ?_⟩
          by_cases e : n' = n
          · rw [e]; exact h3
          · exact hall n' (by omega)
        · have h3 : ¬ bt tp (a + n) = zwc i n := fun z => h2 ((zsb_eq _ v1 _ w2).mpr z)
          refine ⟨rfl, hF ?_⟩
          unfold wiw
          simp only [decide_eq_false_iff_not]
          exact fun z => h3 (z.2 n hlt)
    · intro J hJ
      simp only [zb_X3_takes_0, zT_VS0, hk, hga, hgb, zT_push, zT_bin, zT_div, zT_bil, zT_shl, zT_un, zT_i2l, zT_l2i, zT_lcmp, zT_ild, zT_lld, zT_ald, zT_ist, zT_lst, zT_ast, zT_iinc, zT_dup, zT_dup2, zT_pop, zT_if1, zT_if2, zT_ifn, zT_getI, zT_getJ, zT_getR, zT_putI, zT_putZ, zT_putJ, zT_putR, zT_ald0, zT_lald, zT_aald, zT_iast, zT_zast, zT_bast, zT_last, zT_aast, zT_iret, zT_nret, zT_aret, zT_vret, zT_oi, zT_mm, zT_ialX, zT_S1, zT_S2, zT_S3, zT_V0, zT_V1, zT_V2, zT_V3, zT_V4, zT_V5, zT_V6, zT_I0, zT_I1, zT_I2, zlg, zlset, zlpr, zent, zok, va_rf, List.length_cons, List.length_nil, List.replicate, List.cons_append, List.nil_append, List.append_nil, Option.toList_some, Option.toList_none, Option.toList, Nat.reduceAdd, Nat.reduceSub, Nat.reduceLeDiff, Nat.zero_add, Nat.zero_le, true_and, and_true, Nat.le_refl, ge_iff_le, Nat.reduceEqDiff]
      refine ⟨⟨i, hi, rfl⟩, ?_⟩
      unfold zc_J0_length_8abf5
      dsimp only
      refine ⟨i, hi, rfl, ?_⟩
      rw [pk_sub hab]
      refine ⟨fun h1 => ?_, fun h1 => ?_⟩
      · have := (nI_eq (by omega) (by omega)).mp h1
        exact hJ 10 _ _ _ ⟨rfl, by omega, 0, rfl, by omega, rfl, rfl, fun n' hn' => absurd hn' (Nat.not_lt_zero _)⟩
      · refine ⟨rfl, hF ?_⟩
        unfold wiw
        simp only [decide_eq_false_iff_not]
        intro z
        refine h1 ?_
        rw [show b - a = zSl.getD i 0 from by omega]
  · exact h.elim
/-! DeltaRuns$Reader takesNumber -/
theorem zd_X3_takesNumber_0 : decode cX3_takesNumber 0 = .ok (.aload_n 0, 1) := by decide +kernel
theorem zd_X3_takesNumber_1 : decode cX3_takesNumber 1 = .ok (.invokevirtual 28, 3) := by decide +kernel
theorem zd_X3_takesNumber_4 : decode cX3_takesNumber 4 = .ok (.ifCond .ne 21, 3) := by decide +kernel
theorem zd_X3_takesNumber_7 : decode cX3_takesNumber 7 = .ok (.aload_n 0, 1) := by decide +kernel
theorem zd_X3_takesNumber_8 : decode cX3_takesNumber 8 = .ok (.getfield 9, 3) := by decide +kernel
theorem zd_X3_takesNumber_11 : decode cX3_takesNumber 11 = .ok (.getfield 94, 3) := by decide +kernel
theorem zd_X3_takesNumber_14 : decode cX3_takesNumber 14 = .ok (.aload_n 0, 1) := by decide +kernel
theorem zd_X3_takesNumber_15 : decode cX3_takesNumber 15 = .ok (.getfield 36, 3) := by decide +kernel
theorem zd_X3_takesNumber_18 : decode cX3_takesNumber 18 = .ok (.baload, 1) := by decide +kernel
theorem zd_X3_takesNumber_19 : decode cX3_takesNumber 19 = .ok (.invokestatic 104, 3) := by decide +kernel
theorem zd_X3_takesNumber_22 : decode cX3_takesNumber 22 = .ok (.ifCond .ne 5, 3) := by decide +kernel
theorem zd_X3_takesNumber_25 : decode cX3_takesNumber 25 = .ok (.iconst 0, 1) := by decide +kernel
theorem zd_X3_takesNumber_26 : decode cX3_takesNumber 26 = .ok (.ireturn, 1) := by decide +kernel
theorem zd_X3_takesNumber_27 : decode cX3_takesNumber 27 = .ok (.iconst 0, 1) := by decide +kernel
theorem zd_X3_takesNumber_28 : decode cX3_takesNumber 28 = .ok (.istore_n 3, 1) := by decide +kernel
theorem zd_X3_takesNumber_29 : decode cX3_takesNumber 29 = .ok (.aload_n 0, 1) := by decide +kernel
theorem zd_X3_takesNumber_30 : decode cX3_takesNumber 30 = .ok (.getfield 36, 3) := by decide +kernel
theorem zd_X3_takesNumber_33 : decode cX3_takesNumber 33 = .ok (.istore 4, 2) := by decide +kernel
theorem zd_X3_takesNumber_35 : decode cX3_takesNumber 35 = .ok (.iload 4, 2) := by decide +kernel
theorem zd_X3_takesNumber_37 : decode cX3_takesNumber 37 = .ok (.aload_n 0, 1) := by decide +kernel
theorem zd_X3_takesNumber_38 : decode cX3_takesNumber 38 = .ok (.getfield 86, 3) := by decide +kernel
theorem zd_X3_takesNumber_41 : decode cX3_takesNumber 41 = .ok (.if_icmp .ge 34, 3) := by decide +kernel
theorem zd_X3_takesNumber_44 : decode cX3_takesNumber 44 = .ok (.iload_n 2, 1) := by decide +kernel
theorem zd_X3_takesNumber_45 : decode cX3_takesNumber 45 = .ok (.iconst 1, 1) := by decide +kernel
theorem zd_X3_takesNumber_46 : decode cX3_takesNumber 46 = .ok (.iadd, 1) := by decide +kernel
theorem zd_X3_takesNumber_47 : decode cX3_takesNumber 47 = .ok (.bipush 10, 2) := by decide +kernel
theorem zd_X3_takesNumber_49 : decode cX3_takesNumber 49 = .ok (.iload_n 3, 1) := by decide +kernel
theorem zd_X3_takesNumber_50 : decode cX3_takesNumber 50 = .ok (.imul, 1) := by decide +kernel
theorem zd_X3_takesNumber_51 : decode cX3_takesNumber 51 = .ok (.aload_n 0, 1) := by decide +kernel
theorem zd_X3_takesNumber_52 : decode cX3_takesNumber 52 = .ok (.getfield 9, 3) := by decide +kernel
theorem zd_X3_takesNumber_55 : decode cX3_takesNumber 55 = .ok (.getfield 94, 3) := by decide +kernel
theorem zd_X3_takesNumber_58 : decode cX3_takesNumber 58 = .ok (.iload 4, 2) := by decide +kernel
theorem zd_X3_takesNumber_60 : decode cX3_takesNumber 60 = .ok (.baload, 1) := by decide +kernel
theorem zd_X3_takesNumber_61 : decode cX3_takesNumber 61 = .ok (.iadd, 1) := by decide +kernel
theorem zd_X3_takesNumber_62 : decode cX3_takesNumber 62 = .ok (.bipush 48, 2) := by decide +kernel
theorem zd_X3_takesNumber_64 : decode cX3_takesNumber 64 = .ok (.isub, 1) := by decide +kernel
theorem zd_X3_takesNumber_65 : decode cX3_takesNumber 65 = .ok (.invokestatic 107, 3) := by decide +kernel
theorem zd_X3_takesNumber_68 : decode cX3_takesNumber 68 = .ok (.istore_n 3, 1) := by decide +kernel
theorem zd_X3_takesNumber_69 : decode cX3_takesNumber 69 = .ok (.iinc 4 1, 3) := by decide +kernel
theorem zd_X3_takesNumber_72 : decode cX3_takesNumber 72 = .ok (.goto (-37), 3) := by decide +kernel
theorem zd_X3_takesNumber_75 : decode cX3_takesNumber 75 = .ok (.iload_n 3, 1) := by decide +kernel
theorem zd_X3_takesNumber_76 : decode cX3_takesNumber 76 = .ok (.iload_n 1, 1) := by decide +kernel
theorem zd_X3_takesNumber_77 : decode cX3_takesNumber 77 = .ok (.iload_n 2, 1) := by decide +kernel
theorem zd_X3_takesNumber_78 : decode cX3_takesNumber 78 = .ok (.invokestatic 113, 3) := by decide +kernel
theorem zd_X3_takesNumber_81 : decode cX3_takesNumber 81 = .ok (.ifCond .ne 5, 3) := by decide +kernel
theorem zd_X3_takesNumber_84 : decode cX3_takesNumber 84 = .ok (.iconst 0, 1) := by decide +kernel
theorem zd_X3_takesNumber_85 : decode cX3_takesNumber 85 = .ok (.ireturn, 1) := by decide +kernel
theorem zd_X3_takesNumber_86 : decode cX3_takesNumber 86 = .ok (.aload_n 0, 1) := by decide +kernel
theorem zd_X3_takesNumber_87 : decode cX3_takesNumber 87 = .ok (.iload_n 3, 1) := by decide +kernel
theorem zd_X3_takesNumber_88 : decode cX3_takesNumber 88 = .ok (.putfield 55, 3) := by decide +kernel
theorem zd_X3_takesNumber_91 : decode cX3_takesNumber 91 = .ok (.aload_n 0, 1) := by decide +kernel
theorem zd_X3_takesNumber_92 : decode cX3_takesNumber 92 = .ok (.invokevirtual 25, 3) := by decide +kernel
theorem zd_X3_takesNumber_95 : decode cX3_takesNumber 95 = .ok (.iconst 1, 1) := by decide +kernel
theorem zd_X3_takesNumber_96 : decode cX3_takesNumber 96 = .ok (.ireturn, 1) := by decide +kernel
def zb_X3_takesNumber_25 (K : zKt) (J : Nat → zPP) : zPP := zT_push (.int 0) (zT_nret .boolean K)
theorem zbs_X3_takesNumber_25 {X : zCt} (hR : zRX X = { frames := 2, cells := 0, slots := 0, locals := 42 }) (J : Nat → zPP) (hJ : ∀ h ∈ ([35] : List Nat), zSd X RX3 "takesNumber" cX3_takesNumber 5 (some .boolean) h (J h)) : zSd X RX3 "takesNumber" cX3_takesNumber 5 (some .boolean) 25 (zb_X3_takesNumber_25 (zKX X) J) := zs_iconst zd_X3_takesNumber_25 (by decide) (zs_nret rfl zd_X3_takesNumber_26)
def zb_X3_takesNumber_0 (K : zKt) (J : Nat → zPP) : zPP := zT_ald 0 (zT_V0 zok 3 5 zc_X3_atEnd (zT_if1 (fun x => x = 0) (zT_ald 0 (zT_getR 3 0 5 (zT_getR 4 0 2 (zT_ald 0 (zT_getI 3 2 5 (zT_ald0 2 (zT_S1 zok zc_X3_isDigit (zT_if1 (fun x => x = 0) (zb_X3_takesNumber_25 K J) (zT_push (.int 0) (zT_ist 3 (zT_ald 0 (zT_getI 3 2 5 (zT_ist 4 (J 35)))))))))))))) (zb_X3_takesNumber_25 K J)))
theorem zbs_X3_takesNumber_0 {X : zCt} (hR : zRX X = { frames := 2, cells := 0, slots := 0, locals := 42 }) (J : Nat → zPP) (hJ : ∀ h ∈ ([35] : List Nat), zSd X RX3 "takesNumber" cX3_takesNumber 5 (some .boolean) h (J h)) : zSd X RX3 "takesNumber" cX3_takesNumber 5 (some .boolean) 0 (zb_X3_takesNumber_0 (zKX X) J) := zs_aload_n zd_X3_takesNumber_0 rfl (zs_V (ci := 3) rfl rfl (zm_X3_atEnd _ _ _) gw_2_66 gw_2_63 gw_2_65 gw_0_4 gw_1_8 zdn_X3_atEnd (zrm hR (by decide) (by decide)) zd_X3_takesNumber_1 (zCl_V0 zok_l) (zs_if_ne (tgt := 25) zd_X3_takesNumber_4 (by decide) (zbs_X3_takesNumber_25 hR J hJ) (zs_aload_n zd_X3_takesNumber_7 rfl (zs_getR (ci := 3) (j := 0) (T := TX3) rfl inX3 (by decide) gw_2_39 rfl zd_X3_takesNumber_8 (zs_getR (ci := 4) (j := 0) (T := TX4) rfl inX4 (by decide) gw_1_68 rfl zd_X3_takesNumber_11 (zs_aload_n zd_X3_takesNumber_14 rfl (zs_getI (ci := 3) (j := 2) (T := TX3) rfl inX3 (by decide) gw_2_41 rfl zd_X3_takesNumber_15 (zs_bald zd_X3_takesNumber_18 (zs_S (zm_X3_isDigit _ _ _) gw_2_72 gw_2_70 gw_2_71 gw_1_8 zdn_X3_isDigit (zrm hR (by decide) (by decide)) zd_X3_takesNumber_19 (zCl_S1 zok_l) (zs_if_ne (tgt := 27) zd_X3_takesNumber_22 (by decide) (zs_iconst zd_X3_takesNumber_27 (by decide) (zs_istore_n zd_X3_takesNumber_28 rfl (by decide) (zs_aload_n zd_X3_takesNumber_29 rfl (zs_getI (ci := 3) (j := 2) (T := TX3) rfl inX3 (by decide) gw_2_41 rfl zd_X3_takesNumber_30 (zs_istore zd_X3_takesNumber_33 (by decide) (hJ 35 (by decide))))))) (zbs_X3_takesNumber_25 hR J hJ)))))))))))
def zb_X3_takesNumber_35 (K : zKt) (J : Nat → zPP) : zPP := zT_ild 4 (zT_ald 0 (zT_getI 3 3 5 (zT_if2 (fun x y => y ≤ x) (zT_ild 3 (zT_ild 1 (zT_ild 2 (zT_S3 zok zc_X7_within (zT_if1 (fun x => x = 0) (zT_push (.int 0) (zT_nret .boolean K)) (zT_ald 0 (zT_ild 3 (zT_putI 3 4 5 (zT_ald 0 (zT_V0 zok 3 5 zc_X3_step (zT_push (.int 1) (zT_nret .boolean K)))))))))))) (zT_ild 2 (zT_push (.int 1) (zT_bin (fun x y => x + y) (zT_push (.int 10) (zT_ild 3 (zT_bin (fun x y => x * y) (zT_ald 0 (zT_getR 3 0 5 (zT_getR 4 0 2 (zT_ild 4 (zT_ald0 2 (zT_bin (fun x y => x + y) (zT_push (.int 48) (zT_bin (fun x y => x - y) (zT_mm (fun x y => if y < x then y else x) (zT_ist 3 (zT_iinc 4 1 (J 35)))))))))))))))))))))
theorem zbs_X3_takesNumber_35 {X : zCt} (hR : zRX X = { frames := 2, cells := 0, slots := 0, locals := 42 }) (J : Nat → zPP) (hJ : ∀ h ∈ ([35] : List Nat), zSd X RX3 "takesNumber" cX3_takesNumber 5 (some .boolean) h (J h)) : zSd X RX3 "takesNumber" cX3_takesNumber 5 (some .boolean) 35 (zb_X3_takesNumber_35 (zKX X) J) := zs_iload zd_X3_takesNumber_35 (zs_aload_n zd_X3_takesNumber_37 rfl (zs_getI (ci := 3) (j := 3) (T := TX3) rfl inX3 (by decide) gw_2_42 rfl zd_X3_takesNumber_38 (zs_icmp_ge (tgt := 75) zd_X3_takesNumber_41 (by decide) (zs_iload_n zd_X3_takesNumber_75 rfl (zs_iload_n zd_X3_takesNumber_76 rfl (zs_iload_n zd_X3_takesNumber_77 rfl (zs_SN (zm_X7_within _ _ _) gw_1_219 (List.mem_of_getElem? (i := 5) rfl) gw_1_218 gw_1_1 zdn_X7_within (zrm hR (by decide) (by decide)) zd_X3_takesNumber_78 (zCl_S3 zok_l) (zs_if_ne (tgt := 86) zd_X3_takesNumber_81 (by decide) (zs_aload_n zd_X3_takesNumber_86 rfl (zs_iload_n zd_X3_takesNumber_87 rfl (zs_putI (ci := 3) (j := 4) (T := TX3) rfl inX3 tyX3_ok nmX3 (by decide) gw_2_43 rfl rfl rfl zd_X3_takesNumber_88 (zs_aload_n zd_X3_takesNumber_91 rfl (zs_V (ci := 3) rfl rfl (zm_X3_step _ _ _) gw_2_62 gw_2_59 gw_2_61 gw_0_3 gw_1_8 zdn_X3_step (zrm hR (by decide) (by decide)) zd_X3_takesNumber_92 (zCl_V0 zok_l) (zs_iconst zd_X3_takesNumber_95 (by decide) (zs_nret rfl zd_X3_takesNumber_96))))))) (zs_iconst zd_X3_takesNumber_84 (by decide) (zs_nret rfl zd_X3_takesNumber_85))))))) (zs_iload_n zd_X3_takesNumber_44 rfl (zs_iconst zd_X3_takesNumber_45 (by decide) (zs_iadd zd_X3_takesNumber_46 (zs_bipush zd_X3_takesNumber_47 (by decide) (zs_iload_n zd_X3_takesNumber_49 rfl (zs_imul zd_X3_takesNumber_50 (zs_aload_n zd_X3_takesNumber_51 rfl (zs_getR (ci := 3) (j := 0) (T := TX3) rfl inX3 (by decide) gw_2_39 rfl zd_X3_takesNumber_52 (zs_getR (ci := 4) (j := 0) (T := TX4) rfl inX4 (by decide) gw_1_68 rfl zd_X3_takesNumber_55 (zs_iload zd_X3_takesNumber_58 (zs_bald zd_X3_takesNumber_60 (zs_iadd zd_X3_takesNumber_61 (zs_bipush zd_X3_takesNumber_62 (by decide) (zs_isub zd_X3_takesNumber_64 (zs_min gw_2_134 gw_2_135 gw_1_13 gw_2_136 (zrm1 hR (by decide) (by decide)) zd_X3_takesNumber_65 (zs_istore_n zd_X3_takesNumber_68 rfl (by decide) (zs_iinc zd_X3_takesNumber_69 (by decide) (by decide) (zs_goto (tgt := 35) zd_X3_takesNumber_72 (by decide) (hJ 35 (by decide)))))))))))))))))))))))
def zB_X3_takesNumber (K : zKt) (J : Nat → zPP) (h : Nat) : zPP := if h = 35 then zb_X3_takesNumber_35 K J else (fun _ _ _ => False)
theorem zBs_X3_takesNumber {X : zCt} (hR : zRX X = { frames := 2, cells := 0, slots := 0, locals := 42 }) : ∀ J : Nat → zPP, (∀ h ∈ ([35] : List Nat), zSd X RX3 "takesNumber" cX3_takesNumber 5 (some .boolean) h (J h)) → ∀ h ∈ ([35] : List Nat), zSd X RX3 "takesNumber" cX3_takesNumber 5 (some .boolean) h (zB_X3_takesNumber (zKX X) J h) := by
  intro J hJ h hh
  unfold zB_X3_takesNumber
  simp only [List.mem_cons, List.not_mem_nil, or_false] at hh
  subst hh
  exact zbs_X3_takesNumber_35 hR J hJ
theorem zdn_X3_takesNumber : yX3_takesNumber.cls ≠ "java/lang/invoke/MethodHandle" ∧ yX3_takesNumber.cls ≠ "java/lang/invoke/VarHandle" ∧ (parseMethodDescriptor yX3_takesNumber.desc).map (fun d => d.parameters.length) = some 2 := by decide +kernel
/-! DeltaRuns$Reader takeKind -/
theorem zd_X3_takeKind_0 : decode cX3_takeKind 0 = .ok (.aload_n 0, 1) := by decide +kernel
theorem zd_X3_takeKind_1 : decode cX3_takeKind 1 = .ok (.ldc 78, 2) := by decide +kernel
theorem zd_X3_takeKind_3 : decode cX3_takeKind 3 = .ok (.invokevirtual 41, 3) := by decide +kernel
theorem zd_X3_takeKind_6 : decode cX3_takeKind 6 = .ok (.ifCond .eq 5, 3) := by decide +kernel
theorem zd_X3_takeKind_9 : decode cX3_takeKind 9 = .ok (.iconst 0, 1) := by decide +kernel
theorem zd_X3_takeKind_10 : decode cX3_takeKind 10 = .ok (.ireturn, 1) := by decide +kernel
theorem zd_X3_takeKind_11 : decode cX3_takeKind 11 = .ok (.aload_n 0, 1) := by decide +kernel
theorem zd_X3_takeKind_12 : decode cX3_takeKind 12 = .ok (.ldc 80, 2) := by decide +kernel
theorem zd_X3_takeKind_14 : decode cX3_takeKind 14 = .ok (.invokevirtual 41, 3) := by decide +kernel
theorem zd_X3_takeKind_17 : decode cX3_takeKind 17 = .ok (.ifCond .eq 5, 3) := by decide +kernel
theorem zd_X3_takeKind_20 : decode cX3_takeKind 20 = .ok (.iconst 1, 1) := by decide +kernel
theorem zd_X3_takeKind_21 : decode cX3_takeKind 21 = .ok (.ireturn, 1) := by decide +kernel
theorem zd_X3_takeKind_22 : decode cX3_takeKind 22 = .ok (.aload_n 0, 1) := by decide +kernel
theorem zd_X3_takeKind_23 : decode cX3_takeKind 23 = .ok (.ldc 82, 2) := by decide +kernel
theorem zd_X3_takeKind_25 : decode cX3_takeKind 25 = .ok (.invokevirtual 41, 3) := by decide +kernel
theorem zd_X3_takeKind_28 : decode cX3_takeKind 28 = .ok (.ifCond .eq 5, 3) := by decide +kernel
theorem zd_X3_takeKind_31 : decode cX3_takeKind 31 = .ok (.iconst 2, 1) := by decide +kernel
theorem zd_X3_takeKind_32 : decode cX3_takeKind 32 = .ok (.ireturn, 1) := by decide +kernel
theorem zd_X3_takeKind_33 : decode cX3_takeKind 33 = .ok (.aload_n 0, 1) := by decide +kernel
theorem zd_X3_takeKind_34 : decode cX3_takeKind 34 = .ok (.ldc 84, 2) := by decide +kernel
theorem zd_X3_takeKind_36 : decode cX3_takeKind 36 = .ok (.invokevirtual 41, 3) := by decide +kernel
theorem zd_X3_takeKind_39 : decode cX3_takeKind 39 = .ok (.ifCond .eq 7, 3) := by decide +kernel
theorem zd_X3_takeKind_42 : decode cX3_takeKind 42 = .ok (.iconst 3, 1) := by decide +kernel
theorem zd_X3_takeKind_43 : decode cX3_takeKind 43 = .ok (.goto 4, 3) := by decide +kernel
theorem zd_X3_takeKind_46 : decode cX3_takeKind 46 = .ok (.iconst (-1), 1) := by decide +kernel
theorem zd_X3_takeKind_47 : decode cX3_takeKind 47 = .ok (.ireturn, 1) := by decide +kernel
def zb_X3_takeKind_47 (K : zKt) (J : Nat → zPP) : zPP := zT_iret K
theorem zbs_X3_takeKind_47 {X : zCt} (hR : zRX X = { frames := 5, cells := 0, slots := 0, locals := 107 }) (J : Nat → zPP) (hJ : ∀ h ∈ ([] : List Nat), zSd X RX3 "takeKind" cX3_takeKind 1 (some .int) h (J h)) : zSd X RX3 "takeKind" cX3_takeKind 1 (some .int) 47 (zb_X3_takeKind_47 (zKX X) J) := zs_iret rfl zd_X3_takeKind_47
def zb_X3_takeKind_0 (K : zKt) (J : Nat → zPP) : zPP := zT_ald 0 (zT_push (.ref (2010 + 1)) (zT_V1 zok 3 5 zc_X3_takes (zT_if1 (fun x => x = 0) (zT_ald 0 (zT_push (.ref (2010 + 2)) (zT_V1 zok 3 5 zc_X3_takes (zT_if1 (fun x => x = 0) (zT_ald 0 (zT_push (.ref (2010 + 3)) (zT_V1 zok 3 5 zc_X3_takes (zT_if1 (fun x => x = 0) (zT_ald 0 (zT_push (.ref (2010 + 4)) (zT_V1 zok 3 5 zc_X3_takes (zT_if1 (fun x => x = 0) (zT_push (.int (-1)) (zb_X3_takeKind_47 K J)) (zT_push (.int 3) (zb_X3_takeKind_47 K J)))))) (zT_push (.int 2) (zT_iret K)))))) (zT_push (.int 1) (zT_iret K)))))) (zT_push (.int 0) (zT_iret K)))))
theorem zbs_X3_takeKind_0 {X : zCt} (hR : zRX X = { frames := 5, cells := 0, slots := 0, locals := 107 }) (J : Nat → zPP) (hJ : ∀ h ∈ ([] : List Nat), zSd X RX3 "takeKind" cX3_takeKind 1 (some .int) h (J h)) : zSd X RX3 "takeKind" cX3_takeKind 1 (some .int) 0 (zb_X3_takeKind_0 (zKX X) J) := zs_aload_n zd_X3_takeKind_0 rfl (zs_ldcS 1 (by decide) rfl rfl zd_X3_takeKind_1 (zs_V (ci := 3) rfl rfl (zm_X3_takes _ _ _) gw_2_81 gw_2_78 gw_2_80 gw_0_6 gw_1_8 zdn_X3_takes (zrm hR (by decide) (by decide)) zd_X3_takeKind_3 (zCl_V1 zok_l) (zs_if_eq (tgt := 11) zd_X3_takeKind_6 (by decide) (zs_aload_n zd_X3_takeKind_11 rfl (zs_ldcS 2 (by decide) rfl rfl zd_X3_takeKind_12 (zs_V (ci := 3) rfl rfl (zm_X3_takes _ _ _) gw_2_81 gw_2_78 gw_2_80 gw_0_6 gw_1_8 zdn_X3_takes (zrm hR (by decide) (by decide)) zd_X3_takeKind_14 (zCl_V1 zok_l) (zs_if_eq (tgt := 22) zd_X3_takeKind_17 (by decide) (zs_aload_n zd_X3_takeKind_22 rfl (zs_ldcS 3 (by decide) rfl rfl zd_X3_takeKind_23 (zs_V (ci := 3) rfl rfl (zm_X3_takes _ _ _) gw_2_81 gw_2_78 gw_2_80 gw_0_6 gw_1_8 zdn_X3_takes (zrm hR (by decide) (by decide)) zd_X3_takeKind_25 (zCl_V1 zok_l) (zs_if_eq (tgt := 33) zd_X3_takeKind_28 (by decide) (zs_aload_n zd_X3_takeKind_33 rfl (zs_ldcS 4 (by decide) rfl rfl zd_X3_takeKind_34 (zs_V (ci := 3) rfl rfl (zm_X3_takes _ _ _) gw_2_81 gw_2_78 gw_2_80 gw_0_6 gw_1_8 zdn_X3_takes (zrm hR (by decide) (by decide)) zd_X3_takeKind_36 (zCl_V1 zok_l) (zs_if_eq (tgt := 46) zd_X3_takeKind_39 (by decide) (zs_iconst zd_X3_takeKind_46 (by decide) (zbs_X3_takeKind_47 hR J hJ)) (zs_iconst zd_X3_takeKind_42 (by decide) (zs_goto (tgt := 47) zd_X3_takeKind_43 (by decide) (zbs_X3_takeKind_47 hR J hJ))))))) (zs_iconst zd_X3_takeKind_31 (by decide) (zs_iret rfl zd_X3_takeKind_32)))))) (zs_iconst zd_X3_takeKind_20 (by decide) (zs_iret rfl zd_X3_takeKind_21)))))) (zs_iconst zd_X3_takeKind_9 (by decide) (zs_iret rfl zd_X3_takeKind_10)))))
theorem zdn_X3_takeKind : yX3_takeKind.cls ≠ "java/lang/invoke/MethodHandle" ∧ yX3_takeKind.cls ≠ "java/lang/invoke/VarHandle" ∧ (parseMethodDescriptor yX3_takeKind.desc).map (fun d => d.parameters.length) = some 0 := by decide +kernel
def wdv (tp : List Nat) (a : Nat) : Nat → Nat
  | 0 => 0
  | n + 1 => 10 * wdv tp a n + (bt tp (a + n) - 48)
def wnv (tp : List Nat) (a : Nat) : Nat := wdv tp a (wte tp a - a)
def wnm (tp : List Nat) (a lo hi : Nat) : Bool := decide (a < tp.length ∧ dgt (bt tp a) = true ∧ lo ≤ wnv tp a ∧ wnv tp a ≤ hi)
theorem wte_dig {tp : List Nat} {a i : Nat} (ha : a < tp.length) (hd : dgt (bt tp a) = true) (h1 : a ≤ i) (h2 : i < wte tp a) : dgt (bt tp i) = true := by
  by_cases e : i = a
  · rw [e]; exact hd
  · unfold wte at h2
    rw [if_neg (by omega)] at h2
    have := wrun_all _ _ i (by omega) h2
    have hl : ltr (bt tp a) = false := by
      unfold dgt at hd
      unfold ltr
      simp only [decide_eq_true_eq] at hd
      simp only [decide_eq_false_iff_not]
      omega
    unfold wq at this
    rw [hl, hd] at this
    simpa using this
def zc_X3_takesNumber (a : List Value) (M : zMm) (K : zKt) : Prop := match a with
  | [.ref k, .int x, .int y] => ∃ tp a lo hi, zRd M k tp a (wte tp a) ∧ a ≤ tp.length ∧ x = nI lo ∧ lo ≤ hi ∧ y = nI hi ∧ hi ≤ 1000 ∧ (wnm tp a lo hi = false → K (some (.int 0)) M) ∧ (wnm tp a lo hi = true → ∀ M', zsm [k] M M' → zRd M' k tp (wtk tp (wte tp a)).1 (wtk tp (wte tp a)).2 → M'.2.1 k 4 = nI (wnv tp a) → K (some (.int 1)) M')
  | _ => False
set_option maxHeartbeats 4000000 in
theorem zm_X3_takesNumber (l : Launch) (D : va_G) (Y : Nat → ClassId) : zMt l D Y yX3_takesNumber cX3_takesNumber 5 (some .boolean) 2 42 0 0 zc_X3_takesNumber := by
  refine zwhile1 (h0 := 35) (by decide) (fun K J _ _ => zb_X3_takesNumber_0 K J) (fun K _ _ J => zb_X3_takesNumber_35 K J) (fun X hR J hJ => zbs_X3_takesNumber_0 hR J hJ) (fun X hR J hJ => zbs_X3_takesNumber_35 hR J hJ) (fun avs M K h => ?_)
  unfold zc_X3_takesNumber at h
  split at h
  · next k x y =>
    obtain ⟨tp, a, lo, hi, hRd, ha, rfl, hlh, rfl, hhi, hF, hTr⟩ := h
    obtain ⟨hk, hk5, r0, r3, hT, hga, hgb⟩ := id hRd
    have t1 := hT.1
    have t2 := hT.2.1
    obtain ⟨te1, te2, te3⟩ := wte_bd ha
    refine ⟨by simp [zent], fun q M' ls st => M' = M ∧ (a < tp.length ∧ dgt (bt tp a) = true) ∧ ∃ n, q = 1000 - n ∧ a + n ≤ wte tp a ∧ ls = [some (.ref k), some (.int (nI lo)), some (.int (nI hi)), some (.int (nI (min (hi + 1) (wdv tp a n)))), some (.int (nI (a + n)))] ∧ st = [], ?_, ?_⟩
    · rintro q J hJ M' ls st ⟨rfl, ⟨hlt, hd⟩, n, rfl, hn, rfl, rfl⟩
      simp only [zb_X3_takesNumber_35, hk, zsh_3, zsh_4, r0, r3, hgb, zT_push, zT_bin, zT_div, zT_bil, zT_shl, zT_un, zT_i2l, zT_l2i, zT_lcmp, zT_ild, zT_lld, zT_ald, zT_ist, zT_lst, zT_ast, zT_iinc, zT_dup, zT_dup2, zT_pop, zT_if1, zT_if2, zT_ifn, zT_getI, zT_getJ, zT_getR, zT_putI, zT_putZ, zT_putJ, zT_putR, zT_ald0, zT_lald, zT_aald, zT_iast, zT_zast, zT_bast, zT_last, zT_aast, zT_iret, zT_nret, zT_aret, zT_vret, zT_oi, zT_mm, zT_ialX, zT_S1, zT_S2, zT_S3, zT_V0, zT_V1, zT_V2, zT_V3, zT_V4, zT_V5, zT_V6, zT_I0, zT_I1, zT_I2, zlg, zlset, zlpr, zent, zok, va_rf, List.length_cons, List.length_nil, List.replicate, List.cons_append, List.nil_append, List.append_nil, Option.toList_some, Option.toList_none, Option.toList, Nat.reduceAdd, Nat.reduceSub, Nat.reduceLeDiff, Nat.zero_add, Nat.zero_le, true_and, and_true, Nat.le_refl, ge_iff_le, Nat.reduceEqDiff]
      refine ⟨fun h1 => ?_, fun h1 => ?_⟩
      · have := zn_ge' h1 (by omega) (by omega)
        have e : n = wte tp a - a := by omega
        unfold zc_X7_within
        dsimp only
        simp only [zbI_0, hk, zT_push, zT_bin, zT_div, zT_bil, zT_shl, zT_un, zT_i2l, zT_l2i, zT_lcmp, zT_ild, zT_lld, zT_ald, zT_ist, zT_lst, zT_ast, zT_iinc, zT_dup, zT_dup2, zT_pop, zT_if1, zT_if2, zT_ifn, zT_getI, zT_getJ, zT_getR, zT_putI, zT_putZ, zT_putJ, zT_putR, zT_ald0, zT_lald, zT_aald, zT_iast, zT_zast, zT_bast, zT_last, zT_aast, zT_iret, zT_nret, zT_aret, zT_vret, zT_oi, zT_mm, zT_ialX, zT_S1, zT_S2, zT_S3, zT_V0, zT_V1, zT_V2, zT_V3, zT_V4, zT_V5, zT_V6, zT_I0, zT_I1, zT_I2, zlg, zlset, zlpr, zent, zok, va_rf, List.length_cons, List.length_nil, List.replicate, List.cons_append, List.nil_append, List.append_nil, Option.toList_some, Option.toList_none, Option.toList, Nat.reduceAdd, Nat.reduceSub, Nat.reduceLeDiff, Nat.zero_add, Nat.zero_le, true_and, and_true, Nat.le_refl, ge_iff_le, Nat.reduceEqDiff]
        have hv : wdv tp a n = wnv tp a := by rw [e]; rfl
        rw [hv]
        refine ⟨fun h2 => ?_, fun h2 => ?_⟩
        · refine ⟨rfl, hF ?_⟩
          unfold wnm
          simp only [decide_eq_false_iff_not]
          rintro ⟨-, -, z1, z2⟩
          refine h2 ⟨(nI_leI (by omega) (by omega)).mpr (by omega), (nI_leI (by omega) (by omega)).mpr (by omega)⟩
        · obtain ⟨z1, z2⟩ := Classical.not_not.mp h2
          have z1' := (nI_leI (by omega) (by omega)).mp z1
          have z2' := (nI_leI (by omega) (by omega)).mp z2
          have hmin : min (hi + 1) (wnv tp a) = wnv tp a := by omega
          rw [hmin]
          unfold zc_X3_step
          dsimp only
          have hs1 : zsm [k] M' (zwI M' k 4 (nI (wnv tp a))) := zsm.rf.w (by simp)
          refine ⟨tp, a, wte tp a, ⟨hk, hk5, r0, r3, hT.rd hs1 hk5, ?_, ?_⟩, te2, fun M2 hs2 hR2 h4 => ?_⟩
          · simp only [zwI_L, zwI_I, zwI_J, zwI_R, zwJ_L, zwJ_I, zwJ_J, zwJ_R, zwR_L, zwR_I, zwR_J, zwR_R, zw2_s, zw2_n, ne_eq, not_false_eq_true, reduceCtorEq, not_true_eq_false, Nat.reduceEqDiff]; rw [zup_n (by decide)]; exact hga
          · simp only [zwI_L, zwI_I, zwI_J, zwI_R, zwJ_L, zwJ_I, zwJ_J, zwJ_R, zwR_L, zwR_I, zwR_J, zwR_R, zw2_s, zw2_n, ne_eq, not_false_eq_true, reduceCtorEq, not_true_eq_false, Nat.reduceEqDiff]; rw [zup_n (by decide)]; exact hgb
          · refine ⟨rfl, hTr ?_ M2 (hs1.tr hs2) hR2 ?_⟩
            · unfold wnm
              simp only [decide_eq_true_eq]
              exact ⟨hlt, hd, by omega, by omega⟩
            · rw [h4]
              simp only [zwI_L, zwI_I, zwI_J, zwI_R, zwJ_L, zwJ_I, zwJ_J, zwJ_R, zwR_L, zwR_I, zwR_J, zwR_R, zw2_s, zw2_n, ne_eq, not_false_eq_true, reduceCtorEq, not_true_eq_false, Nat.reduceEqDiff]; rw [zup_s]
      · have hlt2 := zn_ge h1 (by omega) (by omega)
        obtain ⟨v1, v2⟩ := hT.at (i := a + n) (by omega)
        have hdg := wte_dig hlt hd (Nat.le_add_right a n) hlt2
        have hv := zsb_val _ v1 hdg
        rw [nI_clamp (by omega), v2, hv]
        have hdg' : 48 ≤ bt tp (a + n) ∧ bt tp (a + n) ≤ 57 := by
          unfold dgt at hdg
          simpa using hdg
        refine ⟨vp_in_nI (by omega) (by decide), ?_⟩
        have hm : min (hi + 1) (wdv tp a n) ≤ hi + 1 := Nat.min_le_left _ _
        rw [show (10 : Int32) = nI 10 from rfl, show (48 : Int32) = nI 48 from rfl, pk_mul, nI_add, pk_sub (by omega), nI_1, nI_1, zmin_n (by omega) (by omega)]
        refine hJ (1000 - (n + 1)) _ _ _ (by omega) ⟨rfl, ⟨hlt, hd⟩, n + 1, rfl, by omega, ?_, rfl⟩
        have e : (if 10 * min (hi + 1) (wdv tp a n) + bt tp (a + n) - 48 < hi + 1 then 10 * min (hi + 1) (wdv tp a n) + bt tp (a + n) - 48 else hi + 1) = min (hi + 1) (wdv tp a (n + 1)) := by
          show _ = min (hi + 1) (10 * wdv tp a n + (bt tp (a + n) - 48))
          split <;> omega
        rw [e]
        rfl
    · intro J hJ
      simp only [zb_X3_takesNumber_0, hk, zsh_3, zsh_4, r0, r3, hga, zT_push, zT_bin, zT_div, zT_bil, zT_shl, zT_un, zT_i2l, zT_l2i, zT_lcmp, zT_ild, zT_lld, zT_ald, zT_ist, zT_lst, zT_ast, zT_iinc, zT_dup, zT_dup2, zT_pop, zT_if1, zT_if2, zT_ifn, zT_getI, zT_getJ, zT_getR, zT_putI, zT_putZ, zT_putJ, zT_putR, zT_ald0, zT_lald, zT_aald, zT_iast, zT_zast, zT_bast, zT_last, zT_aast, zT_iret, zT_nret, zT_aret, zT_vret, zT_oi, zT_mm, zT_ialX, zT_S1, zT_S2, zT_S3, zT_V0, zT_V1, zT_V2, zT_V3, zT_V4, zT_V5, zT_V6, zT_I0, zT_I1, zT_I2, zlg, zlset, zlpr, zent, zok, va_rf, List.length_cons, List.length_nil, List.replicate, List.cons_append, List.nil_append, List.append_nil, Option.toList_some, Option.toList_none, Option.toList, Nat.reduceAdd, Nat.reduceSub, Nat.reduceLeDiff, Nat.zero_add, Nat.zero_le, true_and, and_true, Nat.le_refl, ge_iff_le, Nat.reduceEqDiff]
      unfold zc_X3_atEnd
      dsimp only
      refine ⟨tp, a, wte tp a, hRd, ha, ?_⟩
      have S25 : wnm tp a lo hi = false → zb_X3_takesNumber_25 K J M [some (.ref k), some (.int (nI lo)), some (.int (nI hi)), none, none] [] := by
        intro z
        simp only [zb_X3_takesNumber_25, zT_push, zT_bin, zT_div, zT_bil, zT_shl, zT_un, zT_i2l, zT_l2i, zT_lcmp, zT_ild, zT_lld, zT_ald, zT_ist, zT_lst, zT_ast, zT_iinc, zT_dup, zT_dup2, zT_pop, zT_if1, zT_if2, zT_ifn, zT_getI, zT_getJ, zT_getR, zT_putI, zT_putZ, zT_putJ, zT_putR, zT_ald0, zT_lald, zT_aald, zT_iast, zT_zast, zT_bast, zT_last, zT_aast, zT_iret, zT_nret, zT_aret, zT_vret, zT_oi, zT_mm, zT_ialX, zT_S1, zT_S2, zT_S3, zT_V0, zT_V1, zT_V2, zT_V3, zT_V4, zT_V5, zT_V6, zT_I0, zT_I1, zT_I2, zlg, zlset, zlpr, zent, zok, va_rf, List.length_cons, List.length_nil, List.replicate, List.cons_append, List.nil_append, List.append_nil, Option.toList_some, Option.toList_none, Option.toList, Nat.reduceAdd, Nat.reduceSub, Nat.reduceLeDiff, Nat.zero_add, Nat.zero_le, true_and, and_true, Nat.le_refl, ge_iff_le, Nat.reduceEqDiff]
        exact ⟨rfl, hF z⟩
      simp only [zbI_0, hk, zsh_3, zsh_4, r0, r3, hga, zT_push, zT_bin, zT_div, zT_bil, zT_shl, zT_un, zT_i2l, zT_l2i, zT_lcmp, zT_ild, zT_lld, zT_ald, zT_ist, zT_lst, zT_ast, zT_iinc, zT_dup, zT_dup2, zT_pop, zT_if1, zT_if2, zT_ifn, zT_getI, zT_getJ, zT_getR, zT_putI, zT_putZ, zT_putJ, zT_putR, zT_ald0, zT_lald, zT_aald, zT_iast, zT_zast, zT_bast, zT_last, zT_aast, zT_iret, zT_nret, zT_aret, zT_vret, zT_oi, zT_mm, zT_ialX, zT_S1, zT_S2, zT_S3, zT_V0, zT_V1, zT_V2, zT_V3, zT_V4, zT_V5, zT_V6, zT_I0, zT_I1, zT_I2, zlg, zlset, zlpr, zent, zok, va_rf, List.length_cons, List.length_nil, List.replicate, List.cons_append, List.nil_append, List.append_nil, Option.toList_some, Option.toList_none, Option.toList, Nat.reduceAdd, Nat.reduceSub, Nat.reduceLeDiff, Nat.zero_add, Nat.zero_le, true_and, and_true, Nat.le_refl, ge_iff_le, Nat.reduceEqDiff]
      refine ⟨fun h1 => ?_, fun h1 => S25 ?_⟩
      · have hlt : a < tp.length := by omega
        obtain ⟨v1, v2⟩ := hT.at hlt
        rw [nI_clamp (by omega), v2]
        refine ⟨vp_in_nI (by omega) (by decide), ?_⟩
        unfold zc_X3_isDigit
        dsimp only
        simp only [zbI_0, zsb_dgt _ v1, hk, hga, zT_push, zT_bin, zT_div, zT_bil, zT_shl, zT_un, zT_i2l, zT_l2i, zT_lcmp, zT_ild, zT_lld, zT_ald, zT_ist, zT_lst, zT_ast, zT_iinc, zT_dup, zT_dup2, zT_pop, zT_if1, zT_if2, zT_ifn, zT_getI, zT_getJ, zT_getR, zT_putI, zT_putZ, zT_putJ, zT_putR, zT_ald0, zT_lald, zT_aald, zT_iast, zT_zast, zT_bast, zT_last, zT_aast, zT_iret, zT_nret, zT_aret, zT_vret, zT_oi, zT_mm, zT_ialX, zT_S1, zT_S2, zT_S3, zT_V0, zT_V1, zT_V2, zT_V3, zT_V4, zT_V5, zT_V6, zT_I0, zT_I1, zT_I2, zlg, zlset, zlpr, zent, zok, va_rf, List.length_cons, List.length_nil, List.replicate, List.cons_append, List.nil_append, List.append_nil, Option.toList_some, Option.toList_none, Option.toList, Nat.reduceAdd, Nat.reduceSub, Nat.reduceLeDiff, Nat.zero_add, Nat.zero_le, true_and, and_true, Nat.le_refl, ge_iff_le, Nat.reduceEqDiff]
        refine ⟨fun h2 => S25 ?_, fun h2 => ?_⟩
        · unfold wnm
          simp only [decide_eq_false_iff_not]
          exact fun z => h2 z.2.1
        · exact hJ 1000 _ _ _ ⟨rfl, ⟨hlt, Classical.not_not.mp h2⟩, 0, rfl, te1, by rw [show min (hi + 1) (wdv tp a 0) = 0 from Nat.min_zero _]; rfl, rfl⟩
      · unfold wnm
        simp only [decide_eq_false_iff_not]
        omega
  · exact h.elim
