/-! DeltaRunsModel compareAll -/
theorem zd_X8_compareAll_0 : decode cX8_compareAll 0 = .ok (.iconst 0, 1) := by decide +kernel
theorem zd_X8_compareAll_1 : decode cX8_compareAll 1 = .ok (.istore_n 2, 1) := by decide +kernel
theorem zd_X8_compareAll_2 : decode cX8_compareAll 2 = .ok (.iload_n 2, 1) := by decide +kernel
theorem zd_X8_compareAll_3 : decode cX8_compareAll 3 = .ok (.bipush 36, 2) := by decide +kernel
theorem zd_X8_compareAll_5 : decode cX8_compareAll 5 = .ok (.if_icmp .ge 15, 3) := by decide +kernel
theorem zd_X8_compareAll_8 : decode cX8_compareAll 8 = .ok (.aload_n 0, 1) := by decide +kernel
theorem zd_X8_compareAll_9 : decode cX8_compareAll 9 = .ok (.iload_n 2, 1) := by decide +kernel
theorem zd_X8_compareAll_10 : decode cX8_compareAll 10 = .ok (.iload_n 1, 1) := by decide +kernel
theorem zd_X8_compareAll_11 : decode cX8_compareAll 11 = .ok (.invokevirtual 233, 3) := by decide +kernel
theorem zd_X8_compareAll_14 : decode cX8_compareAll 14 = .ok (.iinc 2 1, 3) := by decide +kernel
theorem zd_X8_compareAll_17 : decode cX8_compareAll 17 = .ok (.goto (-15), 3) := by decide +kernel
theorem zd_X8_compareAll_20 : decode cX8_compareAll 20 = .ok (.return_, 1) := by decide +kernel
def zb_X8_compareAll_0 (K : zKt) (J : Nat → zPP) : zPP := zT_push (.int 0) (zT_ist 2 (J 2))
theorem zbs_X8_compareAll_0 {X : zCt} (hR : zRX X = { frames := 6, cells := 0, slots := 0, locals := 151 }) (J : Nat → zPP) (hJ : ∀ h ∈ ([2] : List Nat), zSd X RX8 "compareAll" cX8_compareAll 3 none h (J h)) : zSd X RX8 "compareAll" cX8_compareAll 3 none 0 (zb_X8_compareAll_0 (zKX X) J) := zs_iconst zd_X8_compareAll_0 (by decide) (zs_istore_n zd_X8_compareAll_1 rfl (by decide) (hJ 2 (by decide)))
def zb_X8_compareAll_2 (K : zKt) (J : Nat → zPP) : zPP := zT_ild 2 (zT_push (.int 36) (zT_if2 (fun x y => y ≤ x) (zT_vret K) (zT_ald 0 (zT_ild 2 (zT_ild 1 (zT_V2 zok 8 38 zc_X8_compare (zT_iinc 2 1 (J 2))))))))
theorem zbs_X8_compareAll_2 {X : zCt} (hR : zRX X = { frames := 6, cells := 0, slots := 0, locals := 151 }) (J : Nat → zPP) (hJ : ∀ h ∈ ([2] : List Nat), zSd X RX8 "compareAll" cX8_compareAll 3 none h (J h)) : zSd X RX8 "compareAll" cX8_compareAll 3 none 2 (zb_X8_compareAll_2 (zKX X) J) := zs_iload_n zd_X8_compareAll_2 rfl (zs_bipush zd_X8_compareAll_3 (by decide) (zs_icmp_ge (tgt := 20) zd_X8_compareAll_5 (by decide) (zs_vret rfl zd_X8_compareAll_20) (zs_aload_n zd_X8_compareAll_8 rfl (zs_iload_n zd_X8_compareAll_9 rfl (zs_iload_n zd_X8_compareAll_10 rfl (zs_V (ci := 8) rfl rfl (zm_X8_compare _ _ _) gw_4_119 gw_4_116 gw_4_118 gw_0_40 gw_1_7 zdn_X8_compare (zrm hR (by decide) (by decide)) zd_X8_compareAll_11 (zCl_V2 zok_l) (zs_iinc zd_X8_compareAll_14 (by decide) (by decide) (zs_goto (tgt := 2) zd_X8_compareAll_17 (by decide) (hJ 2 (by decide))))))))))
def zB_X8_compareAll (K : zKt) (J : Nat → zPP) (h : Nat) : zPP := if h = 2 then zb_X8_compareAll_2 K J else (fun _ _ _ => False)
theorem zBs_X8_compareAll {X : zCt} (hR : zRX X = { frames := 6, cells := 0, slots := 0, locals := 151 }) : ∀ J : Nat → zPP, (∀ h ∈ ([2] : List Nat), zSd X RX8 "compareAll" cX8_compareAll 3 none h (J h)) → ∀ h ∈ ([2] : List Nat), zSd X RX8 "compareAll" cX8_compareAll 3 none h (zB_X8_compareAll (zKX X) J h) := by
  intro J hJ h hh
  unfold zB_X8_compareAll
  simp only [List.mem_cons, List.not_mem_nil, or_false] at hh
  subst hh
  exact zbs_X8_compareAll_2 hR J hJ
theorem zdn_X8_compareAll : yX8_compareAll.cls ≠ "java/lang/invoke/MethodHandle" ∧ yX8_compareAll.cls ≠ "java/lang/invoke/VarHandle" ∧ (parseMethodDescriptor yX8_compareAll.desc).map (fun d => d.parameters.length) = some 1 := by decide +kernel
/-! DeltaRunsModel against -/
theorem zd_X8_against_0 : decode cX8_against 0 = .ok (.aload_n 0, 1) := by decide +kernel
theorem zd_X8_against_1 : decode cX8_against 1 = .ok (.iconst 0, 1) := by decide +kernel
theorem zd_X8_against_2 : decode cX8_against 2 = .ok (.putfield 93, 3) := by decide +kernel
theorem zd_X8_against_5 : decode cX8_against 5 = .ok (.iload_n 1, 1) := by decide +kernel
theorem zd_X8_against_6 : decode cX8_against 6 = .ok (.invokestatic 224, 3) := by decide +kernel
theorem zd_X8_against_9 : decode cX8_against 9 = .ok (.ifCond .eq 10, 3) := by decide +kernel
theorem zd_X8_against_12 : decode cX8_against 12 = .ok (.iload_n 2, 1) := by decide +kernel
theorem zd_X8_against_13 : decode cX8_against 13 = .ok (.invokestatic 236, 3) := by decide +kernel
theorem zd_X8_against_16 : decode cX8_against 16 = .ok (.ifCond .ne 5, 3) := by decide +kernel
theorem zd_X8_against_19 : decode cX8_against 19 = .ok (.iconst (-1), 1) := by decide +kernel
theorem zd_X8_against_20 : decode cX8_against 20 = .ok (.ireturn, 1) := by decide +kernel
theorem zd_X8_against_21 : decode cX8_against 21 = .ok (.aload_n 0, 1) := by decide +kernel
theorem zd_X8_against_22 : decode cX8_against 22 = .ok (.iload_n 1, 1) := by decide +kernel
theorem zd_X8_against_23 : decode cX8_against 23 = .ok (.iload_n 2, 1) := by decide +kernel
theorem zd_X8_against_24 : decode cX8_against 24 = .ok (.invokevirtual 233, 3) := by decide +kernel
theorem zd_X8_against_27 : decode cX8_against 27 = .ok (.aload_n 0, 1) := by decide +kernel
theorem zd_X8_against_28 : decode cX8_against 28 = .ok (.getfield 87, 3) := by decide +kernel
theorem zd_X8_against_31 : decode cX8_against 31 = .ok (.iload_n 1, 1) := by decide +kernel
theorem zd_X8_against_32 : decode cX8_against 32 = .ok (.iaload, 1) := by decide +kernel
theorem zd_X8_against_33 : decode cX8_against 33 = .ok (.ireturn, 1) := by decide +kernel
def zb_X8_against_19 (K : zKt) (J : Nat → zPP) : zPP := zT_push (.int (-1)) (zT_iret K)
theorem zbs_X8_against_19 {X : zCt} (hR : zRX X = { frames := 6, cells := 0, slots := 0, locals := 151 }) (J : Nat → zPP) (hJ : ∀ h ∈ ([] : List Nat), zSd X RX8 "against" cX8_against 3 (some .int) h (J h)) : zSd X RX8 "against" cX8_against 3 (some .int) 19 (zb_X8_against_19 (zKX X) J) := zs_iconst zd_X8_against_19 (by decide) (zs_iret rfl zd_X8_against_20)
def zb_X8_against_0 (K : zKt) (J : Nat → zPP) : zPP := zT_ald 0 (zT_push (.int 0) (zT_putI 8 0 38 (zT_ild 1 (zT_S1 zok zc_X8_isRule (zT_if1 (fun x => x = 0) (zb_X8_against_19 K J) (zT_ild 2 (zT_S1 zok zc_X8_isKnown (zT_if1 (fun x => x = 0) (zb_X8_against_19 K J) (zT_ald 0 (zT_ild 1 (zT_ild 2 (zT_V2 zok 8 38 zc_X8_compare (zT_ald 0 (zT_getR 8 37 38 (zT_ild 1 (zT_ald0 0 (zT_iret K)))))))))))))))))
theorem zbs_X8_against_0 {X : zCt} (hR : zRX X = { frames := 6, cells := 0, slots := 0, locals := 151 }) (J : Nat → zPP) (hJ : ∀ h ∈ ([] : List Nat), zSd X RX8 "against" cX8_against 3 (some .int) h (J h)) : zSd X RX8 "against" cX8_against 3 (some .int) 0 (zb_X8_against_0 (zKX X) J) := zs_aload_n zd_X8_against_0 rfl (zs_iconst zd_X8_against_1 (by decide) (zs_putI (ci := 8) (j := 0) (T := TX8) rfl inX8 tyX8_ok nmX8 (by decide) gw_3_89 rfl rfl rfl zd_X8_against_2 (zs_iload_n zd_X8_against_5 rfl (zs_S (zm_X8_isRule _ _ _) gw_4_56 gw_4_54 gw_4_55 gw_1_7 zdn_X8_isRule (zrm hR (by decide) (by decide)) zd_X8_against_6 (zCl_S1 zok_l) (zs_if_eq (tgt := 19) zd_X8_against_9 (by decide) (zbs_X8_against_19 hR J hJ) (zs_iload_n zd_X8_against_12 rfl (zs_S (zm_X8_isKnown _ _ _) gw_4_111 gw_4_109 gw_4_110 gw_1_7 zdn_X8_isKnown (zrm hR (by decide) (by decide)) zd_X8_against_13 (zCl_S1 zok_l) (zs_if_ne (tgt := 21) zd_X8_against_16 (by decide) (zs_aload_n zd_X8_against_21 rfl (zs_iload_n zd_X8_against_22 rfl (zs_iload_n zd_X8_against_23 rfl (zs_V (ci := 8) rfl rfl (zm_X8_compare _ _ _) gw_4_119 gw_4_116 gw_4_118 gw_0_40 gw_1_7 zdn_X8_compare (zrm hR (by decide) (by decide)) zd_X8_against_24 (zCl_V2 zok_l) (zs_aload_n zd_X8_against_27 rfl (zs_getR (ci := 8) (j := 37) (T := TX8) rfl inX8 (by decide) gw_3_126 rfl zd_X8_against_28 (zs_iload_n zd_X8_against_31 rfl (zs_iald zd_X8_against_32 (zs_iret rfl zd_X8_against_33))))))))) (zbs_X8_against_19 hR J hJ)))))))))
theorem zdn_X8_against : yX8_against.cls ≠ "java/lang/invoke/MethodHandle" ∧ yX8_against.cls ≠ "java/lang/invoke/VarHandle" ∧ (parseMethodDescriptor yX8_against.desc).map (fun d => d.parameters.length) = some 2 := by decide +kernel
theorem wct_z {p : Nat → Bool} : ∀ {n : Nat}, (∀ i, i < n → p i = false) → wct p n = 0
  | 0, _ => rfl
  | n + 1, h => by
    show wct p n + (if p n = true then 1 else 0) = 0
    rw [wct_z (fun i hi => h i (by omega)), h n (by omega)]
    rfl
theorem wct_ff0 {p : Nat → Bool} {n : Nat} : wct p n = 0 ↔ wff p n 0 = none := by
  constructor
  · intro h
    refine wff_n (fun m _ hm => ?_)
    cases q : p m with
    | false => rfl
    | true =>
      have := wct_lt (p := p) (a := m) (b := n) (by omega) q
      omega
  · intro h
    exact wct_z (fun i hi => wff_o h i (Nat.zero_le _) (by omega))
theorem wct_ff1 {p : Nat → Bool} {n e : Nat} (h : wff p n 0 = some e) : wct p n = 1 ↔ wff p (n - (e + 1)) (e + 1) = none := by
  have hb := wff_bd h
  have h0 : wct p e = 0 := wct_z (fun i hi => wff_m h i (Nat.zero_le _) hi)
  have h1 : wct p (e + 1) = 1 := by
    show wct p e + (if p e = true then 1 else 0) = 1
    rw [h0, hb.2.2]
    rfl
  constructor
  · intro hn
    refine wff_n (fun m hm1 hm2 => ?_)
    cases q : p m with
    | false => rfl
    | true =>
      have a1 := wct_lt (p := p) (a := m) (b := n) (by omega) q
      have a2 := wct_lt (p := p) (a := e) (b := m) (by omega) hb.2.2
      omega
  · intro hn
    have := wct_skip (p := p) (a := e + 1) (n - (e + 1)) (fun i z1 z2 => wff_o hn i z1 (by omega))
    rw [show e + 1 + (n - (e + 1)) = n by omega] at this
    omega
theorem mbk_0 {σ : wSP} {es : List wEn} {r day : Nat} : wct (mbk σ es r day) es.length = 0 ↔ wAG σ es r day 0 = none := wct_ff0
theorem mbk_1 {σ : wSP} {es : List wEn} {r day e : Nat} (h : wAG σ es r day 0 = some e) : wct (mbk σ es r day) es.length = 1 ↔ wAG σ es r day (e + 1) = none := wct_ff1 h
theorem mbk_y {σ : wSP} {es : List wEn} {r day : Nat} : wct (mbk σ es r day) es.length = 0 ↔ wsy σ es day r = true := by
  rw [mbk_0]
  unfold wsy
  cases wAG σ es r day 0 <;> simp
/-- the rules compared with the old maps -/
def mbf (M : zMm) (F : wFS) (day : Nat) : Prop := ∀ r, r < 36 → M.2.1 220 r = nI (wct (mbk F.1 F.2.1 r day) F.2.1.length) ∧ M.2.1 221 r = woi (wAG F.1 F.2.1 r day 0)
def zc_X8_compareAll (a : List Value) (M : zMm) (K : zKt) : Prop := match a with
  | [.ref k, .int d'] => k = 200 ∧ ∃ F day, zMF M F ∧ d' = nI day ∧ day ≤ 1000 ∧ ∀ M', zsm [209, 210, 211, 212, 213, 214, 215, 220, 221] M M' → mbf M' F day → K none M'
  | _ => False
set_option maxHeartbeats 1000000 in
theorem zm_X8_compareAll (l : Launch) (D : va_G) (Y : Nat → ClassId) : zMt l D Y yX8_compareAll cX8_compareAll 3 none 6 151 0 0 zc_X8_compareAll := by
  refine zwhile1 (h0 := 2) (by decide) (fun K J _ _ => zb_X8_compareAll_0 K J) (fun K _ _ J => zb_X8_compareAll_2 K J) (fun X hR J hJ => zbs_X8_compareAll_0 hR J hJ) (fun X hR J hJ => zbs_X8_compareAll_2 hR J hJ) (fun avs M K h => ?_)
  unfold zc_X8_compareAll at h
  split at h
  · next k d' =>
    obtain ⟨rfl, F, day, hF, rfl, hday, h⟩ := h
    refine ⟨by simp [zent], fun q M' ls st => ∃ i, q = 36 - i ∧ i ≤ 36 ∧ ls = [some (.ref 200), some (.int (nI day)), some (.int (nI i))] ∧ st = [] ∧ zsm [209, 210, 211, 212, 213, 214, 215, 220, 221] M M' ∧ ∀ r, r < i → M'.2.1 220 r = nI (wct (mbk F.1 F.2.1 r day) F.2.1.length) ∧ M'.2.1 221 r = woi (wAG F.1 F.2.1 r day 0), ?_, ?_⟩
    · rintro q J hJ M' ls st ⟨i, rfl, hi, rfl, rfl, hs, hc⟩
      simp only [zb_X8_compareAll_2, zsh_200, zT_push, zT_bin, zT_div, zT_bil, zT_shl, zT_un, zT_i2l, zT_l2i, zT_lcmp, zT_ild, zT_lld, zT_ald, zT_ist, zT_lst, zT_ast, zT_iinc, zT_dup, zT_dup2, zT_pop, zT_if1, zT_if2, zT_ifn, zT_getI, zT_getJ, zT_getR, zT_putI, zT_putZ, zT_putJ, zT_putR, zT_ald0, zT_lald, zT_aald, zT_iast, zT_zast, zT_bast, zT_last, zT_aast, zT_iret, zT_nret, zT_aret, zT_vret, zT_oi, zT_mm, zT_ialX, zT_S1, zT_S2, zT_S3, zT_V0, zT_V1, zT_V2, zT_V3, zT_V4, zT_V5, zT_V6, zT_I0, zT_I1, zT_I2, zlg, zlset, zlpr, zent, zok, va_rf, List.length_cons, List.length_nil, List.replicate, List.cons_append, List.nil_append, List.append_nil, Option.toList_some, Option.toList_none, Option.toList, Nat.reduceAdd, Nat.reduceSub, Nat.reduceLeDiff, Nat.zero_add, Nat.zero_le, true_and, and_true, Nat.le_refl, ge_iff_le, Nat.reduceEqDiff]
      refine ⟨fun h1 => ?_, fun h1 => ?_⟩
      · have := zn_ge' (b := 36) h1 (by omega) (by omega)
        have e : i = 36 := by omega
        subst e
        exact h M' hs hc
      · have hlt := zn_ge (b := 36) h1 (by omega) (by omega)
        unfold zc_X8_compare
        dsimp only
        refine ⟨rfl, F, i, day, hF.fl hs (by simp), rfl, hlt, rfl, hday, fun M2 hs2 hb hf hoth => ?_⟩
        try simp only [zT_push, zT_bin, zT_div, zT_bil, zT_shl, zT_un, zT_i2l, zT_l2i, zT_lcmp, zT_ild, zT_lld, zT_ald, zT_ist, zT_lst, zT_ast, zT_iinc, zT_dup, zT_dup2, zT_pop, zT_if1, zT_if2, zT_ifn, zT_getI, zT_getJ, zT_getR, zT_putI, zT_putZ, zT_putJ, zT_putR, zT_ald0, zT_lald, zT_aald, zT_iast, zT_zast, zT_bast, zT_last, zT_aast, zT_iret, zT_nret, zT_aret, zT_vret, zT_oi, zT_mm, zT_ialX, zT_S1, zT_S2, zT_S3, zT_V0, zT_V1, zT_V2, zT_V3, zT_V4, zT_V5, zT_V6, zT_I0, zT_I1, zT_I2, zlg, zlset, zlpr, zent, zok, va_rf, List.length_cons, List.length_nil, List.replicate, List.cons_append, List.nil_append, List.append_nil, Option.toList_some, Option.toList_none, Option.toList, Nat.reduceAdd, Nat.reduceSub, Nat.reduceLeDiff, Nat.zero_add, Nat.zero_le, true_and, and_true, Nat.le_refl, ge_iff_le, Nat.reduceEqDiff]
        refine hJ (36 - (i + 1)) _ _ _ (by omega) ⟨i + 1, rfl, hlt, by rw [nI_1], rfl, hs.tr hs2, fun r hr => ?_⟩
        by_cases e : r = i
        · rw [e]; exact ⟨hb, hf⟩
        · rw [(hoth r e).1, (hoth r e).2]; exact hc r (by omega)
    · intro J hJ
      simp only [zb_X8_compareAll_0, zT_push, zT_bin, zT_div, zT_bil, zT_shl, zT_un, zT_i2l, zT_l2i, zT_lcmp, zT_ild, zT_lld, zT_ald, zT_ist, zT_lst, zT_ast, zT_iinc, zT_dup, zT_dup2, zT_pop, zT_if1, zT_if2, zT_ifn, zT_getI, zT_getJ, zT_getR, zT_putI, zT_putZ, zT_putJ, zT_putR, zT_ald0, zT_lald, zT_aald, zT_iast, zT_zast, zT_bast, zT_last, zT_aast, zT_iret, zT_nret, zT_aret, zT_vret, zT_oi, zT_mm, zT_ialX, zT_S1, zT_S2, zT_S3, zT_V0, zT_V1, zT_V2, zT_V3, zT_V4, zT_V5, zT_V6, zT_I0, zT_I1, zT_I2, zlg, zlset, zlpr, zent, zok, va_rf, List.length_cons, List.length_nil, List.replicate, List.cons_append, List.nil_append, List.append_nil, Option.toList_some, Option.toList_none, Option.toList, Nat.reduceAdd, Nat.reduceSub, Nat.reduceLeDiff, Nat.zero_add, Nat.zero_le, true_and, and_true, Nat.le_refl, ge_iff_le, Nat.reduceEqDiff]
      exact hJ 36 _ _ _ ⟨0, rfl, by omega, rfl, rfl, zsm.rf, fun r hr => absurd hr (Nat.not_lt_zero _)⟩
  · exact h.elim
def zc_X8_against (a : List Value) (M : zMm) (K : zKt) : Prop := match a with
  | [.ref k, .int r, .int d] => k = 200 ∧ ∃ F, zMF M F ∧ ∀ M', zMF M' (pAgainst r d F).2 → K (some (.int (pAgainst r d F).1)) M'
  | _ => False
set_option maxHeartbeats 1000000 in
theorem zm_X8_against (l : Launch) (D : va_G) (Y : Nat → ClassId) : zMt l D Y yX8_against cX8_against 3 (some .int) 6 151 0 0 zc_X8_against := by
  refine zflat (by decide) (fun K J lc lz => zb_X8_against_0 K J) (fun X hR => zbs_X8_against_0 hR zJ0 zJ0_ok) (fun avs M K h => ?_)
  unfold zc_X8_against at h
  split at h
  · next k r d =>
    obtain ⟨rfl, F, hF, h⟩ := h
    have hF1 := hF.th
    refine ⟨by simp [zent], ?_⟩
    simp only [zb_X8_against_0, zsh_200, zT_push, zT_bin, zT_div, zT_bil, zT_shl, zT_un, zT_i2l, zT_l2i, zT_lcmp, zT_ild, zT_lld, zT_ald, zT_ist, zT_lst, zT_ast, zT_iinc, zT_dup, zT_dup2, zT_pop, zT_if1, zT_if2, zT_ifn, zT_getI, zT_getJ, zT_getR, zT_putI, zT_putZ, zT_putJ, zT_putR, zT_ald0, zT_lald, zT_aald, zT_iast, zT_zast, zT_bast, zT_last, zT_aast, zT_iret, zT_nret, zT_aret, zT_vret, zT_oi, zT_mm, zT_ialX, zT_S1, zT_S2, zT_S3, zT_V0, zT_V1, zT_V2, zT_V3, zT_V4, zT_V5, zT_V6, zT_I0, zT_I1, zT_I2, zlg, zlset, zlpr, zent, zok, va_rf, List.length_cons, List.length_nil, List.replicate, List.cons_append, List.nil_append, List.append_nil, Option.toList_some, Option.toList_none, Option.toList, Nat.reduceAdd, Nat.reduceSub, Nat.reduceLeDiff, Nat.zero_add, Nat.zero_le, true_and, and_true, Nat.le_refl, ge_iff_le, Nat.reduceEqDiff]
    generalize zwI M 200 0 0 = M1 at hF1 ⊢
    obtain ⟨g1, -⟩ := id hF1
    obtain ⟨r7, -, -, -, -, -, -, -, r24, r25, r26, r27, r28, r29, r30, r32, r33, r34, r35, r36, r37⟩ := id g1
    have bad : ¬ ((0 ≤ r ∧ r ≤ 35) ∧ 0 ≤ d ∧ d ≤ 1000) → zb_X8_against_19 K zJ0 M1 [some (.ref 200), some (.int r), some (.int d)] [] := by
      intro hb
      simp only [zb_X8_against_19, zT_push, zT_bin, zT_div, zT_bil, zT_shl, zT_un, zT_i2l, zT_l2i, zT_lcmp, zT_ild, zT_lld, zT_ald, zT_ist, zT_lst, zT_ast, zT_iinc, zT_dup, zT_dup2, zT_pop, zT_if1, zT_if2, zT_ifn, zT_getI, zT_getJ, zT_getR, zT_putI, zT_putZ, zT_putJ, zT_putR, zT_ald0, zT_lald, zT_aald, zT_iast, zT_zast, zT_bast, zT_last, zT_aast, zT_iret, zT_nret, zT_aret, zT_vret, zT_oi, zT_mm, zT_ialX, zT_S1, zT_S2, zT_S3, zT_V0, zT_V1, zT_V2, zT_V3, zT_V4, zT_V5, zT_V6, zT_I0, zT_I1, zT_I2, zlg, zlset, zlpr, zent, zok, va_rf, List.length_cons, List.length_nil, List.replicate, List.cons_append, List.nil_append, List.append_nil, Option.toList_some, Option.toList_none, Option.toList, Nat.reduceAdd, Nat.reduceSub, Nat.reduceLeDiff, Nat.zero_add, Nat.zero_le, true_and, and_true, Nat.le_refl, ge_iff_le, Nat.reduceEqDiff]
      unfold pAgainst at h
      rw [if_neg hb] at h
      exact h M1 hF1
    unfold zc_X8_isRule zc_X8_isKnown
    simp only [zbI_0, zsh_200, zT_push, zT_bin, zT_div, zT_bil, zT_shl, zT_un, zT_i2l, zT_l2i, zT_lcmp, zT_ild, zT_lld, zT_ald, zT_ist, zT_lst, zT_ast, zT_iinc, zT_dup, zT_dup2, zT_pop, zT_if1, zT_if2, zT_ifn, zT_getI, zT_getJ, zT_getR, zT_putI, zT_putZ, zT_putJ, zT_putR, zT_ald0, zT_lald, zT_aald, zT_iast, zT_zast, zT_bast, zT_last, zT_aast, zT_iret, zT_nret, zT_aret, zT_vret, zT_oi, zT_mm, zT_ialX, zT_S1, zT_S2, zT_S3, zT_V0, zT_V1, zT_V2, zT_V3, zT_V4, zT_V5, zT_V6, zT_I0, zT_I1, zT_I2, zlg, zlset, zlpr, zent, zok, va_rf, List.length_cons, List.length_nil, List.replicate, List.cons_append, List.nil_append, List.append_nil, Option.toList_some, Option.toList_none, Option.toList, Nat.reduceAdd, Nat.reduceSub, Nat.reduceLeDiff, Nat.zero_add, Nat.zero_le, true_and, and_true, Nat.le_refl, ge_iff_le, Nat.reduceEqDiff]
    refine ⟨fun h1 => bad (fun z => h1 z.1), fun h1 => ⟨fun h2 => bad (fun z => h2 z.2), fun h2 => ?_⟩⟩
    have c1 := Classical.not_not.mp h1
    have c2 := Classical.not_not.mp h2
    obtain ⟨a1, a2⟩ := tn_nI (x := r) (b := 35) c1.1 c1.2 (by decide)
    obtain ⟨b1, b2⟩ := tn_nI (x := d) (b := 1000) c2.1 c2.2 (by decide)
    unfold pAgainst at h
    rw [if_pos ⟨c1, c2⟩] at h
    unfold zc_X8_compare
    dsimp only
    refine ⟨rfl, F, tn r, tn d, hF1, a1, by omega, b1, b2, fun M2 hs2 hb hf hoth => ?_⟩
    have eR := hs2.R
    simp only [zsh_200, zsh_221, eR, r37, zT_push, zT_bin, zT_div, zT_bil, zT_shl, zT_un, zT_i2l, zT_l2i, zT_lcmp, zT_ild, zT_lld, zT_ald, zT_ist, zT_lst, zT_ast, zT_iinc, zT_dup, zT_dup2, zT_pop, zT_if1, zT_if2, zT_ifn, zT_getI, zT_getJ, zT_getR, zT_putI, zT_putZ, zT_putJ, zT_putR, zT_ald0, zT_lald, zT_aald, zT_iast, zT_zast, zT_bast, zT_last, zT_aast, zT_iret, zT_nret, zT_aret, zT_vret, zT_oi, zT_mm, zT_ialX, zT_S1, zT_S2, zT_S3, zT_V0, zT_V1, zT_V2, zT_V3, zT_V4, zT_V5, zT_V6, zT_I0, zT_I1, zT_I2, zlg, zlset, zlpr, zent, zok, va_rf, List.length_cons, List.length_nil, List.replicate, List.cons_append, List.nil_append, List.append_nil, Option.toList_some, Option.toList_none, Option.toList, Nat.reduceAdd, Nat.reduceSub, Nat.reduceLeDiff, Nat.zero_add, Nat.zero_le, true_and, and_true, Nat.le_refl, ge_iff_le, Nat.reduceEqDiff]
    rw [a1, nI_clamp (by omega), hf]
    exact ⟨vp_in_nI (by omega) (by decide), h M2 (hF1.fl hs2 (by simp))⟩
  · exact h.elim
/-! DeltaRunsModel stays -/
theorem zd_X8_stays_0 : decode cX8_stays 0 = .ok (.aload_n 0, 1) := by decide +kernel
theorem zd_X8_stays_1 : decode cX8_stays 1 = .ok (.iconst 0, 1) := by decide +kernel
theorem zd_X8_stays_2 : decode cX8_stays 2 = .ok (.putfield 93, 3) := by decide +kernel
theorem zd_X8_stays_5 : decode cX8_stays 5 = .ok (.iload_n 2, 1) := by decide +kernel
theorem zd_X8_stays_6 : decode cX8_stays 6 = .ok (.invokestatic 236, 3) := by decide +kernel
theorem zd_X8_stays_9 : decode cX8_stays 9 = .ok (.ifCond .ne 5, 3) := by decide +kernel
theorem zd_X8_stays_12 : decode cX8_stays 12 = .ok (.iconst (-1), 1) := by decide +kernel
theorem zd_X8_stays_13 : decode cX8_stays 13 = .ok (.ireturn, 1) := by decide +kernel
theorem zd_X8_stays_14 : decode cX8_stays 14 = .ok (.aload_n 0, 1) := by decide +kernel
theorem zd_X8_stays_15 : decode cX8_stays 15 = .ok (.iload_n 2, 1) := by decide +kernel
theorem zd_X8_stays_16 : decode cX8_stays 16 = .ok (.invokevirtual 239, 3) := by decide +kernel
theorem zd_X8_stays_19 : decode cX8_stays 19 = .ok (.iconst 0, 1) := by decide +kernel
theorem zd_X8_stays_20 : decode cX8_stays 20 = .ok (.istore_n 3, 1) := by decide +kernel
theorem zd_X8_stays_21 : decode cX8_stays 21 = .ok (.iconst 0, 1) := by decide +kernel
theorem zd_X8_stays_22 : decode cX8_stays 22 = .ok (.istore 4, 2) := by decide +kernel
theorem zd_X8_stays_24 : decode cX8_stays 24 = .ok (.iload 4, 2) := by decide +kernel
theorem zd_X8_stays_26 : decode cX8_stays 26 = .ok (.bipush 36, 2) := by decide +kernel
theorem zd_X8_stays_28 : decode cX8_stays 28 = .ok (.if_icmp .ge 30, 3) := by decide +kernel
theorem zd_X8_stays_31 : decode cX8_stays 31 = .ok (.aload_n 0, 1) := by decide +kernel
theorem zd_X8_stays_32 : decode cX8_stays 32 = .ok (.getfield 84, 3) := by decide +kernel
theorem zd_X8_stays_35 : decode cX8_stays 35 = .ok (.iload 4, 2) := by decide +kernel
theorem zd_X8_stays_37 : decode cX8_stays 37 = .ok (.iaload, 1) := by decide +kernel
theorem zd_X8_stays_38 : decode cX8_stays 38 = .ok (.ifCond .ne 14, 3) := by decide +kernel
theorem zd_X8_stays_41 : decode cX8_stays 41 = .ok (.iload_n 3, 1) := by decide +kernel
theorem zd_X8_stays_42 : decode cX8_stays 42 = .ok (.iload_n 1, 1) := by decide +kernel
theorem zd_X8_stays_43 : decode cX8_stays 43 = .ok (.if_icmp .ne 6, 3) := by decide +kernel
theorem zd_X8_stays_46 : decode cX8_stays 46 = .ok (.iload 4, 2) := by decide +kernel
theorem zd_X8_stays_48 : decode cX8_stays 48 = .ok (.ireturn, 1) := by decide +kernel
theorem zd_X8_stays_49 : decode cX8_stays 49 = .ok (.iinc 3 1, 3) := by decide +kernel
theorem zd_X8_stays_52 : decode cX8_stays 52 = .ok (.iinc 4 1, 3) := by decide +kernel
theorem zd_X8_stays_55 : decode cX8_stays 55 = .ok (.goto (-31), 3) := by decide +kernel
theorem zd_X8_stays_58 : decode cX8_stays 58 = .ok (.iload_n 1, 1) := by decide +kernel
theorem zd_X8_stays_59 : decode cX8_stays 59 = .ok (.iconst (-1), 1) := by decide +kernel
theorem zd_X8_stays_60 : decode cX8_stays 60 = .ok (.if_icmp .ne 7, 3) := by decide +kernel
theorem zd_X8_stays_63 : decode cX8_stays 63 = .ok (.iload_n 3, 1) := by decide +kernel
theorem zd_X8_stays_64 : decode cX8_stays 64 = .ok (.goto 4, 3) := by decide +kernel
theorem zd_X8_stays_67 : decode cX8_stays 67 = .ok (.iconst (-1), 1) := by decide +kernel
theorem zd_X8_stays_68 : decode cX8_stays 68 = .ok (.ireturn, 1) := by decide +kernel
def zb_X8_stays_0 (K : zKt) (J : Nat → zPP) : zPP := zT_ald 0 (zT_push (.int 0) (zT_putI 8 0 38 (zT_ild 2 (zT_S1 zok zc_X8_isKnown (zT_if1 (fun x => x = 0) (zT_push (.int (-1)) (zT_iret K)) (zT_ald 0 (zT_ild 2 (zT_V1 zok 8 38 zc_X8_compareAll (zT_push (.int 0) (zT_ist 3 (zT_push (.int 0) (zT_ist 4 (J 24)))))))))))))
theorem zbs_X8_stays_0 {X : zCt} (hR : zRX X = { frames := 7, cells := 0, slots := 0, locals := 173 }) (J : Nat → zPP) (hJ : ∀ h ∈ ([24] : List Nat), zSd X RX8 "stays" cX8_stays 5 (some .int) h (J h)) : zSd X RX8 "stays" cX8_stays 5 (some .int) 0 (zb_X8_stays_0 (zKX X) J) := zs_aload_n zd_X8_stays_0 rfl (zs_iconst zd_X8_stays_1 (by decide) (zs_putI (ci := 8) (j := 0) (T := TX8) rfl inX8 tyX8_ok nmX8 (by decide) gw_3_89 rfl rfl rfl zd_X8_stays_2 (zs_iload_n zd_X8_stays_5 rfl (zs_S (zm_X8_isKnown _ _ _) gw_4_111 gw_4_109 gw_4_110 gw_1_7 zdn_X8_isKnown (zrm hR (by decide) (by decide)) zd_X8_stays_6 (zCl_S1 zok_l) (zs_if_ne (tgt := 14) zd_X8_stays_9 (by decide) (zs_aload_n zd_X8_stays_14 rfl (zs_iload_n zd_X8_stays_15 rfl (zs_V (ci := 8) rfl rfl (zm_X8_compareAll _ _ _) gw_4_115 gw_4_112 gw_4_114 gw_0_39 gw_1_7 zdn_X8_compareAll (zrm hR (by decide) (by decide)) zd_X8_stays_16 (zCl_V1 zok_l) (zs_iconst zd_X8_stays_19 (by decide) (zs_istore_n zd_X8_stays_20 rfl (by decide) (zs_iconst zd_X8_stays_21 (by decide) (zs_istore zd_X8_stays_22 (by decide) (hJ 24 (by decide))))))))) (zs_iconst zd_X8_stays_12 (by decide) (zs_iret rfl zd_X8_stays_13)))))))
def zb_X8_stays_52 (K : zKt) (J : Nat → zPP) : zPP := zT_iinc 4 1 (J 24)
theorem zbs_X8_stays_52 {X : zCt} (hR : zRX X = { frames := 7, cells := 0, slots := 0, locals := 173 }) (J : Nat → zPP) (hJ : ∀ h ∈ ([24] : List Nat), zSd X RX8 "stays" cX8_stays 5 (some .int) h (J h)) : zSd X RX8 "stays" cX8_stays 5 (some .int) 52 (zb_X8_stays_52 (zKX X) J) := zs_iinc zd_X8_stays_52 (by decide) (by decide) (zs_goto (tgt := 24) zd_X8_stays_55 (by decide) (hJ 24 (by decide)))
def zb_X8_stays_68 (K : zKt) (J : Nat → zPP) : zPP := zT_iret K
theorem zbs_X8_stays_68 {X : zCt} (hR : zRX X = { frames := 7, cells := 0, slots := 0, locals := 173 }) (J : Nat → zPP) (hJ : ∀ h ∈ ([24] : List Nat), zSd X RX8 "stays" cX8_stays 5 (some .int) h (J h)) : zSd X RX8 "stays" cX8_stays 5 (some .int) 68 (zb_X8_stays_68 (zKX X) J) := zs_iret rfl zd_X8_stays_68
def zb_X8_stays_24 (K : zKt) (J : Nat → zPP) : zPP := zT_ild 4 (zT_push (.int 36) (zT_if2 (fun x y => y ≤ x) (zT_ild 1 (zT_push (.int (-1)) (zT_if2 (fun x y => x = y) (zT_ild 3 (zb_X8_stays_68 K J)) (zT_push (.int (-1)) (zb_X8_stays_68 K J))))) (zT_ald 0 (zT_getR 8 36 38 (zT_ild 4 (zT_ald0 0 (zT_if1 (fun x => x = 0) (zT_ild 3 (zT_ild 1 (zT_if2 (fun x y => x = y) (zT_ild 4 (zT_iret K)) (zT_iinc 3 1 (zb_X8_stays_52 K J))))) (zb_X8_stays_52 K J))))))))
theorem zbs_X8_stays_24 {X : zCt} (hR : zRX X = { frames := 7, cells := 0, slots := 0, locals := 173 }) (J : Nat → zPP) (hJ : ∀ h ∈ ([24] : List Nat), zSd X RX8 "stays" cX8_stays 5 (some .int) h (J h)) : zSd X RX8 "stays" cX8_stays 5 (some .int) 24 (zb_X8_stays_24 (zKX X) J) := zs_iload zd_X8_stays_24 (zs_bipush zd_X8_stays_26 (by decide) (zs_icmp_ge (tgt := 58) zd_X8_stays_28 (by decide) (zs_iload_n zd_X8_stays_58 rfl (zs_iconst zd_X8_stays_59 (by decide) (zs_icmp_ne (tgt := 67) zd_X8_stays_60 (by decide) (zs_iconst zd_X8_stays_67 (by decide) (zbs_X8_stays_68 hR J hJ)) (zs_iload_n zd_X8_stays_63 rfl (zs_goto (tgt := 68) zd_X8_stays_64 (by decide) (zbs_X8_stays_68 hR J hJ)))))) (zs_aload_n zd_X8_stays_31 rfl (zs_getR (ci := 8) (j := 36) (T := TX8) rfl inX8 (by decide) gw_3_125 rfl zd_X8_stays_32 (zs_iload zd_X8_stays_35 (zs_iald zd_X8_stays_37 (zs_if_ne (tgt := 52) zd_X8_stays_38 (by decide) (zbs_X8_stays_52 hR J hJ) (zs_iload_n zd_X8_stays_41 rfl (zs_iload_n zd_X8_stays_42 rfl (zs_icmp_ne (tgt := 49) zd_X8_stays_43 (by decide) (zs_iinc zd_X8_stays_49 (by decide) (by decide) (zbs_X8_stays_52 hR J hJ)) (zs_iload zd_X8_stays_46 (zs_iret rfl zd_X8_stays_48))))))))))))
def zB_X8_stays (K : zKt) (J : Nat → zPP) (h : Nat) : zPP := if h = 24 then zb_X8_stays_24 K J else (fun _ _ _ => False)
theorem zBs_X8_stays {X : zCt} (hR : zRX X = { frames := 7, cells := 0, slots := 0, locals := 173 }) : ∀ J : Nat → zPP, (∀ h ∈ ([24] : List Nat), zSd X RX8 "stays" cX8_stays 5 (some .int) h (J h)) → ∀ h ∈ ([24] : List Nat), zSd X RX8 "stays" cX8_stays 5 (some .int) h (zB_X8_stays (zKX X) J h) := by
  intro J hJ h hh
  unfold zB_X8_stays
  simp only [List.mem_cons, List.not_mem_nil, or_false] at hh
  subst hh
  exact zbs_X8_stays_24 hR J hJ
theorem zdn_X8_stays : yX8_stays.cls ≠ "java/lang/invoke/MethodHandle" ∧ yX8_stays.cls ≠ "java/lang/invoke/VarHandle" ∧ (parseMethodDescriptor yX8_stays.desc).map (fun d => d.parameters.length) = some 2 := by decide +kernel
/-! DeltaRunsModel wasted -/
theorem zd_X8_wasted_0 : decode cX8_wasted 0 = .ok (.aload_n 0, 1) := by decide +kernel
theorem zd_X8_wasted_1 : decode cX8_wasted 1 = .ok (.iconst 0, 1) := by decide +kernel
theorem zd_X8_wasted_2 : decode cX8_wasted 2 = .ok (.putfield 93, 3) := by decide +kernel
theorem zd_X8_wasted_5 : decode cX8_wasted 5 = .ok (.iload_n 1, 1) := by decide +kernel
theorem zd_X8_wasted_6 : decode cX8_wasted 6 = .ok (.invokestatic 236, 3) := by decide +kernel
theorem zd_X8_wasted_9 : decode cX8_wasted 9 = .ok (.ifCond .ne 5, 3) := by decide +kernel
theorem zd_X8_wasted_12 : decode cX8_wasted 12 = .ok (.iconst (-1), 1) := by decide +kernel
theorem zd_X8_wasted_13 : decode cX8_wasted 13 = .ok (.ireturn, 1) := by decide +kernel
theorem zd_X8_wasted_14 : decode cX8_wasted 14 = .ok (.aload_n 0, 1) := by decide +kernel
theorem zd_X8_wasted_15 : decode cX8_wasted 15 = .ok (.iload_n 1, 1) := by decide +kernel
theorem zd_X8_wasted_16 : decode cX8_wasted 16 = .ok (.invokevirtual 239, 3) := by decide +kernel
theorem zd_X8_wasted_19 : decode cX8_wasted 19 = .ok (.iconst (-1), 1) := by decide +kernel
theorem zd_X8_wasted_20 : decode cX8_wasted 20 = .ok (.istore_n 2, 1) := by decide +kernel
theorem zd_X8_wasted_21 : decode cX8_wasted 21 = .ok (.iconst 0, 1) := by decide +kernel
theorem zd_X8_wasted_22 : decode cX8_wasted 22 = .ok (.istore_n 3, 1) := by decide +kernel
theorem zd_X8_wasted_23 : decode cX8_wasted 23 = .ok (.iload_n 3, 1) := by decide +kernel
theorem zd_X8_wasted_24 : decode cX8_wasted 24 = .ok (.bipush 36, 2) := by decide +kernel
theorem zd_X8_wasted_26 : decode cX8_wasted 26 = .ok (.if_icmp .ge 51, 3) := by decide +kernel
theorem zd_X8_wasted_29 : decode cX8_wasted 29 = .ok (.aload_n 0, 1) := by decide +kernel
theorem zd_X8_wasted_30 : decode cX8_wasted 30 = .ok (.getfield 84, 3) := by decide +kernel
theorem zd_X8_wasted_33 : decode cX8_wasted 33 = .ok (.iload_n 3, 1) := by decide +kernel
theorem zd_X8_wasted_34 : decode cX8_wasted 34 = .ok (.iaload, 1) := by decide +kernel
theorem zd_X8_wasted_35 : decode cX8_wasted 35 = .ok (.ifCond .ne 5, 3) := by decide +kernel
theorem zd_X8_wasted_38 : decode cX8_wasted 38 = .ok (.iconst (-1), 1) := by decide +kernel
theorem zd_X8_wasted_39 : decode cX8_wasted 39 = .ok (.ireturn, 1) := by decide +kernel
theorem zd_X8_wasted_40 : decode cX8_wasted 40 = .ok (.aload_n 0, 1) := by decide +kernel
theorem zd_X8_wasted_41 : decode cX8_wasted 41 = .ok (.getfield 84, 3) := by decide +kernel
theorem zd_X8_wasted_44 : decode cX8_wasted 44 = .ok (.iload_n 3, 1) := by decide +kernel
theorem zd_X8_wasted_45 : decode cX8_wasted 45 = .ok (.iaload, 1) := by decide +kernel
theorem zd_X8_wasted_46 : decode cX8_wasted 46 = .ok (.iconst 1, 1) := by decide +kernel
theorem zd_X8_wasted_47 : decode cX8_wasted 47 = .ok (.if_icmp .ne 24, 3) := by decide +kernel
theorem zd_X8_wasted_50 : decode cX8_wasted 50 = .ok (.iload_n 2, 1) := by decide +kernel
theorem zd_X8_wasted_51 : decode cX8_wasted 51 = .ok (.ifCond .lt 13, 3) := by decide +kernel
theorem zd_X8_wasted_54 : decode cX8_wasted 54 = .ok (.aload_n 0, 1) := by decide +kernel
theorem zd_X8_wasted_55 : decode cX8_wasted 55 = .ok (.getfield 87, 3) := by decide +kernel
theorem zd_X8_wasted_58 : decode cX8_wasted 58 = .ok (.iload_n 3, 1) := by decide +kernel
theorem zd_X8_wasted_59 : decode cX8_wasted 59 = .ok (.iaload, 1) := by decide +kernel
theorem zd_X8_wasted_60 : decode cX8_wasted 60 = .ok (.iload_n 2, 1) := by decide +kernel
theorem zd_X8_wasted_61 : decode cX8_wasted 61 = .ok (.if_icmp .ge 10, 3) := by decide +kernel
theorem zd_X8_wasted_64 : decode cX8_wasted 64 = .ok (.aload_n 0, 1) := by decide +kernel
theorem zd_X8_wasted_65 : decode cX8_wasted 65 = .ok (.getfield 87, 3) := by decide +kernel
theorem zd_X8_wasted_68 : decode cX8_wasted 68 = .ok (.iload_n 3, 1) := by decide +kernel
theorem zd_X8_wasted_69 : decode cX8_wasted 69 = .ok (.iaload, 1) := by decide +kernel
theorem zd_X8_wasted_70 : decode cX8_wasted 70 = .ok (.istore_n 2, 1) := by decide +kernel
theorem zd_X8_wasted_71 : decode cX8_wasted 71 = .ok (.iinc 3 1, 3) := by decide +kernel
theorem zd_X8_wasted_74 : decode cX8_wasted 74 = .ok (.goto (-51), 3) := by decide +kernel
theorem zd_X8_wasted_77 : decode cX8_wasted 77 = .ok (.iload_n 2, 1) := by decide +kernel
theorem zd_X8_wasted_78 : decode cX8_wasted 78 = .ok (.ireturn, 1) := by decide +kernel
def zb_X8_wasted_0 (K : zKt) (J : Nat → zPP) : zPP := zT_ald 0 (zT_push (.int 0) (zT_putI 8 0 38 (zT_ild 1 (zT_S1 zok zc_X8_isKnown (zT_if1 (fun x => x = 0) (zT_push (.int (-1)) (zT_iret K)) (zT_ald 0 (zT_ild 1 (zT_V1 zok 8 38 zc_X8_compareAll (zT_push (.int (-1)) (zT_ist 2 (zT_push (.int 0) (zT_ist 3 (J 23)))))))))))))
theorem zbs_X8_wasted_0 {X : zCt} (hR : zRX X = { frames := 7, cells := 0, slots := 0, locals := 173 }) (J : Nat → zPP) (hJ : ∀ h ∈ ([23] : List Nat), zSd X RX8 "wasted" cX8_wasted 4 (some .int) h (J h)) : zSd X RX8 "wasted" cX8_wasted 4 (some .int) 0 (zb_X8_wasted_0 (zKX X) J) := zs_aload_n zd_X8_wasted_0 rfl (zs_iconst zd_X8_wasted_1 (by decide) (zs_putI (ci := 8) (j := 0) (T := TX8) rfl inX8 tyX8_ok nmX8 (by decide) gw_3_89 rfl rfl rfl zd_X8_wasted_2 (zs_iload_n zd_X8_wasted_5 rfl (zs_S (zm_X8_isKnown _ _ _) gw_4_111 gw_4_109 gw_4_110 gw_1_7 zdn_X8_isKnown (zrm hR (by decide) (by decide)) zd_X8_wasted_6 (zCl_S1 zok_l) (zs_if_ne (tgt := 14) zd_X8_wasted_9 (by decide) (zs_aload_n zd_X8_wasted_14 rfl (zs_iload_n zd_X8_wasted_15 rfl (zs_V (ci := 8) rfl rfl (zm_X8_compareAll _ _ _) gw_4_115 gw_4_112 gw_4_114 gw_0_39 gw_1_7 zdn_X8_compareAll (zrm hR (by decide) (by decide)) zd_X8_wasted_16 (zCl_V1 zok_l) (zs_iconst zd_X8_wasted_19 (by decide) (zs_istore_n zd_X8_wasted_20 rfl (by decide) (zs_iconst zd_X8_wasted_21 (by decide) (zs_istore_n zd_X8_wasted_22 rfl (by decide) (hJ 23 (by decide))))))))) (zs_iconst zd_X8_wasted_12 (by decide) (zs_iret rfl zd_X8_wasted_13)))))))
def zb_X8_wasted_71 (K : zKt) (J : Nat → zPP) : zPP := zT_iinc 3 1 (J 23)
theorem zbs_X8_wasted_71 {X : zCt} (hR : zRX X = { frames := 7, cells := 0, slots := 0, locals := 173 }) (J : Nat → zPP) (hJ : ∀ h ∈ ([23] : List Nat), zSd X RX8 "wasted" cX8_wasted 4 (some .int) h (J h)) : zSd X RX8 "wasted" cX8_wasted 4 (some .int) 71 (zb_X8_wasted_71 (zKX X) J) := zs_iinc zd_X8_wasted_71 (by decide) (by decide) (zs_goto (tgt := 23) zd_X8_wasted_74 (by decide) (hJ 23 (by decide)))
def zb_X8_wasted_64 (K : zKt) (J : Nat → zPP) : zPP := zT_ald 0 (zT_getR 8 37 38 (zT_ild 3 (zT_ald0 0 (zT_ist 2 (zb_X8_wasted_71 K J)))))
theorem zbs_X8_wasted_64 {X : zCt} (hR : zRX X = { frames := 7, cells := 0, slots := 0, locals := 173 }) (J : Nat → zPP) (hJ : ∀ h ∈ ([23] : List Nat), zSd X RX8 "wasted" cX8_wasted 4 (some .int) h (J h)) : zSd X RX8 "wasted" cX8_wasted 4 (some .int) 64 (zb_X8_wasted_64 (zKX X) J) := zs_aload_n zd_X8_wasted_64 rfl (zs_getR (ci := 8) (j := 37) (T := TX8) rfl inX8 (by decide) gw_3_126 rfl zd_X8_wasted_65 (zs_iload_n zd_X8_wasted_68 rfl (zs_iald zd_X8_wasted_69 (zs_istore_n zd_X8_wasted_70 rfl (by decide) (zbs_X8_wasted_71 hR J hJ)))))
def zb_X8_wasted_23 (K : zKt) (J : Nat → zPP) : zPP := zT_ild 3 (zT_push (.int 36) (zT_if2 (fun x y => y ≤ x) (zT_ild 2 (zT_iret K)) (zT_ald 0 (zT_getR 8 36 38 (zT_ild 3 (zT_ald0 0 (zT_if1 (fun x => x = 0) (zT_push (.int (-1)) (zT_iret K)) (zT_ald 0 (zT_getR 8 36 38 (zT_ild 3 (zT_ald0 0 (zT_push (.int 1) (zT_if2 (fun x y => x = y) (zT_ild 2 (zT_if1 (fun x => x < 0) (zb_X8_wasted_64 K J) (zT_ald 0 (zT_getR 8 37 38 (zT_ild 3 (zT_ald0 0 (zT_ild 2 (zT_if2 (fun x y => y ≤ x) (zb_X8_wasted_71 K J) (zb_X8_wasted_64 K J))))))))) (zb_X8_wasted_71 K J))))))))))))))
theorem zbs_X8_wasted_23 {X : zCt} (hR : zRX X = { frames := 7, cells := 0, slots := 0, locals := 173 }) (J : Nat → zPP) (hJ : ∀ h ∈ ([23] : List Nat), zSd X RX8 "wasted" cX8_wasted 4 (some .int) h (J h)) : zSd X RX8 "wasted" cX8_wasted 4 (some .int) 23 (zb_X8_wasted_23 (zKX X) J) := zs_iload_n zd_X8_wasted_23 rfl (zs_bipush zd_X8_wasted_24 (by decide) (zs_icmp_ge (tgt := 77) zd_X8_wasted_26 (by decide) (zs_iload_n zd_X8_wasted_77 rfl (zs_iret rfl zd_X8_wasted_78)) (zs_aload_n zd_X8_wasted_29 rfl (zs_getR (ci := 8) (j := 36) (T := TX8) rfl inX8 (by decide) gw_3_125 rfl zd_X8_wasted_30 (zs_iload_n zd_X8_wasted_33 rfl (zs_iald zd_X8_wasted_34 (zs_if_ne (tgt := 40) zd_X8_wasted_35 (by decide) (zs_aload_n zd_X8_wasted_40 rfl (zs_getR (ci := 8) (j := 36) (T := TX8) rfl inX8 (by decide) gw_3_125 rfl zd_X8_wasted_41 (zs_iload_n zd_X8_wasted_44 rfl (zs_iald zd_X8_wasted_45 (zs_iconst zd_X8_wasted_46 (by decide) (zs_icmp_ne (tgt := 71) zd_X8_wasted_47 (by decide) (zbs_X8_wasted_71 hR J hJ) (zs_iload_n zd_X8_wasted_50 rfl (zs_if_lt (tgt := 64) zd_X8_wasted_51 (by decide) (zbs_X8_wasted_64 hR J hJ) (zs_aload_n zd_X8_wasted_54 rfl (zs_getR (ci := 8) (j := 37) (T := TX8) rfl inX8 (by decide) gw_3_126 rfl zd_X8_wasted_55 (zs_iload_n zd_X8_wasted_58 rfl (zs_iald zd_X8_wasted_59 (zs_iload_n zd_X8_wasted_60 rfl (zs_icmp_ge (tgt := 71) zd_X8_wasted_61 (by decide) (zbs_X8_wasted_71 hR J hJ) (zbs_X8_wasted_64 hR J hJ))))))))))))))) (zs_iconst zd_X8_wasted_38 (by decide) (zs_iret rfl zd_X8_wasted_39)))))))))
def zB_X8_wasted (K : zKt) (J : Nat → zPP) (h : Nat) : zPP := if h = 23 then zb_X8_wasted_23 K J else (fun _ _ _ => False)
theorem zBs_X8_wasted {X : zCt} (hR : zRX X = { frames := 7, cells := 0, slots := 0, locals := 173 }) : ∀ J : Nat → zPP, (∀ h ∈ ([23] : List Nat), zSd X RX8 "wasted" cX8_wasted 4 (some .int) h (J h)) → ∀ h ∈ ([23] : List Nat), zSd X RX8 "wasted" cX8_wasted 4 (some .int) h (zB_X8_wasted (zKX X) J h) := by
  intro J hJ h hh
  unfold zB_X8_wasted
  simp only [List.mem_cons, List.not_mem_nil, or_false] at hh
  subst hh
  exact zbs_X8_wasted_23 hR J hJ
theorem zdn_X8_wasted : yX8_wasted.cls ≠ "java/lang/invoke/MethodHandle" ∧ yX8_wasted.cls ≠ "java/lang/invoke/VarHandle" ∧ (parseMethodDescriptor yX8_wasted.desc).map (fun d => d.parameters.length) = some 1 := by decide +kernel
/-! DeltaRunsModel foretold -/
theorem zd_X8_foretold_0 : decode cX8_foretold 0 = .ok (.aload_n 0, 1) := by decide +kernel
theorem zd_X8_foretold_1 : decode cX8_foretold 1 = .ok (.iconst 0, 1) := by decide +kernel
theorem zd_X8_foretold_2 : decode cX8_foretold 2 = .ok (.putfield 93, 3) := by decide +kernel
theorem zd_X8_foretold_5 : decode cX8_foretold 5 = .ok (.aload_n 0, 1) := by decide +kernel
theorem zd_X8_foretold_6 : decode cX8_foretold 6 = .ok (.iload_n 1, 1) := by decide +kernel
theorem zd_X8_foretold_7 : decode cX8_foretold 7 = .ok (.iload_n 2, 1) := by decide +kernel
theorem zd_X8_foretold_8 : decode cX8_foretold 8 = .ok (.invokevirtual 121, 3) := by decide +kernel
theorem zd_X8_foretold_11 : decode cX8_foretold 11 = .ok (.ifCond .eq 31, 3) := by decide +kernel
theorem zd_X8_foretold_14 : decode cX8_foretold 14 = .ok (.iload_n 3, 1) := by decide +kernel
theorem zd_X8_foretold_15 : decode cX8_foretold 15 = .ok (.invokestatic 227, 3) := by decide +kernel
theorem zd_X8_foretold_18 : decode cX8_foretold 18 = .ok (.ifCond .eq 24, 3) := by decide +kernel
theorem zd_X8_foretold_21 : decode cX8_foretold 21 = .ok (.iload 4, 2) := by decide +kernel
theorem zd_X8_foretold_23 : decode cX8_foretold 23 = .ok (.invokestatic 236, 3) := by decide +kernel
theorem zd_X8_foretold_26 : decode cX8_foretold 26 = .ok (.ifCond .eq 16, 3) := by decide +kernel
theorem zd_X8_foretold_29 : decode cX8_foretold 29 = .ok (.iload 5, 2) := by decide +kernel
theorem zd_X8_foretold_31 : decode cX8_foretold 31 = .ok (.i2l, 1) := by decide +kernel
theorem zd_X8_foretold_32 : decode cX8_foretold 32 = .ok (.lconst 0, 1) := by decide +kernel
theorem zd_X8_foretold_33 : decode cX8_foretold 33 = .ok (.ldc2_w 109, 3) := by decide +kernel
theorem zd_X8_foretold_36 : decode cX8_foretold 36 = .ok (.invokestatic 105, 3) := by decide +kernel
theorem zd_X8_foretold_39 : decode cX8_foretold 39 = .ok (.ifCond .ne 6, 3) := by decide +kernel
theorem zd_X8_foretold_42 : decode cX8_foretold 42 = .ok (.bipush (-100), 2) := by decide +kernel
theorem zd_X8_foretold_44 : decode cX8_foretold 44 = .ok (.ireturn, 1) := by decide +kernel
theorem zd_X8_foretold_45 : decode cX8_foretold 45 = .ok (.aload_n 0, 1) := by decide +kernel
theorem zd_X8_foretold_46 : decode cX8_foretold 46 = .ok (.iload 4, 2) := by decide +kernel
theorem zd_X8_foretold_48 : decode cX8_foretold 48 = .ok (.invokevirtual 239, 3) := by decide +kernel
theorem zd_X8_foretold_51 : decode cX8_foretold 51 = .ok (.iload_n 2, 1) := by decide +kernel
theorem zd_X8_foretold_52 : decode cX8_foretold 52 = .ok (.aload_n 0, 1) := by decide +kernel
theorem zd_X8_foretold_53 : decode cX8_foretold 53 = .ok (.getfield 7, 3) := by decide +kernel
theorem zd_X8_foretold_56 : decode cX8_foretold 56 = .ok (.imul, 1) := by decide +kernel
theorem zd_X8_foretold_57 : decode cX8_foretold 57 = .ok (.iload_n 1, 1) := by decide +kernel
theorem zd_X8_foretold_58 : decode cX8_foretold 58 = .ok (.iadd, 1) := by decide +kernel
theorem zd_X8_foretold_59 : decode cX8_foretold 59 = .ok (.istore 6, 2) := by decide +kernel
theorem zd_X8_foretold_61 : decode cX8_foretold 61 = .ok (.bipush (-100), 2) := by decide +kernel
theorem zd_X8_foretold_63 : decode cX8_foretold 63 = .ok (.istore 7, 2) := by decide +kernel
theorem zd_X8_foretold_65 : decode cX8_foretold 65 = .ok (.bipush (-100), 2) := by decide +kernel
theorem zd_X8_foretold_67 : decode cX8_foretold 67 = .ok (.istore 8, 2) := by decide +kernel
theorem zd_X8_foretold_69 : decode cX8_foretold 69 = .ok (.iconst 0, 1) := by decide +kernel
theorem zd_X8_foretold_70 : decode cX8_foretold 70 = .ok (.istore 9, 2) := by decide +kernel
theorem zd_X8_foretold_72 : decode cX8_foretold 72 = .ok (.iload 9, 2) := by decide +kernel
theorem zd_X8_foretold_74 : decode cX8_foretold 74 = .ok (.bipush 36, 2) := by decide +kernel
theorem zd_X8_foretold_76 : decode cX8_foretold 76 = .ok (.if_icmp .ge 85, 3) := by decide +kernel
theorem zd_X8_foretold_79 : decode cX8_foretold 79 = .ok (.aload_n 0, 1) := by decide +kernel
theorem zd_X8_foretold_80 : decode cX8_foretold 80 = .ok (.getfield 84, 3) := by decide +kernel
theorem zd_X8_foretold_83 : decode cX8_foretold 83 = .ok (.iload 9, 2) := by decide +kernel
theorem zd_X8_foretold_85 : decode cX8_foretold 85 = .ok (.iaload, 1) := by decide +kernel
theorem zd_X8_foretold_86 : decode cX8_foretold 86 = .ok (.ifCond .ne 69, 3) := by decide +kernel
theorem zd_X8_foretold_89 : decode cX8_foretold 89 = .ok (.aload_n 0, 1) := by decide +kernel
theorem zd_X8_foretold_90 : decode cX8_foretold 90 = .ok (.iload 9, 2) := by decide +kernel
theorem zd_X8_foretold_92 : decode cX8_foretold 92 = .ok (.iload_n 3, 1) := by decide +kernel
theorem zd_X8_foretold_93 : decode cX8_foretold 93 = .ok (.invokevirtual 230, 3) := by decide +kernel
theorem zd_X8_foretold_96 : decode cX8_foretold 96 = .ok (.iload 7, 2) := by decide +kernel
theorem zd_X8_foretold_98 : decode cX8_foretold 98 = .ok (.bipush (-100), 2) := by decide +kernel
theorem zd_X8_foretold_100 : decode cX8_foretold 100 = .ok (.if_icmp .eq 15, 3) := by decide +kernel
theorem zd_X8_foretold_103 : decode cX8_foretold 103 = .ok (.aload_n 0, 1) := by decide +kernel
theorem zd_X8_foretold_104 : decode cX8_foretold 104 = .ok (.getfield 50, 3) := by decide +kernel
theorem zd_X8_foretold_107 : decode cX8_foretold 107 = .ok (.iload 6, 2) := by decide +kernel
theorem zd_X8_foretold_109 : decode cX8_foretold 109 = .ok (.iaload, 1) := by decide +kernel
theorem zd_X8_foretold_110 : decode cX8_foretold 110 = .ok (.iload 7, 2) := by decide +kernel
theorem zd_X8_foretold_112 : decode cX8_foretold 112 = .ok (.if_icmp .ge 13, 3) := by decide +kernel
theorem zd_X8_foretold_115 : decode cX8_foretold 115 = .ok (.aload_n 0, 1) := by decide +kernel
theorem zd_X8_foretold_116 : decode cX8_foretold 116 = .ok (.getfield 50, 3) := by decide +kernel
theorem zd_X8_foretold_119 : decode cX8_foretold 119 = .ok (.iload 6, 2) := by decide +kernel
theorem zd_X8_foretold_121 : decode cX8_foretold 121 = .ok (.iaload, 1) := by decide +kernel
theorem zd_X8_foretold_122 : decode cX8_foretold 122 = .ok (.goto 5, 3) := by decide +kernel
theorem zd_X8_foretold_125 : decode cX8_foretold 125 = .ok (.iload 7, 2) := by decide +kernel
theorem zd_X8_foretold_127 : decode cX8_foretold 127 = .ok (.istore 7, 2) := by decide +kernel
theorem zd_X8_foretold_129 : decode cX8_foretold 129 = .ok (.aload_n 0, 1) := by decide +kernel
theorem zd_X8_foretold_130 : decode cX8_foretold 130 = .ok (.getfield 50, 3) := by decide +kernel
theorem zd_X8_foretold_133 : decode cX8_foretold 133 = .ok (.iload 6, 2) := by decide +kernel
theorem zd_X8_foretold_135 : decode cX8_foretold 135 = .ok (.iaload, 1) := by decide +kernel
theorem zd_X8_foretold_136 : decode cX8_foretold 136 = .ok (.iload 8, 2) := by decide +kernel
theorem zd_X8_foretold_138 : decode cX8_foretold 138 = .ok (.if_icmp .le 13, 3) := by decide +kernel
theorem zd_X8_foretold_141 : decode cX8_foretold 141 = .ok (.aload_n 0, 1) := by decide +kernel
theorem zd_X8_foretold_142 : decode cX8_foretold 142 = .ok (.getfield 50, 3) := by decide +kernel
theorem zd_X8_foretold_145 : decode cX8_foretold 145 = .ok (.iload 6, 2) := by decide +kernel
theorem zd_X8_foretold_147 : decode cX8_foretold 147 = .ok (.iaload, 1) := by decide +kernel
theorem zd_X8_foretold_148 : decode cX8_foretold 148 = .ok (.goto 5, 3) := by decide +kernel
theorem zd_X8_foretold_151 : decode cX8_foretold 151 = .ok (.iload 8, 2) := by decide +kernel
theorem zd_X8_foretold_153 : decode cX8_foretold 153 = .ok (.istore 8, 2) := by decide +kernel
theorem zd_X8_foretold_155 : decode cX8_foretold 155 = .ok (.iinc 9 1, 3) := by decide +kernel
theorem zd_X8_foretold_158 : decode cX8_foretold 158 = .ok (.goto (-86), 3) := by decide +kernel
theorem zd_X8_foretold_161 : decode cX8_foretold 161 = .ok (.iload 7, 2) := by decide +kernel
theorem zd_X8_foretold_163 : decode cX8_foretold 163 = .ok (.bipush (-100), 2) := by decide +kernel
theorem zd_X8_foretold_165 : decode cX8_foretold 165 = .ok (.if_icmp .ne 6, 3) := by decide +kernel
theorem zd_X8_foretold_168 : decode cX8_foretold 168 = .ok (.bipush (-100), 2) := by decide +kernel
theorem zd_X8_foretold_170 : decode cX8_foretold 170 = .ok (.ireturn, 1) := by decide +kernel
theorem zd_X8_foretold_171 : decode cX8_foretold 171 = .ok (.iload 5, 2) := by decide +kernel
theorem zd_X8_foretold_173 : decode cX8_foretold 173 = .ok (.ifCond .ne 8, 3) := by decide +kernel
theorem zd_X8_foretold_176 : decode cX8_foretold 176 = .ok (.iload 7, 2) := by decide +kernel
theorem zd_X8_foretold_178 : decode cX8_foretold 178 = .ok (.goto 47, 3) := by decide +kernel
theorem zd_X8_foretold_181 : decode cX8_foretold 181 = .ok (.iload 5, 2) := by decide +kernel
theorem zd_X8_foretold_183 : decode cX8_foretold 183 = .ok (.iconst 1, 1) := by decide +kernel
theorem zd_X8_foretold_184 : decode cX8_foretold 184 = .ok (.if_icmp .ne 8, 3) := by decide +kernel
theorem zd_X8_foretold_187 : decode cX8_foretold 187 = .ok (.iload 8, 2) := by decide +kernel
theorem zd_X8_foretold_189 : decode cX8_foretold 189 = .ok (.goto 36, 3) := by decide +kernel
theorem zd_X8_foretold_192 : decode cX8_foretold 192 = .ok (.iload 7, 2) := by decide +kernel
theorem zd_X8_foretold_194 : decode cX8_foretold 194 = .ok (.aload_n 0, 1) := by decide +kernel
theorem zd_X8_foretold_195 : decode cX8_foretold 195 = .ok (.getfield 22, 3) := by decide +kernel
theorem zd_X8_foretold_198 : decode cX8_foretold 198 = .ok (.iload 6, 2) := by decide +kernel
theorem zd_X8_foretold_200 : decode cX8_foretold 200 = .ok (.iaload, 1) := by decide +kernel
theorem zd_X8_foretold_201 : decode cX8_foretold 201 = .ok (.if_icmp .le 7, 3) := by decide +kernel
theorem zd_X8_foretold_204 : decode cX8_foretold 204 = .ok (.iconst 1, 1) := by decide +kernel
theorem zd_X8_foretold_205 : decode cX8_foretold 205 = .ok (.goto 20, 3) := by decide +kernel
theorem zd_X8_foretold_208 : decode cX8_foretold 208 = .ok (.iload 8, 2) := by decide +kernel
theorem zd_X8_foretold_210 : decode cX8_foretold 210 = .ok (.aload_n 0, 1) := by decide +kernel
theorem zd_X8_foretold_211 : decode cX8_foretold 211 = .ok (.getfield 22, 3) := by decide +kernel
theorem zd_X8_foretold_214 : decode cX8_foretold 214 = .ok (.iload 6, 2) := by decide +kernel
theorem zd_X8_foretold_216 : decode cX8_foretold 216 = .ok (.iaload, 1) := by decide +kernel
theorem zd_X8_foretold_217 : decode cX8_foretold 217 = .ok (.if_icmp .ge 7, 3) := by decide +kernel
theorem zd_X8_foretold_220 : decode cX8_foretold 220 = .ok (.iconst (-1), 1) := by decide +kernel
theorem zd_X8_foretold_221 : decode cX8_foretold 221 = .ok (.goto 4, 3) := by decide +kernel
theorem zd_X8_foretold_224 : decode cX8_foretold 224 = .ok (.iconst 0, 1) := by decide +kernel
theorem zd_X8_foretold_225 : decode cX8_foretold 225 = .ok (.ireturn, 1) := by decide +kernel
def zb_X8_foretold_42 (K : zKt) (J : Nat → zPP) : zPP := zT_push (.int (-100)) (zT_iret K)
theorem zbs_X8_foretold_42 {X : zCt} (hR : zRX X = { frames := 7, cells := 0, slots := 0, locals := 173 }) (J : Nat → zPP) (hJ : ∀ h ∈ ([72] : List Nat), zSd X RX8 "foretold" cX8_foretold 10 (some .int) h (J h)) : zSd X RX8 "foretold" cX8_foretold 10 (some .int) 42 (zb_X8_foretold_42 (zKX X) J) := zs_bipush zd_X8_foretold_42 (by decide) (zs_iret rfl zd_X8_foretold_44)
def zb_X8_foretold_0 (K : zKt) (J : Nat → zPP) : zPP := zT_ald 0 (zT_push (.int 0) (zT_putI 8 0 38 (zT_ald 0 (zT_ild 1 (zT_ild 2 (zT_V2 zok 8 38 zc_X8_isCell (zT_if1 (fun x => x = 0) (zb_X8_foretold_42 K J) (zT_ild 3 (zT_S1 zok zc_X8_isYear (zT_if1 (fun x => x = 0) (zb_X8_foretold_42 K J) (zT_ild 4 (zT_S1 zok zc_X8_isKnown (zT_if1 (fun x => x = 0) (zb_X8_foretold_42 K J) (zT_ild 5 (zT_i2l (zT_push (.long 0) (zT_push (.long 2) (zT_S3 zok zc_X8_in (zT_if1 (fun x => x = 0) (zb_X8_foretold_42 K J) (zT_ald 0 (zT_ild 4 (zT_V1 zok 8 38 zc_X8_compareAll (zT_ild 2 (zT_ald 0 (zT_getI 8 2 38 (zT_bin (fun x y => x * y) (zT_ild 1 (zT_bin (fun x y => x + y) (zT_ist 6 (zT_push (.int (-100)) (zT_ist 7 (zT_push (.int (-100)) (zT_ist 8 (zT_push (.int 0) (zT_ist 9 (J 72))))))))))))))))))))))))))))))))))))
theorem zbs_X8_foretold_0 {X : zCt} (hR : zRX X = { frames := 7, cells := 0, slots := 0, locals := 173 }) (J : Nat → zPP) (hJ : ∀ h ∈ ([72] : List Nat), zSd X RX8 "foretold" cX8_foretold 10 (some .int) h (J h)) : zSd X RX8 "foretold" cX8_foretold 10 (some .int) 0 (zb_X8_foretold_0 (zKX X) J) := zs_aload_n zd_X8_foretold_0 rfl (zs_iconst zd_X8_foretold_1 (by decide) (zs_putI (ci := 8) (j := 0) (T := TX8) rfl inX8 tyX8_ok nmX8 (by decide) gw_3_89 rfl rfl rfl zd_X8_foretold_2 (zs_aload_n zd_X8_foretold_5 rfl (zs_iload_n zd_X8_foretold_6 rfl (zs_iload_n zd_X8_foretold_7 rfl (zs_V (ci := 8) rfl rfl (zm_X8_isCell _ _ _) gw_3_226 gw_3_223 gw_3_225 gw_0_24 gw_1_7 zdn_X8_isCell (zrm hR (by decide) (by decide)) zd_X8_foretold_8 (zCl_V2 zok_l) (zs_if_eq (tgt := 42) zd_X8_foretold_11 (by decide) (zbs_X8_foretold_42 hR J hJ) (zs_iload_n zd_X8_foretold_14 rfl (zs_S (zm_X8_isYear _ _ _) gw_4_60 gw_4_58 gw_4_59 gw_1_7 zdn_X8_isYear (zrm hR (by decide) (by decide)) zd_X8_foretold_15 (zCl_S1 zok_l) (zs_if_eq (tgt := 42) zd_X8_foretold_18 (by decide) (zbs_X8_foretold_42 hR J hJ) (zs_iload zd_X8_foretold_21 (zs_S (zm_X8_isKnown _ _ _) gw_4_111 gw_4_109 gw_4_110 gw_1_7 zdn_X8_isKnown (zrm hR (by decide) (by decide)) zd_X8_foretold_23 (zCl_S1 zok_l) (zs_if_eq (tgt := 42) zd_X8_foretold_26 (by decide) (zbs_X8_foretold_42 hR J hJ) (zs_iload zd_X8_foretold_29 (zs_i2l zd_X8_foretold_31 (zs_lconst zd_X8_foretold_32 (by decide) (zs_ldc2 zd_X8_foretold_33 gw_3_208 (zs_S (zm_X8_in _ _ _) gw_3_212 gw_3_210 gw_3_211 gw_1_7 zdn_X8_in (zrm hR (by decide) (by decide)) zd_X8_foretold_36 (zCl_S3 zok_l) (zs_if_ne (tgt := 45) zd_X8_foretold_39 (by decide) (zs_aload_n zd_X8_foretold_45 rfl (zs_iload zd_X8_foretold_46 (zs_V (ci := 8) rfl rfl (zm_X8_compareAll _ _ _) gw_4_115 gw_4_112 gw_4_114 gw_0_39 gw_1_7 zdn_X8_compareAll (zrm hR (by decide) (by decide)) zd_X8_foretold_48 (zCl_V1 zok_l) (zs_iload_n zd_X8_foretold_51 rfl (zs_aload_n zd_X8_foretold_52 rfl (zs_getI (ci := 8) (j := 2) (T := TX8) rfl inX8 (by decide) gw_3_91 rfl zd_X8_foretold_53 (zs_imul zd_X8_foretold_56 (zs_iload_n zd_X8_foretold_57 rfl (zs_iadd zd_X8_foretold_58 (zs_istore zd_X8_foretold_59 (by decide) (zs_bipush zd_X8_foretold_61 (by decide) (zs_istore zd_X8_foretold_63 (by decide) (zs_bipush zd_X8_foretold_65 (by decide) (zs_istore zd_X8_foretold_67 (by decide) (zs_iconst zd_X8_foretold_69 (by decide) (zs_istore zd_X8_foretold_70 (by decide) (hJ 72 (by decide)))))))))))))))))) (zbs_X8_foretold_42 hR J hJ))))))))))))))))))))
def zb_X8_foretold_155 (K : zKt) (J : Nat → zPP) : zPP := zT_iinc 9 1 (J 72)
theorem zbs_X8_foretold_155 {X : zCt} (hR : zRX X = { frames := 7, cells := 0, slots := 0, locals := 173 }) (J : Nat → zPP) (hJ : ∀ h ∈ ([72] : List Nat), zSd X RX8 "foretold" cX8_foretold 10 (some .int) h (J h)) : zSd X RX8 "foretold" cX8_foretold 10 (some .int) 155 (zb_X8_foretold_155 (zKX X) J) := zs_iinc zd_X8_foretold_155 (by decide) (by decide) (zs_goto (tgt := 72) zd_X8_foretold_158 (by decide) (hJ 72 (by decide)))
def zb_X8_foretold_153 (K : zKt) (J : Nat → zPP) : zPP := zT_ist 8 (zb_X8_foretold_155 K J)
theorem zbs_X8_foretold_153 {X : zCt} (hR : zRX X = { frames := 7, cells := 0, slots := 0, locals := 173 }) (J : Nat → zPP) (hJ : ∀ h ∈ ([72] : List Nat), zSd X RX8 "foretold" cX8_foretold 10 (some .int) h (J h)) : zSd X RX8 "foretold" cX8_foretold 10 (some .int) 153 (zb_X8_foretold_153 (zKX X) J) := zs_istore zd_X8_foretold_153 (by decide) (zbs_X8_foretold_155 hR J hJ)
def zb_X8_foretold_127 (K : zKt) (J : Nat → zPP) : zPP := zT_ist 7 (zT_ald 0 (zT_getR 8 24 38 (zT_ild 6 (zT_ald0 0 (zT_ild 8 (zT_if2 (fun x y => x ≤ y) (zT_ild 8 (zb_X8_foretold_153 K J)) (zT_ald 0 (zT_getR 8 24 38 (zT_ild 6 (zT_ald0 0 (zb_X8_foretold_153 K J)))))))))))
theorem zbs_X8_foretold_127 {X : zCt} (hR : zRX X = { frames := 7, cells := 0, slots := 0, locals := 173 }) (J : Nat → zPP) (hJ : ∀ h ∈ ([72] : List Nat), zSd X RX8 "foretold" cX8_foretold 10 (some .int) h (J h)) : zSd X RX8 "foretold" cX8_foretold 10 (some .int) 127 (zb_X8_foretold_127 (zKX X) J) := zs_istore zd_X8_foretold_127 (by decide) (zs_aload_n zd_X8_foretold_129 rfl (zs_getR (ci := 8) (j := 24) (T := TX8) rfl inX8 (by decide) gw_3_113 rfl zd_X8_foretold_130 (zs_iload zd_X8_foretold_133 (zs_iald zd_X8_foretold_135 (zs_iload zd_X8_foretold_136 (zs_icmp_le (tgt := 151) zd_X8_foretold_138 (by decide) (zs_iload zd_X8_foretold_151 (zbs_X8_foretold_153 hR J hJ)) (zs_aload_n zd_X8_foretold_141 rfl (zs_getR (ci := 8) (j := 24) (T := TX8) rfl inX8 (by decide) gw_3_113 rfl zd_X8_foretold_142 (zs_iload zd_X8_foretold_145 (zs_iald zd_X8_foretold_147 (zs_goto (tgt := 153) zd_X8_foretold_148 (by decide) (zbs_X8_foretold_153 hR J hJ))))))))))))
def zb_X8_foretold_115 (K : zKt) (J : Nat → zPP) : zPP := zT_ald 0 (zT_getR 8 24 38 (zT_ild 6 (zT_ald0 0 (zb_X8_foretold_127 K J))))
theorem zbs_X8_foretold_115 {X : zCt} (hR : zRX X = { frames := 7, cells := 0, slots := 0, locals := 173 }) (J : Nat → zPP) (hJ : ∀ h ∈ ([72] : List Nat), zSd X RX8 "foretold" cX8_foretold 10 (some .int) h (J h)) : zSd X RX8 "foretold" cX8_foretold 10 (some .int) 115 (zb_X8_foretold_115 (zKX X) J) := zs_aload_n zd_X8_foretold_115 rfl (zs_getR (ci := 8) (j := 24) (T := TX8) rfl inX8 (by decide) gw_3_113 rfl zd_X8_foretold_116 (zs_iload zd_X8_foretold_119 (zs_iald zd_X8_foretold_121 (zs_goto (tgt := 127) zd_X8_foretold_122 (by decide) (zbs_X8_foretold_127 hR J hJ)))))
def zb_X8_foretold_225 (K : zKt) (J : Nat → zPP) : zPP := zT_iret K
theorem zbs_X8_foretold_225 {X : zCt} (hR : zRX X = { frames := 7, cells := 0, slots := 0, locals := 173 }) (J : Nat → zPP) (hJ : ∀ h ∈ ([72] : List Nat), zSd X RX8 "foretold" cX8_foretold 10 (some .int) h (J h)) : zSd X RX8 "foretold" cX8_foretold 10 (some .int) 225 (zb_X8_foretold_225 (zKX X) J) := zs_iret rfl zd_X8_foretold_225
def zb_X8_foretold_72 (K : zKt) (J : Nat → zPP) : zPP := zT_ild 9 (zT_push (.int 36) (zT_if2 (fun x y => y ≤ x) (zT_ild 7 (zT_push (.int (-100)) (zT_if2 (fun x y => x = y) (zT_push (.int (-100)) (zT_iret K)) (zT_ild 5 (zT_if1 (fun x => x = 0) (zT_ild 7 (zb_X8_foretold_225 K J)) (zT_ild 5 (zT_push (.int 1) (zT_if2 (fun x y => x = y) (zT_ild 8 (zb_X8_foretold_225 K J)) (zT_ild 7 (zT_ald 0 (zT_getR 8 7 38 (zT_ild 6 (zT_ald0 0 (zT_if2 (fun x y => x ≤ y) (zT_ild 8 (zT_ald 0 (zT_getR 8 7 38 (zT_ild 6 (zT_ald0 0 (zT_if2 (fun x y => y ≤ x) (zT_push (.int 0) (zb_X8_foretold_225 K J)) (zT_push (.int (-1)) (zb_X8_foretold_225 K J)))))))) (zT_push (.int 1) (zb_X8_foretold_225 K J)))))))))))))))) (zT_ald 0 (zT_getR 8 36 38 (zT_ild 9 (zT_ald0 0 (zT_if1 (fun x => x = 0) (zT_ald 0 (zT_ild 9 (zT_ild 3 (zT_V2 zok 8 38 zc_X8_run (zT_ild 7 (zT_push (.int (-100)) (zT_if2 (fun x y => x = y) (zb_X8_foretold_115 K J) (zT_ald 0 (zT_getR 8 24 38 (zT_ild 6 (zT_ald0 0 (zT_ild 7 (zT_if2 (fun x y => y ≤ x) (zT_ild 7 (zb_X8_foretold_127 K J)) (zb_X8_foretold_115 K J)))))))))))))) (zb_X8_foretold_155 K J))))))))
theorem zbs_X8_foretold_72 {X : zCt} (hR : zRX X = { frames := 7, cells := 0, slots := 0, locals := 173 }) (J : Nat → zPP) (hJ : ∀ h ∈ ([72] : List Nat), zSd X RX8 "foretold" cX8_foretold 10 (some .int) h (J h)) : zSd X RX8 "foretold" cX8_foretold 10 (some .int) 72 (zb_X8_foretold_72 (zKX X) J) := zs_iload zd_X8_foretold_72 (zs_bipush zd_X8_foretold_74 (by decide) (zs_icmp_ge (tgt := 161) zd_X8_foretold_76 (by decide) (zs_iload zd_X8_foretold_161 (zs_bipush zd_X8_foretold_163 (by decide) (zs_icmp_ne (tgt := 171) zd_X8_foretold_165 (by decide) (zs_iload zd_X8_foretold_171 (zs_if_ne (tgt := 181) zd_X8_foretold_173 (by decide) (zs_iload zd_X8_foretold_181 (zs_iconst zd_X8_foretold_183 (by decide) (zs_icmp_ne (tgt := 192) zd_X8_foretold_184 (by decide) (zs_iload zd_X8_foretold_192 (zs_aload_n zd_X8_foretold_194 rfl (zs_getR (ci := 8) (j := 7) (T := TX8) rfl inX8 (by decide) gw_3_96 rfl zd_X8_foretold_195 (zs_iload zd_X8_foretold_198 (zs_iald zd_X8_foretold_200 (zs_icmp_le (tgt := 208) zd_X8_foretold_201 (by decide) (zs_iload zd_X8_foretold_208 (zs_aload_n zd_X8_foretold_210 rfl (zs_getR (ci := 8) (j := 7) (T := TX8) rfl inX8 (by decide) gw_3_96 rfl zd_X8_foretold_211 (zs_iload zd_X8_foretold_214 (zs_iald zd_X8_foretold_216 (zs_icmp_ge (tgt := 224) zd_X8_foretold_217 (by decide) (zs_iconst zd_X8_foretold_224 (by decide) (zbs_X8_foretold_225 hR J hJ)) (zs_iconst zd_X8_foretold_220 (by decide) (zs_goto (tgt := 225) zd_X8_foretold_221 (by decide) (zbs_X8_foretold_225 hR J hJ))))))))) (zs_iconst zd_X8_foretold_204 (by decide) (zs_goto (tgt := 225) zd_X8_foretold_205 (by decide) (zbs_X8_foretold_225 hR J hJ))))))))) (zs_iload zd_X8_foretold_187 (zs_goto (tgt := 225) zd_X8_foretold_189 (by decide) (zbs_X8_foretold_225 hR J hJ)))))) (zs_iload zd_X8_foretold_176 (zs_goto (tgt := 225) zd_X8_foretold_178 (by decide) (zbs_X8_foretold_225 hR J hJ))))) (zs_bipush zd_X8_foretold_168 (by decide) (zs_iret rfl zd_X8_foretold_170))))) (zs_aload_n zd_X8_foretold_79 rfl (zs_getR (ci := 8) (j := 36) (T := TX8) rfl inX8 (by decide) gw_3_125 rfl zd_X8_foretold_80 (zs_iload zd_X8_foretold_83 (zs_iald zd_X8_foretold_85 (zs_if_ne (tgt := 155) zd_X8_foretold_86 (by decide) (zbs_X8_foretold_155 hR J hJ) (zs_aload_n zd_X8_foretold_89 rfl (zs_iload zd_X8_foretold_90 (zs_iload_n zd_X8_foretold_92 rfl (zs_V (ci := 8) rfl rfl (zm_X8_run _ _ _) gw_4_64 gw_4_61 gw_4_63 gw_0_31 gw_1_7 zdn_X8_run (zrm hR (by decide) (by decide)) zd_X8_foretold_93 (zCl_V2 zok_l) (zs_iload zd_X8_foretold_96 (zs_bipush zd_X8_foretold_98 (by decide) (zs_icmp_eq (tgt := 115) zd_X8_foretold_100 (by decide) (zbs_X8_foretold_115 hR J hJ) (zs_aload_n zd_X8_foretold_103 rfl (zs_getR (ci := 8) (j := 24) (T := TX8) rfl inX8 (by decide) gw_3_113 rfl zd_X8_foretold_104 (zs_iload zd_X8_foretold_107 (zs_iald zd_X8_foretold_109 (zs_iload zd_X8_foretold_110 (zs_icmp_ge (tgt := 125) zd_X8_foretold_112 (by decide) (zs_iload zd_X8_foretold_125 (zbs_X8_foretold_127 hR J hJ)) (zbs_X8_foretold_115 hR J hJ)))))))))))))))))))))
def zB_X8_foretold (K : zKt) (J : Nat → zPP) (h : Nat) : zPP := if h = 72 then zb_X8_foretold_72 K J else (fun _ _ _ => False)
theorem zBs_X8_foretold {X : zCt} (hR : zRX X = { frames := 7, cells := 0, slots := 0, locals := 173 }) : ∀ J : Nat → zPP, (∀ h ∈ ([72] : List Nat), zSd X RX8 "foretold" cX8_foretold 10 (some .int) h (J h)) → ∀ h ∈ ([72] : List Nat), zSd X RX8 "foretold" cX8_foretold 10 (some .int) h (zB_X8_foretold (zKX X) J h) := by
  intro J hJ h hh
  unfold zB_X8_foretold
  simp only [List.mem_cons, List.not_mem_nil, or_false] at hh
  subst hh
  exact zbs_X8_foretold_72 hR J hJ
theorem zdn_X8_foretold : yX8_foretold.cls ≠ "java/lang/invoke/MethodHandle" ∧ yX8_foretold.cls ≠ "java/lang/invoke/VarHandle" ∧ (parseMethodDescriptor yX8_foretold.desc).map (fun d => d.parameters.length) = some 5 := by decide +kernel
theorem wsg_out {b : Nat → Bool} {i : Int32} (hi : i ≠ -1) : ∀ {f r n : Nat}, (∀ m, n ≤ m → m < n + f → nI m ≠ i) → wsg b i f r n = -1
  | 0, r, n, _ => by
    unfold wsg
    rw [if_neg hi]
  | f + 1, r, n, h => by
    unfold wsg
    rw [if_neg (h n (Nat.le_refl _) (by omega)), wsg_out hi (fun m z1 z2 => h m (by omega) (by omega)), wsg_out hi (fun m z1 z2 => h m (by omega) (by omega))]
    split <;> rfl
theorem pStays_1 (i d : Int32) (F : wFS) (hd : 0 ≤ d ∧ d ≤ 1000) : (pStays i d F).1 = wsg (wsy F.1 F.2.1 (tn d)) i 36 0 0 := by
  unfold pStays
  by_cases q : (-1 ≤ i ∧ i ≤ 35)
  · rw [if_pos ⟨q, hd⟩]
  · rw [if_neg (fun z => q z.1), wsg_out]
    · intro z
      rw [z] at q
      exact q (by decide)
    · intro m _ hm z
      rw [← z] at q
      refine q ⟨?_, (nI_leI (b := 35) (by omega) (by decide)).mpr (by omega)⟩
      exact Int32.le_of_lt (zneg1 (by omega))
theorem pStays_2 (i d : Int32) (F : wFS) : (pStays i d F).2 = F := by
  unfold pStays
  split <;> rfl
def zc_X8_stays (a : List Value) (M : zMm) (K : zKt) : Prop := match a with
  | [.ref k, .int i, .int d] => k = 200 ∧ ∃ F, zMF M F ∧ ∀ M', zMF M' (pStays i d F).2 → K (some (.int (pStays i d F).1)) M'
  | _ => False
set_option maxHeartbeats 1000000 in
theorem zm_X8_stays (l : Launch) (D : va_G) (Y : Nat → ClassId) : zMt l D Y yX8_stays cX8_stays 5 (some .int) 7 173 0 0 zc_X8_stays := by
  refine zwhile1 (h0 := 24) (by decide) (fun K J _ _ => zb_X8_stays_0 K J) (fun K _ _ J => zb_X8_stays_24 K J) (fun X hR J hJ => zbs_X8_stays_0 hR J hJ) (fun X hR J hJ => zbs_X8_stays_24 hR J hJ) (fun avs M K h => ?_)
  unfold zc_X8_stays at h
  split at h
  · next k i d =>
    obtain ⟨rfl, F, hF, h⟩ := h
    have hF1 := hF.th
    obtain ⟨-, -, ⟨-, en2, -⟩, -⟩ := id hF
    refine ⟨by simp [zent], fun q M' ls st => ∃ r n, q = 36 - r ∧ r ≤ 36 ∧ n ≤ r ∧ (0 ≤ d ∧ d ≤ 1000) ∧ zMF M' F ∧ mbf M' F (tn d) ∧ wsg (wsy F.1 F.2.1 (tn d)) i 36 0 0 = wsg (wsy F.1 F.2.1 (tn d)) i (36 - r) r n ∧ ls = [some (.ref 200), some (.int i), some (.int d), some (.int (nI n)), some (.int (nI r))] ∧ st = [], ?_, ?_⟩
    · rintro q J hJ M' ls st ⟨r, n, rfl, hr, hnr, hc, hF', hb, hw, rfl, rfl⟩
      rw [pStays_2, pStays_1 i d F hc, hw] at h
      obtain ⟨g1, -⟩ := id hF'
      obtain ⟨r7, -, -, -, -, -, -, -, r24, r25, r26, r27, r28, r29, r30, r32, r33, r34, r35, r36, r37⟩ := id g1
      simp only [zb_X8_stays_24, zb_X8_stays_68, zsh_200, zsh_220, r36, zT_push, zT_bin, zT_div, zT_bil, zT_shl, zT_un, zT_i2l, zT_l2i, zT_lcmp, zT_ild, zT_lld, zT_ald, zT_ist, zT_lst, zT_ast, zT_iinc, zT_dup, zT_dup2, zT_pop, zT_if1, zT_if2, zT_ifn, zT_getI, zT_getJ, zT_getR, zT_putI, zT_putZ, zT_putJ, zT_putR, zT_ald0, zT_lald, zT_aald, zT_iast, zT_zast, zT_bast, zT_last, zT_aast, zT_iret, zT_nret, zT_aret, zT_vret, zT_oi, zT_mm, zT_ialX, zT_S1, zT_S2, zT_S3, zT_V0, zT_V1, zT_V2, zT_V3, zT_V4, zT_V5, zT_V6, zT_I0, zT_I1, zT_I2, zlg, zlset, zlpr, zent, zok, va_rf, List.length_cons, List.length_nil, List.replicate, List.cons_append, List.nil_append, List.append_nil, Option.toList_some, Option.toList_none, Option.toList, Nat.reduceAdd, Nat.reduceSub, Nat.reduceLeDiff, Nat.zero_add, Nat.zero_le, true_and, and_true, Nat.le_refl, ge_iff_le, Nat.reduceEqDiff]
      rw [nI_clamp (by omega)]
      refine ⟨fun h1 => ?_, fun h1 => ?_⟩
      · have := zn_ge' (b := 36) h1 (by omega) (by omega)
        have e : r = 36 := by omega
        subst e
        rw [show wsg (wsy F.1 F.2.1 (tn d)) i (36 - 36) 36 n = if i = -1 then nI n else -1 from rfl] at h
        refine ⟨fun h2 => ?_, fun h2 => ?_⟩
        · rw [if_pos h2] at h; exact h M' hF'
        · rw [if_neg h2] at h; exact h M' hF'
      · have hlt := zn_ge (b := 36) h1 (by omega) (by omega)
        rw [(hb r hlt).1]
        have hin : vp_in (nI r) 36 := vp_in_nI hlt (by decide)
        have hwle : wct (mbk F.1 F.2.1 r (tn d)) F.2.1.length ≤ 200 := Nat.le_trans (wct_le _ _) en2
        have hun : wsg (wsy F.1 F.2.1 (tn d)) i (36 - r) r n = if wsy F.1 F.2.1 (tn d) r = true then (if nI n = i then nI r else wsg (wsy F.1 F.2.1 (tn d)) i (36 - (r + 1)) (r + 1) (n + 1)) else wsg (wsy F.1 F.2.1 (tn d)) i (36 - (r + 1)) (r + 1) n := by
          rw [show 36 - r = (36 - (r + 1)) + 1 by omega]
          rfl
        rw [hun] at h hw
        refine ⟨hin, fun h2 => ?_, fun h2 => ?_⟩
        · have hy := mbk_y.mp ((nI_eq (b := 0) (by omega) (by decide)).mp h2)
          rw [if_pos hy] at h hw
          refine ⟨fun h3 => ?_, fun h3 => ?_⟩
          · rw [if_pos h3] at h
            exact h M' hF'
          · rw [if_neg h3] at hw
            simp only [zb_X8_stays_52, zT_push, zT_bin, zT_div, zT_bil, zT_shl, zT_un, zT_i2l, zT_l2i, zT_lcmp, zT_ild, zT_lld, zT_ald, zT_ist, zT_lst, zT_ast, zT_iinc, zT_dup, zT_dup2, zT_pop, zT_if1, zT_if2, zT_ifn, zT_getI, zT_getJ, zT_getR, zT_putI, zT_putZ, zT_putJ, zT_putR, zT_ald0, zT_lald, zT_aald, zT_iast, zT_zast, zT_bast, zT_last, zT_aast, zT_iret, zT_nret, zT_aret, zT_vret, zT_oi, zT_mm, zT_ialX, zT_S1, zT_S2, zT_S3, zT_V0, zT_V1, zT_V2, zT_V3, zT_V4, zT_V5, zT_V6, zT_I0, zT_I1, zT_I2, zlg, zlset, zlpr, zent, zok, va_rf, List.length_cons, List.length_nil, List.replicate, List.cons_append, List.nil_append, List.append_nil, Option.toList_some, Option.toList_none, Option.toList, Nat.reduceAdd, Nat.reduceSub, Nat.reduceLeDiff, Nat.zero_add, Nat.zero_le, true_and, and_true, Nat.le_refl, ge_iff_le, Nat.reduceEqDiff]
            exact hJ (36 - (r + 1)) _ _ _ (by omega) ⟨r + 1, n + 1, rfl, hlt, by omega, hc, hF', hb, hw, by rw [nI_1, nI_1], rfl⟩
        · have hy : ¬ wsy F.1 F.2.1 (tn d) r = true := fun z => h2 (by rw [mbk_y.mpr z]; rfl)
          rw [if_neg hy] at hw
          simp only [zb_X8_stays_52, zT_push, zT_bin, zT_div, zT_bil, zT_shl, zT_un, zT_i2l, zT_l2i, zT_lcmp, zT_ild, zT_lld, zT_ald, zT_ist, zT_lst, zT_ast, zT_iinc, zT_dup, zT_dup2, zT_pop, zT_if1, zT_if2, zT_ifn, zT_getI, zT_getJ, zT_getR, zT_putI, zT_putZ, zT_putJ, zT_putR, zT_ald0, zT_lald, zT_aald, zT_iast, zT_zast, zT_bast, zT_last, zT_aast, zT_iret, zT_nret, zT_aret, zT_vret, zT_oi, zT_mm, zT_ialX, zT_S1, zT_S2, zT_S3, zT_V0, zT_V1, zT_V2, zT_V3, zT_V4, zT_V5, zT_V6, zT_I0, zT_I1, zT_I2, zlg, zlset, zlpr, zent, zok, va_rf, List.length_cons, List.length_nil, List.replicate, List.cons_append, List.nil_append, List.append_nil, Option.toList_some, Option.toList_none, Option.toList, Nat.reduceAdd, Nat.reduceSub, Nat.reduceLeDiff, Nat.zero_add, Nat.zero_le, true_and, and_true, Nat.le_refl, ge_iff_le, Nat.reduceEqDiff]
          exact hJ (36 - (r + 1)) _ _ _ (by omega) ⟨r + 1, n, rfl, hlt, by omega, hc, hF', hb, hw, by rw [nI_1], rfl⟩
    · intro J hJ
      simp only [zb_X8_stays_0, zsh_200, zT_push, zT_bin, zT_div, zT_bil, zT_shl, zT_un, zT_i2l, zT_l2i, zT_lcmp, zT_ild, zT_lld, zT_ald, zT_ist, zT_lst, zT_ast, zT_iinc, zT_dup, zT_dup2, zT_pop, zT_if1, zT_if2, zT_ifn, zT_getI, zT_getJ, zT_getR, zT_putI, zT_putZ, zT_putJ, zT_putR, zT_ald0, zT_lald, zT_aald, zT_iast, zT_zast, zT_bast, zT_last, zT_aast, zT_iret, zT_nret, zT_aret, zT_vret, zT_oi, zT_mm, zT_ialX, zT_S1, zT_S2, zT_S3, zT_V0, zT_V1, zT_V2, zT_V3, zT_V4, zT_V5, zT_V6, zT_I0, zT_I1, zT_I2, zlg, zlset, zlpr, zent, zok, va_rf, List.length_cons, List.length_nil, List.replicate, List.cons_append, List.nil_append, List.append_nil, Option.toList_some, Option.toList_none, Option.toList, Nat.reduceAdd, Nat.reduceSub, Nat.reduceLeDiff, Nat.zero_add, Nat.zero_le, true_and, and_true, Nat.le_refl, ge_iff_le, Nat.reduceEqDiff]
      generalize zwI M 200 0 0 = M1 at hF1 ⊢
      unfold zc_X8_isKnown
      simp only [zbI_0, zsh_200, zT_push, zT_bin, zT_div, zT_bil, zT_shl, zT_un, zT_i2l, zT_l2i, zT_lcmp, zT_ild, zT_lld, zT_ald, zT_ist, zT_lst, zT_ast, zT_iinc, zT_dup, zT_dup2, zT_pop, zT_if1, zT_if2, zT_ifn, zT_getI, zT_getJ, zT_getR, zT_putI, zT_putZ, zT_putJ, zT_putR, zT_ald0, zT_lald, zT_aald, zT_iast, zT_zast, zT_bast, zT_last, zT_aast, zT_iret, zT_nret, zT_aret, zT_vret, zT_oi, zT_mm, zT_ialX, zT_S1, zT_S2, zT_S3, zT_V0, zT_V1, zT_V2, zT_V3, zT_V4, zT_V5, zT_V6, zT_I0, zT_I1, zT_I2, zlg, zlset, zlpr, zent, zok, va_rf, List.length_cons, List.length_nil, List.replicate, List.cons_append, List.nil_append, List.append_nil, Option.toList_some, Option.toList_none, Option.toList, Nat.reduceAdd, Nat.reduceSub, Nat.reduceLeDiff, Nat.zero_add, Nat.zero_le, true_and, and_true, Nat.le_refl, ge_iff_le, Nat.reduceEqDiff]
      refine ⟨fun h2 => ?_, fun h2 => ?_⟩
      · unfold pStays at h
        rw [if_neg (fun z => h2 z.2)] at h
        exact h M1 hF1
      · have c2 := Classical.not_not.mp h2
        obtain ⟨b1, b2⟩ := tn_nI (x := d) (b := 1000) c2.1 c2.2 (by decide)
        unfold zc_X8_compareAll
        dsimp only
        refine ⟨rfl, F, tn d, hF1, b1, b2, fun M2 hs2 hb => ?_⟩
        try simp only [zT_push, zT_bin, zT_div, zT_bil, zT_shl, zT_un, zT_i2l, zT_l2i, zT_lcmp, zT_ild, zT_lld, zT_ald, zT_ist, zT_lst, zT_ast, zT_iinc, zT_dup, zT_dup2, zT_pop, zT_if1, zT_if2, zT_ifn, zT_getI, zT_getJ, zT_getR, zT_putI, zT_putZ, zT_putJ, zT_putR, zT_ald0, zT_lald, zT_aald, zT_iast, zT_zast, zT_bast, zT_last, zT_aast, zT_iret, zT_nret, zT_aret, zT_vret, zT_oi, zT_mm, zT_ialX, zT_S1, zT_S2, zT_S3, zT_V0, zT_V1, zT_V2, zT_V3, zT_V4, zT_V5, zT_V6, zT_I0, zT_I1, zT_I2, zlg, zlset, zlpr, zent, zok, va_rf, List.length_cons, List.length_nil, List.replicate, List.cons_append, List.nil_append, List.append_nil, Option.toList_some, Option.toList_none, Option.toList, Nat.reduceAdd, Nat.reduceSub, Nat.reduceLeDiff, Nat.zero_add, Nat.zero_le, true_and, and_true, Nat.le_refl, ge_iff_le, Nat.reduceEqDiff]
        exact hJ 36 _ _ _ ⟨0, 0, rfl, by omega, by omega, c2, hF1.fl hs2 (by simp), hb, rfl, rfl, rfl⟩
  · exact h.elim
