def zc_X3_init (a : List Value) (M : zMm) (K : zKt) : Prop := match a with
  | [.ref k, .ref t, .ref d] => zsh k = (5, 3, 5) ∧ k < 2000 ∧ t < 2000 ∧ d < 2000 ∧ ∀ M', M' = zwR (zwR M k 0 (some t)) k 1 (some d) → K none M'
  | _ => False
theorem zm_X3_init (l : Launch) (D : va_G) (Y : Nat → ClassId) : zMt l D Y yX3_init cX3_init 3 none 1 20 0 0 zc_X3_init := by
  refine zflat (by decide) (fun K J lc lz => zb_X3_init_0 K J) (fun X hR => zbs_X3_init_0 hR zJ0 zJ0_ok) (fun avs M K h => ?_)
  unfold zc_X3_init at h
  split at h
  · next k t d =>
    obtain ⟨hk, hk2, ht, hd, h⟩ := h
    refine ⟨by simp [zent], ?_⟩
    simp only [zb_X3_init_0, hk, zT_push, zT_bin, zT_div, zT_bil, zT_shl, zT_un, zT_i2l, zT_l2i, zT_lcmp, zT_ild, zT_lld, zT_ald, zT_ist, zT_lst, zT_ast, zT_iinc, zT_dup, zT_dup2, zT_pop, zT_if1, zT_if2, zT_ifn, zT_getI, zT_getJ, zT_getR, zT_putI, zT_putZ, zT_putJ, zT_putR, zT_ald0, zT_lald, zT_aald, zT_iast, zT_zast, zT_bast, zT_last, zT_aast, zT_iret, zT_nret, zT_aret, zT_vret, zT_oi, zT_mm, zT_ialX, zT_S1, zT_S2, zT_S3, zT_V0, zT_V1, zT_V2, zT_V3, zT_V4, zT_V5, zT_V6, zT_I0, zT_I1, zT_I2, zlg, zlset, zlpr, zent, zok, va_rf, List.length_cons, List.length_nil, List.replicate, List.cons_append, List.nil_append, List.append_nil, Option.toList_some, Option.toList_none, Option.toList, Nat.reduceAdd, Nat.reduceSub, Nat.reduceLeDiff, Nat.zero_add, Nat.zero_le, true_and, and_true, Nat.le_refl, ge_iff_le, Nat.reduceEqDiff]
    exact ⟨ht, hd, h _ rfl⟩
  · exact h.elim
/-! DeltaRuns plan -/
theorem zd_X7_plan_0 : decode cX7_plan 0 = .ok (.new 109, 3) := by decide +kernel
theorem zd_X7_plan_3 : decode cX7_plan 3 = .ok (.dup, 1) := by decide +kernel
theorem zd_X7_plan_4 : decode cX7_plan 4 = .ok (.aload_n 0, 1) := by decide +kernel
theorem zd_X7_plan_5 : decode cX7_plan 5 = .ok (.getfield 19, 3) := by decide +kernel
theorem zd_X7_plan_8 : decode cX7_plan 8 = .ok (.aload_n 0, 1) := by decide +kernel
theorem zd_X7_plan_9 : decode cX7_plan 9 = .ok (.getfield 50, 3) := by decide +kernel
theorem zd_X7_plan_12 : decode cX7_plan 12 = .ok (.invokespecial 111, 3) := by decide +kernel
theorem zd_X7_plan_15 : decode cX7_plan 15 = .ok (.astore_n 1, 1) := by decide +kernel
theorem zd_X7_plan_16 : decode cX7_plan 16 = .ok (.aload_n 0, 1) := by decide +kernel
theorem zd_X7_plan_17 : decode cX7_plan 17 = .ok (.aload_n 1, 1) := by decide +kernel
theorem zd_X7_plan_18 : decode cX7_plan 18 = .ok (.invokevirtual 114, 3) := by decide +kernel
theorem zd_X7_plan_21 : decode cX7_plan 21 = .ok (.putfield 53, 3) := by decide +kernel
theorem zd_X7_plan_24 : decode cX7_plan 24 = .ok (.aload_n 0, 1) := by decide +kernel
theorem zd_X7_plan_25 : decode cX7_plan 25 = .ok (.getfield 19, 3) := by decide +kernel
theorem zd_X7_plan_28 : decode cX7_plan 28 = .ok (.iconst 0, 1) := by decide +kernel
theorem zd_X7_plan_29 : decode cX7_plan 29 = .ok (.putfield 102, 3) := by decide +kernel
theorem zd_X7_plan_32 : decode cX7_plan 32 = .ok (.aload_n 0, 1) := by decide +kernel
theorem zd_X7_plan_33 : decode cX7_plan 33 = .ok (.getfield 53, 3) := by decide +kernel
theorem zd_X7_plan_36 : decode cX7_plan 36 = .ok (.iconst (-1), 1) := by decide +kernel
theorem zd_X7_plan_37 : decode cX7_plan 37 = .ok (.if_icmp .eq 10, 3) := by decide +kernel
theorem zd_X7_plan_40 : decode cX7_plan 40 = .ok (.aload_n 0, 1) := by decide +kernel
theorem zd_X7_plan_41 : decode cX7_plan 41 = .ok (.bipush (-6), 2) := by decide +kernel
theorem zd_X7_plan_43 : decode cX7_plan 43 = .ok (.invokevirtual 64, 3) := by decide +kernel
theorem zd_X7_plan_46 : decode cX7_plan 46 = .ok (.ireturn, 1) := by decide +kernel
theorem zd_X7_plan_47 : decode cX7_plan 47 = .ok (.aload_n 0, 1) := by decide +kernel
theorem zd_X7_plan_48 : decode cX7_plan 48 = .ok (.getfield 46, 3) := by decide +kernel
theorem zd_X7_plan_51 : decode cX7_plan 51 = .ok (.astore_n 2, 1) := by decide +kernel
theorem zd_X7_plan_52 : decode cX7_plan 52 = .ok (.aload_n 0, 1) := by decide +kernel
theorem zd_X7_plan_53 : decode cX7_plan 53 = .ok (.aload_n 0, 1) := by decide +kernel
theorem zd_X7_plan_54 : decode cX7_plan 54 = .ok (.getfield 50, 3) := by decide +kernel
theorem zd_X7_plan_57 : decode cX7_plan 57 = .ok (.putfield 46, 3) := by decide +kernel
theorem zd_X7_plan_60 : decode cX7_plan 60 = .ok (.aload_n 0, 1) := by decide +kernel
theorem zd_X7_plan_61 : decode cX7_plan 61 = .ok (.aload_n 2, 1) := by decide +kernel
theorem zd_X7_plan_62 : decode cX7_plan 62 = .ok (.putfield 50, 3) := by decide +kernel
theorem zd_X7_plan_65 : decode cX7_plan 65 = .ok (.aload_n 0, 1) := by decide +kernel
theorem zd_X7_plan_66 : decode cX7_plan 66 = .ok (.invokevirtual 75, 3) := by decide +kernel
theorem zd_X7_plan_69 : decode cX7_plan 69 = .ok (.aload_n 0, 1) := by decide +kernel
theorem zd_X7_plan_70 : decode cX7_plan 70 = .ok (.aload_n 0, 1) := by decide +kernel
theorem zd_X7_plan_71 : decode cX7_plan 71 = .ok (.getfield 46, 3) := by decide +kernel
theorem zd_X7_plan_74 : decode cX7_plan 74 = .ok (.getfield 118, 3) := by decide +kernel
theorem zd_X7_plan_77 : decode cX7_plan 77 = .ok (.invokevirtual 78, 3) := by decide +kernel
theorem zd_X7_plan_80 : decode cX7_plan 80 = .ok (.ireturn, 1) := by decide +kernel
def zb_X7_plan_0 (K : zKt) (J : Nat → zPP) (lc lz : Nat) : zPP := zT_new 3 5 lc lz (zT_dup (zT_ald 0 (zT_getR 7 1 9 (zT_ald 0 (zT_getR 7 6 9 (zT_I2 zok zc_X3_init (zT_ast 1 (zT_ald 0 (zT_ald 1 (zT_V0 zok 3 5 zc_X3_readPlan (zT_putI 7 7 9 (zT_ald 0 (zT_getR 7 1 9 (zT_push (.int 0) (zT_putI 4 1 2 (zT_ald 0 (zT_getI 7 7 9 (zT_push (.int (-1)) (zT_if2 (fun x y => x = y) (zT_ald 0 (zT_getR 7 5 9 (zT_ast 2 (zT_ald 0 (zT_ald 0 (zT_getR 7 6 9 (zT_putR 7 5 9 (zT_ald 0 (zT_ald 2 (zT_putR 7 6 9 (zT_ald 0 (zT_V0 zok 7 9 zc_X7_forgetRuns (zT_ald 0 (zT_ald 0 (zT_getR 7 5 9 (zT_getI 2 5 6 (zT_V1 zok 7 9 zc_X7_accept (zT_iret K)))))))))))))))))) (zT_ald 0 (zT_push (.int (-6)) (zT_V1 zok 7 9 zc_X7_refuse (zT_iret K)))))))))))))))))))))))
theorem zbs_X7_plan_0 {X : zCt} (hR : zRX X = { frames := 8, cells := 1, slots := 5, locals := 170 }) (J : Nat → zPP) (hJ : ∀ h ∈ ([] : List Nat), zSd X RX7 "plan" cX7_plan 3 (some .int) h (J h)) : zSd X RX7 "plan" cX7_plan 3 (some .int) 0 (zb_X7_plan_0 (zKX X) J (zlc X) (zls X)) := zs_new (ci := 3) (T := TX3) rfl inX3 tyX3_ok gw_2_33 gw_2_34 gw_1_8 (by decide) rfl rfl zd_X7_plan_0 (zs_dup zd_X7_plan_3 (zs_aload_n zd_X7_plan_4 rfl (zs_getR (ci := 7) (j := 1) (T := TX7) rfl inX7 (by decide) gw_1_186 rfl zd_X7_plan_5 (zs_aload_n zd_X7_plan_8 rfl (zs_getR (ci := 7) (j := 6) (T := TX7) rfl inX7 (by decide) gw_1_191 rfl zd_X7_plan_9 (zs_I rfl (zm_X3_init _ _ _) gw_2_37 gw_2_35 gw_2_36 gw_1_8 zdn_X3_init (zrm hR (by decide) (by decide)) zd_X7_plan_12 (zCl_I2 zok_l) (zs_astore_n zd_X7_plan_15 rfl (by decide) (zs_aload_n zd_X7_plan_16 rfl (zs_aload_n zd_X7_plan_17 rfl (zs_V (ci := 3) rfl rfl (zm_X3_readPlan _ _ _) gw_2_58 gw_2_55 gw_2_56 gw_2_57 gw_1_8 zdn_X3_readPlan (zrm hR (by decide) (by decide)) zd_X7_plan_18 (zCl_V0 zok_l) (zs_putI (ci := 7) (j := 7) (T := TX7) rfl inX7 tyX7_ok nmX7 (by decide) gw_1_192 rfl rfl rfl zd_X7_plan_21 (zs_aload_n zd_X7_plan_24 rfl (zs_getR (ci := 7) (j := 1) (T := TX7) rfl inX7 (by decide) gw_1_186 rfl zd_X7_plan_25 (zs_iconst zd_X7_plan_28 (by decide) (zs_putI (ci := 4) (j := 1) (T := TX4) rfl inX4 tyX4_ok nmX4 (by decide) gw_1_70 rfl rfl rfl zd_X7_plan_29 (zs_aload_n zd_X7_plan_32 rfl (zs_getI (ci := 7) (j := 7) (T := TX7) rfl inX7 (by decide) gw_1_192 rfl zd_X7_plan_33 (zs_iconst zd_X7_plan_36 (by decide) (zs_icmp_eq (tgt := 47) zd_X7_plan_37 (by decide) (zs_aload_n zd_X7_plan_47 rfl (zs_getR (ci := 7) (j := 5) (T := TX7) rfl inX7 (by decide) gw_1_190 rfl zd_X7_plan_48 (zs_astore_n zd_X7_plan_51 rfl (by decide) (zs_aload_n zd_X7_plan_52 rfl (zs_aload_n zd_X7_plan_53 rfl (zs_getR (ci := 7) (j := 6) (T := TX7) rfl inX7 (by decide) gw_1_191 rfl zd_X7_plan_54 (zs_putR (ci := 7) (j := 5) (T := TX7) rfl inX7 tyX7_ok nmX7 (by decide) gw_1_190 (Or.inl rfl) (fun _ => ⟨rfl, rfl⟩) rfl zd_X7_plan_57 (zs_aload_n zd_X7_plan_60 rfl (zs_aload_n zd_X7_plan_61 rfl (zs_putR (ci := 7) (j := 6) (T := TX7) rfl inX7 tyX7_ok nmX7 (by decide) gw_1_191 (Or.inl rfl) (fun _ => ⟨rfl, rfl⟩) rfl zd_X7_plan_62 (zs_aload_n zd_X7_plan_65 rfl (zs_V (ci := 7) rfl rfl (zm_X7_forgetRuns _ _ _) gw_1_228 gw_1_225 gw_1_227 gw_0_1 gw_1_1 zdn_X7_forgetRuns (zrm hR (by decide) (by decide)) zd_X7_plan_66 (zCl_V0 zok_l) (zs_aload_n zd_X7_plan_69 rfl (zs_aload_n zd_X7_plan_70 rfl (zs_getR (ci := 7) (j := 5) (T := TX7) rfl inX7 (by decide) gw_1_190 rfl zd_X7_plan_71 (zs_getI (ci := 2) (j := 5) (T := TX2) rfl inX2 (by decide) gw_1_171 rfl zd_X7_plan_74 (zs_V (ci := 7) rfl rfl (zm_X7_accept _ _ _) gw_1_232 gw_1_229 gw_1_231 gw_0_2 gw_1_1 zdn_X7_accept (zrm hR (by decide) (by decide)) zd_X7_plan_77 (zCl_V1 zok_l) (zs_iret rfl zd_X7_plan_80)))))))))))))))))) (zs_aload_n zd_X7_plan_40 rfl (zs_bipush zd_X7_plan_41 (by decide) (zs_V (ci := 7) rfl rfl (zm_X7_refuse _ _ _) gw_1_223 gw_1_220 gw_1_222 gw_0_0 gw_1_1 zdn_X7_refuse (zrm hR (by decide) (by decide)) zd_X7_plan_43 (zCl_V1 zok_l) (zs_iret rfl zd_X7_plan_46)))))))))))))))))))))))
theorem zdn_X7_plan : yX7_plan.cls ≠ "java/lang/invoke/MethodHandle" ∧ yX7_plan.cls ≠ "java/lang/invoke/VarHandle" ∧ (parseMethodDescriptor yX7_plan.desc).map (fun d => d.parameters.length) = some 0 := by decide +kernel
def pPlan (F : wFS) : Int32 × wFS := match wrT F.2.2.1 with
  | .inl f => (-6, (F.1, F.2.1, [], nI f, -6))
  | .inr acts => (nI acts.length, ((sW F.1, sH F.1, sL F.1, sS F.1, sF F.1, sG F.1, acts), F.2.1, [], -1, 0))
theorem zsh_500 {p : Nat} (hp : p < 1500) : zsh (500 + p) = (5, 3, 5) := by
  unfold zsh
  split
  all_goals first
    | (exfalso; omega)
    | (rw [if_neg (by omega), if_pos (by omega)])
/-- a reader has been made, and the plan dk written -/
def zpe (M M' : zMm) (k dk : Nat) : Prop := M'.1 = M.1 ++ [k] ∧ (∀ k', k' ≠ k → M'.2.2.2 k' = M.2.2.2 k') ∧ (∀ k', k' ≠ k → M'.2.2.1 k' = M.2.2.1 k') ∧ ∀ k', k' ≠ 0 → k' ≠ 3 → k' ≠ k → (k' < dk ∨ dk + 5 < k') → M'.2.1 k' = M.2.1 k'
theorem zXI.pe {M M' : zMm} {σ : wSP} {pk dk p : Nat} (h : zXI M σ pk dk p) (he : zpe M M' (500 + p) dk) (hp : p < 1500) : zXI M' σ pk dk (p + 1) := by
  obtain ⟨h1, h2, h3, h4, h5, h6, h7, h8, h9, ⟨S, hS1, hS2⟩, h11, h12⟩ := h
  obtain ⟨e1, e2, e3, e4⟩ := he
  have hd : (pk = 21 ∧ dk = 27) ∨ (pk = 27 ∧ dk = 21) := h1.2.2.2.2.2.2.2.2.2.2.2.2.2.2.2.2
  have eR : ∀ {k j : Nat}, k < 500 → M'.2.2.2 k j = M.2.2.2 k j := fun hk => by rw [e2 _ (by omega)]
  have eI : ∀ {k : Nat}, k ≠ 0 → k ≠ 3 → k < 500 → (k < dk ∨ dk + 5 < k) → M'.2.1 k = M.2.1 k := fun a b c d => e4 _ a b (by omega) d
  refine ⟨?_, h2, ?_, ?_, ?_, ?_, ?_, ?_, ?_, ⟨S, ?_, hS2⟩, fun r hr => ?_, ?_⟩
  · unfold zXr zxw
    simp only [eR (k := 0) (by decide), eR (k := 1) (by decide), eR (k := 3) (by decide), eR (k := 5) (by decide), eR (k := 10) (by decide), eR (k := 21) (by decide), eR (k := 27) (by decide)]
    exact h1
  · rw [eI (by decide) (by decide) (by decide) (by omega)]; exact h3
  · rw [eI (by decide) (by decide) (by decide) (by omega)]; exact h4
  · rw [eI (by decide) (by decide) (by decide) (by omega)]; exact h5
  · rw [eI (by decide) (by decide) (by decide) (by omega)]; exact h6
  · rw [eI (by decide) (by decide) (by decide) (by omega)]; exact h7
  · rw [eI (by decide) (by decide) (by decide) (by omega)]; exact h8
  · obtain ⟨z1, z2⟩ := h9
    refine ⟨z1, ?_⟩
    simp only [eR (k := pk) (by omega), eI (k := pk) (by omega) (by omega) (by omega) (by omega), eI (k := pk + 1) (by omega) (by omega) (by omega) (by omega), eI (k := pk + 2) (by omega) (by omega) (by omega) (by omega), eI (k := pk + 3) (by omega) (by omega) (by omega) (by omega), eI (k := pk + 4) (by omega) (by omega) (by omega) (by omega), eI (k := pk + 5) (by omega) (by omega) (by omega) (by omega)]
    exact z2
  · unfold zwt
    rw [eI (k := 13) (by omega) (by omega) (by omega) (by omega), eI (k := 15) (by omega) (by omega) (by omega) (by omega), eI (k := 10) (by omega) (by omega) (by omega) (by omega)]
    exact hS1
  · have zr : zyi r < 172 := by unfold zyi; omega
    have zr2 : 100 ≤ zyi r := by unfold zyi; omega
    unfold zys
    rw [eR (k := 20) (by decide), eR (k := zyi r) (by omega), e3 (zyi r + 1) (by omega), eI (k := zyi r) (by omega) (by omega) (by omega) (by omega), e1]
    have m1 : ∀ x, x < 500 → (x ∉ M.1 ++ [500 + p] ↔ x ∉ M.1) := fun x hx => by
      rw [List.mem_append, List.mem_singleton]
      exact ⟨fun z q => z (Or.inl q), fun z q => q.elim z (fun q => by omega)⟩
    rw [m1 _ (by omega), m1 _ (by omega)]
    exact h11 r hr
  · obtain ⟨l1, l2, l3⟩ := h12
    have hv : zlv M' = zlv M := by
      funext r
      unfold zlv
      rw [eR (k := 20) (by decide)]
    have hsz : zsz (500 + p) = 5 := by
      have : zsh (500 + p) = (5, 3, 5) := zsh_500 hp
      exact zsz_obj this
    refine ⟨?_, ?_, fun k hk hk5 => ?_⟩
    · rw [hv, e1, List.length_append, List.length_singleton]; omega
    · rw [hv, e1]
      unfold zss
      rw [List.map_append, List.sum_append]
      have : (M.1.map zsz).sum = 2117 + 467 * wct (zlv M) 36 + 5 * p := l2
      rw [this]
      simp [hsz]
      omega
    · rw [e1, List.mem_append, List.mem_singleton] at hk
      rcases hk with hk | hk
      · have := l3 k hk hk5; omega
      · omega
def zc_X7_plan (a : List Value) (M : zMm) (K : zKt) : Prop := match a with
  | [.ref k] => k = 0 ∧ ∃ F pk dk p, zXF M F pk dk p ∧ p < 1500 ∧ ∀ M' pk' dk', zXF M' (pPlan F).2 pk' dk' (p + 1) → K (some (.int (pPlan F).1)) M'
  | _ => False
set_option maxHeartbeats 4000000 in
theorem zm_X7_plan (l : Launch) (D : va_G) (Y : Nat → ClassId) : zMt l D Y yX7_plan cX7_plan 3 (some .int) 8 170 1 5 zc_X7_plan := by
  refine zflat (by decide) (fun K J lc lz => zb_X7_plan_0 K J lc lz) (fun X hR => zbs_X7_plan_0 hR zJ0 zJ0_ok) (fun avs M K h => ?_)
  unfold zc_X7_plan at h
  split at h
  · next k =>
    obtain ⟨rfl, F, pk, dk, p, hF, hp, h⟩ := h
    obtain ⟨hxi, hEn, hel, hTp, hft, hst⟩ := hF
    obtain ⟨a0, a1, a2, a3, a4, a5, a6, a7, a8, b0, b1, b2, b3, hxw, c21, c27, hd⟩ := id hxi.1
    have hk := zsh_500 hp
    have hdk : dk = 21 ∨ dk = 27 := by omega
    have hnl : 500 + p ∉ M.1 := fun z => by have := hxi.2.2.2.2.2.2.2.2.2.2.2.2.2 _ z (by omega); omega
    have rdk : ∀ j, j < 5 → M.2.2.2 dk j = some (dk + 1 + j) := by
      rcases hdk with rfl | rfl
      · exact c21
      · exact c27
    obtain ⟨p0, -⟩ := zpl_sh hdk
    refine ⟨by simp [zent], ?_⟩
    simp only [zb_X7_plan_0, zT_new, zT_push, zT_bin, zT_div, zT_bil, zT_shl, zT_un, zT_i2l, zT_l2i, zT_lcmp, zT_ild, zT_lld, zT_ald, zT_ist, zT_lst, zT_ast, zT_iinc, zT_dup, zT_dup2, zT_pop, zT_if1, zT_if2, zT_ifn, zT_getI, zT_getJ, zT_getR, zT_putI, zT_putZ, zT_putJ, zT_putR, zT_ald0, zT_lald, zT_aald, zT_iast, zT_zast, zT_bast, zT_last, zT_aast, zT_iret, zT_nret, zT_aret, zT_vret, zT_oi, zT_mm, zT_ialX, zT_S1, zT_S2, zT_S3, zT_V0, zT_V1, zT_V2, zT_V3, zT_V4, zT_V5, zT_V6, zT_I0, zT_I1, zT_I2, zlg, zlset, zlpr, zent, zok, va_rf, List.length_cons, List.length_nil, List.replicate, List.cons_append, List.nil_append, List.append_nil, Option.toList_some, Option.toList_none, Option.toList, Nat.reduceAdd, Nat.reduceSub, Nat.reduceLeDiff, Nat.zero_add, Nat.zero_le, true_and, and_true, Nat.le_refl, ge_iff_le, Nat.reduceEqDiff]
    refine ⟨500 + p, hnl, hk, ?_⟩
    have eN : ∀ k' j, k' ≠ 500 + p → (znw M (500 + p)).2.2.2 k' j = M.2.2.2 k' j := fun k' j hk' => by show zrw _ _ _ _ _ = _; rw [zrw_n hk']
    simp only [zsh_0, eN 0 1 (by omega), eN 0 6 (by omega), a1, a6, zT_push, zT_bin, zT_div, zT_bil, zT_shl, zT_un, zT_i2l, zT_l2i, zT_lcmp, zT_ild, zT_lld, zT_ald, zT_ist, zT_lst, zT_ast, zT_iinc, zT_dup, zT_dup2, zT_pop, zT_if1, zT_if2, zT_ifn, zT_getI, zT_getJ, zT_getR, zT_putI, zT_putZ, zT_putJ, zT_putR, zT_ald0, zT_lald, zT_aald, zT_iast, zT_zast, zT_bast, zT_last, zT_aast, zT_iret, zT_nret, zT_aret, zT_vret, zT_oi, zT_mm, zT_ialX, zT_S1, zT_S2, zT_S3, zT_V0, zT_V1, zT_V2, zT_V3, zT_V4, zT_V5, zT_V6, zT_I0, zT_I1, zT_I2, zlg, zlset, zlpr, zent, zok, va_rf, List.length_cons, List.length_nil, List.replicate, List.cons_append, List.nil_append, List.append_nil, Option.toList_some, Option.toList_none, Option.toList, Nat.reduceAdd, Nat.reduceSub, Nat.reduceLeDiff, Nat.zero_add, Nat.zero_le, true_and, and_true, Nat.le_refl, ge_iff_le, Nat.reduceEqDiff]
    unfold zc_X3_init
    dsimp only
    refine ⟨hk, (show 500 + p < 2000 by omega), by decide, (show dk < 2000 by omega), fun M1 hM1 => ?_⟩
    have m1 : M1.1 = M.1 ++ [500 + p] := by rw [hM1]; rfl
    have mR : ∀ k', k' ≠ 500 + p → M1.2.2.2 k' = M.2.2.2 k' := fun k' hk' => by
      rw [hM1]
      show zw2 (zw2 (zrw _ _ _) _ _ _) _ _ _ _ = _
      rw [zw2_n hk', zw2_n hk', zrw_n hk']
    have mJ : ∀ k', k' ≠ 500 + p → M1.2.2.1 k' = M.2.2.1 k' := fun k' hk' => by
      rw [hM1]
      show zrw _ _ _ _ = _
      rw [zrw_n hk']
    have mI : ∀ k', k' ≠ 500 + p → M1.2.1 k' = M.2.1 k' := fun k' hk' => by
      rw [hM1]
      show zrw _ _ _ _ = _
      rw [zrw_n hk']
    have mI0 : ∀ j, M1.2.1 (500 + p) j = 0 := fun j => by
      rw [hM1]
      show zrw _ _ _ _ _ = _
      rw [zrw_s]
    have mR0 : M1.2.2.2 (500 + p) 0 = some 3 := by
      rw [hM1]
      show zw2 (zw2 (zrw _ _ _) _ _ _) _ _ _ _ _ = _
      rw [zw2_s, zup_n (by decide), zw2_s, zup_s]
    have mR1 : M1.2.2.2 (500 + p) 1 = some dk := by
      rw [hM1]
      show zw2 (zw2 (zrw _ _ _) _ _ _) _ _ _ _ _ = _
      rw [zw2_s, zup_s]
    have hRd : zRd M1 (500 + p) F.2.2.1 0 0 := ⟨hk, by omega, mR0, by rw [mR 3 (by omega)]; exact a8, hTp.to (fun k a b => mI k (by omega)), mI0 2, mI0 3⟩
    simp only [zsh_0, hk, zT_push, zT_bin, zT_div, zT_bil, zT_shl, zT_un, zT_i2l, zT_l2i, zT_lcmp, zT_ild, zT_lld, zT_ald, zT_ist, zT_lst, zT_ast, zT_iinc, zT_dup, zT_dup2, zT_pop, zT_if1, zT_if2, zT_ifn, zT_getI, zT_getJ, zT_getR, zT_putI, zT_putZ, zT_putJ, zT_putR, zT_ald0, zT_lald, zT_aald, zT_iast, zT_zast, zT_bast, zT_last, zT_aast, zT_iret, zT_nret, zT_aret, zT_vret, zT_oi, zT_mm, zT_ialX, zT_S1, zT_S2, zT_S3, zT_V0, zT_V1, zT_V2, zT_V3, zT_V4, zT_V5, zT_V6, zT_I0, zT_I1, zT_I2, zlg, zlset, zlpr, zent, zok, va_rf, List.length_cons, List.length_nil, List.replicate, List.cons_append, List.nil_append, List.append_nil, Option.toList_some, Option.toList_none, Option.toList, Nat.reduceAdd, Nat.reduceSub, Nat.reduceLeDiff, Nat.zero_add, Nat.zero_le, true_and, and_true, Nat.le_refl, ge_iff_le, Nat.reduceEqDiff]
    unfold zc_X3_readPlan
    dsimp only
    have rest : ∀ M2 v, zsm [500 + p, dk, dk + 1, dk + 2, dk + 3, dk + 4, dk + 5] M1 M2 → zpe M (zwI (zwI M2 0 7 v) 3 1 0) (500 + p) dk ∧ M2.2.2.2 = M1.2.2.2 := by
      intro M2 v hs
      refine ⟨⟨by show M2.1 = _; rw [hs.1]; exact m1, fun k' hk' => ?_, fun k' hk' => ?_, fun k' q0 q3 qk qd => ?_⟩, hs.R⟩
      · show M2.2.2.2 k' = _; rw [hs.R]; exact mR k' hk'
      · show M2.2.2.1 k' = _; rw [hs.J]; exact mJ k' hk'
      · show zw2 (zw2 _ _ _ _) _ _ _ _ = _
        rw [zw2_n q3, zw2_n q0, hs.at (by simp; omega)]
        exact mI k' qk
    refine ⟨F.2.2.1, dk, 0, hRd, mR1, hdk, by rw [mR dk (by omega)]; exact rdk, fun f hf hfl M2 hs => ?_, fun acts hac M2 hs hpl2 => ?_⟩
    · obtain ⟨hpe, eR2⟩ := rest M2 (nI f) hs
      have e1 : M2.2.2.2 0 1 = some 3 := by rw [eR2, mR 0 (by omega)]; exact a1
      have e7 : (zwI (zwI M2 0 7 (nI f)) 3 1 0).2.1 0 7 = nI f := by
        simp only [zwI_L, zwI_I, zwI_J, zwI_R, zwJ_L, zwJ_I, zwJ_J, zwJ_R, zwR_L, zwR_I, zwR_J, zwR_R, zw2_s, zw2_n, ne_eq, not_false_eq_true, reduceCtorEq, not_true_eq_false, Nat.reduceEqDiff]
        rw [zup_s]
      have hne : ¬ nI f = -1 := fun z => by
        have h2 := hTp.2.1
        have := (nI_leI (a := 0) (b := f) (by decide) (by omega)).mpr (Nat.zero_le _)
        rw [z] at this
        exact absurd this (by decide)
      simp only [zsh_0, zsh_3, e1, zwI_R, e7, zT_push, zT_bin, zT_div, zT_bil, zT_shl, zT_un, zT_i2l, zT_l2i, zT_lcmp, zT_ild, zT_lld, zT_ald, zT_ist, zT_lst, zT_ast, zT_iinc, zT_dup, zT_dup2, zT_pop, zT_if1, zT_if2, zT_ifn, zT_getI, zT_getJ, zT_getR, zT_putI, zT_putZ, zT_putJ, zT_putR, zT_ald0, zT_lald, zT_aald, zT_iast, zT_zast, zT_bast, zT_last, zT_aast, zT_iret, zT_nret, zT_aret, zT_vret, zT_oi, zT_mm, zT_ialX, zT_S1, zT_S2, zT_S3, zT_V0, zT_V1, zT_V2, zT_V3, zT_V4, zT_V5, zT_V6, zT_I0, zT_I1, zT_I2, zlg, zlset, zlpr, zent, zok, va_rf, List.length_cons, List.length_nil, List.replicate, List.cons_append, List.nil_append, List.append_nil, Option.toList_some, Option.toList_none, Option.toList, Nat.reduceAdd, Nat.reduceSub, Nat.reduceLeDiff, Nat.zero_add, Nat.zero_le, true_and, and_true, Nat.le_refl, ge_iff_le, Nat.reduceEqDiff]
      refine ⟨fun z => absurd z hne, fun _ => ?_⟩
      unfold zc_X7_refuse
      dsimp only
      refine ⟨rfl, ?_⟩
      have h2 := h (zwI (zwI (zwI M2 0 7 (nI f)) 3 1 0) 0 8 (-6)) pk dk
      unfold pPlan at h2
      rw [hf] at h2
      refine h2 ?_
      have hx := hxi.pe hpe hp
      have hI : ∀ k', 5 ≤ k' → k' < 10 → (zwI (zwI M2 0 7 (nI f)) 3 1 0).2.1 k' = M.2.1 k' := fun k' q1 q2 => hpe.2.2.2 k' (by omega) (by omega) (by omega) (by omega)
      have hF3 : zXF (zwI (zwI M2 0 7 (nI f)) 3 1 0) (F.1, F.2.1, [], nI f, (zwI (zwI M2 0 7 (nI f)) 3 1 0).2.1 0 8) pk dk (p + 1) := by
        refine ⟨hx, hEn.to hI, hel, ⟨?_, Nat.zero_le _, fun i b hi => by simp at hi⟩, e7, rfl⟩
        simp only [zwI_L, zwI_I, zwI_J, zwI_R, zwJ_L, zwJ_I, zwJ_J, zwJ_R, zwR_L, zwR_I, zwR_J, zwR_R, zw2_s, zw2_n, ne_eq, not_false_eq_true, reduceCtorEq, not_true_eq_false, Nat.reduceEqDiff]
        rw [zup_s]
        rfl
      exact hF3.refuse (-6)
    · obtain ⟨hpe, eR2⟩ := rest M2 (-1) hs
      have e0 : ∀ j, M2.2.2.2 0 j = M.2.2.2 0 j := fun j => by rw [eR2, mR 0 (by omega)]
      have e7 : (zwI (zwI M2 0 7 (-1)) 3 1 0).2.1 0 7 = -1 := by
        simp only [zwI_L, zwI_I, zwI_J, zwI_R, zwJ_L, zwJ_I, zwJ_J, zwJ_R, zwR_L, zwR_I, zwR_J, zwR_R, zw2_s, zw2_n, ne_eq, not_false_eq_true, reduceCtorEq, not_true_eq_false, Nat.reduceEqDiff]
        rw [zup_s]
      have s6 : ∀ x, zw2 M2.2.2.2 0 5 x 0 6 = some dk := fun x => by rw [zw2_s, zup_n (by decide), e0]; exact a6
      simp only [zsh_0, zsh_3, e0, a1, a5, a6, zwI_R, e7, zT_push, zT_bin, zT_div, zT_bil, zT_shl, zT_un, zT_i2l, zT_l2i, zT_lcmp, zT_ild, zT_lld, zT_ald, zT_ist, zT_lst, zT_ast, zT_iinc, zT_dup, zT_dup2, zT_pop, zT_if1, zT_if2, zT_ifn, zT_getI, zT_getJ, zT_getR, zT_putI, zT_putZ, zT_putJ, zT_putR, zT_ald0, zT_lald, zT_aald, zT_iast, zT_zast, zT_bast, zT_last, zT_aast, zT_iret, zT_nret, zT_aret, zT_vret, zT_oi, zT_mm, zT_ialX, zT_S1, zT_S2, zT_S3, zT_V0, zT_V1, zT_V2, zT_V3, zT_V4, zT_V5, zT_V6, zT_I0, zT_I1, zT_I2, zlg, zlset, zlpr, zent, zok, va_rf, List.length_cons, List.length_nil, List.replicate, List.cons_append, List.nil_append, List.append_nil, Option.toList_some, Option.toList_none, Option.toList, Nat.reduceAdd, Nat.reduceSub, Nat.reduceLeDiff, Nat.zero_add, Nat.zero_le, true_and, and_true, Nat.le_refl, ge_iff_le, Nat.reduceEqDiff]
      refine ⟨fun _ => ?_, fun z => absurd trivial z⟩
      have hx := hxi.pe hpe hp
      refine ⟨(show dk < 2000 by omega), (show pk < 2000 by omega), ?_⟩
      have hpl3 : zpl (zwI (zwI M2 0 7 (-1)) 3 1 0) dk acts := by
        refine hpl2.to (ks := [0, 3]) ((zsm.rf.w (by simp)).w (by simp)) (fun k hk => ?_)
        simp at hk
        omega
      have hI : ∀ k', 5 ≤ k' → k' < 10 → (zwI (zwI M2 0 7 (-1)) 3 1 0).2.1 k' = M.2.1 k' := fun k' q1 q2 => hpe.2.2.2 k' (by omega) (by omega) (by omega) (by omega)
      have t3 : (zwI (zwI M2 0 7 (-1)) 3 1 0).2.1 3 1 = 0 := by
        simp only [zwI_L, zwI_I, zwI_J, zwI_R, zwJ_L, zwJ_I, zwJ_J, zwJ_R, zwR_L, zwR_I, zwR_J, zwR_R, zw2_s, zw2_n, ne_eq, not_false_eq_true, reduceCtorEq, not_true_eq_false, Nat.reduceEqDiff]
        rw [zup_s]
      generalize zwI (zwI M2 0 7 (-1)) 3 1 0 = M3 at hpe hx hpl3 hI t3 e7 ⊢
      have hx4 : zX2 (zwR (zwR M3 0 5 (some dk)) 0 6 (some pk)) (sW F.1, sH F.1, sL F.1, sS F.1, sF F.1, sG F.1, acts) dk pk (p + 1) := by
        obtain ⟨g1, g2, g3, g4, g5, g6, g7, g8, g9, g10, g11, g12⟩ := hx
        have rr : ∀ k j, k ≠ 0 → (zwR (zwR M3 0 5 (some dk)) 0 6 (some pk)).2.2.2 k j = M3.2.2.2 k j := fun k j hk => by
          show zw2 (zw2 M3.2.2.2 0 5 (some dk)) 0 6 (some pk) k j = _
          rw [zw2_n hk, zw2_n hk]
        have r0 : ∀ j, j < 5 → (zwR (zwR M3 0 5 (some dk)) 0 6 (some pk)).2.2.2 0 j = M3.2.2.2 0 j := fun j hj => by
          show zw2 (zw2 M3.2.2.2 0 5 (some dk)) 0 6 (some pk) 0 j = _
          rw [zw2_s, zup_n (by omega), zw2_s, zup_n (by omega)]
        have r5 : (zwR (zwR M3 0 5 (some dk)) 0 6 (some pk)).2.2.2 0 5 = some dk := by
          show zw2 (zw2 M3.2.2.2 0 5 (some dk)) 0 6 (some pk) 0 5 = _
          rw [zw2_s, zup_n (by decide), zw2_s, zup_s]
        have r6 : (zwR (zwR M3 0 5 (some dk)) 0 6 (some pk)).2.2.2 0 6 = some pk := by
          show zw2 (zw2 M3.2.2.2 0 5 (some dk)) 0 6 (some pk) 0 6 = _
          rw [zw2_s, zup_s]
        refine ⟨?_, g2, g3, g4, g5, g6, g7, g8, ?_, g10, ?_, ?_⟩
        · obtain ⟨u0, u1, u2, u3, u4, u5, u6, u7, u8, u9, u10, u11, u12, u13, u14, u15, u16⟩ := g1
          unfold zXr zxw
          rw [r0 0 (by decide), r0 1 (by decide), r0 2 (by decide), r0 3 (by decide), r0 4 (by decide), r5, r6]
          simp only [rr 1 _ (by decide), rr 3 _ (by decide), rr 5 _ (by decide), rr 10 _ (by decide), rr 21 _ (by decide), rr 27 _ (by decide)]
          exact ⟨u0, u1, u2, u3, u4, trivial, trivial, u7, u8, u9, u10, u11, u12, u13, u14, u15, by omega⟩
        · obtain ⟨z1, z2⟩ := hpl3
          refine ⟨z1, ?_⟩
          simp only [rr dk _ (show dk ≠ 0 by omega)]
          exact z2
        · have := g11.t
          unfold zYT
          intro r hr
          rw [rr 20 _ (by decide), rr (zyi r) _ (show zyi r ≠ 0 by unfold zyi; omega)]
          exact this r hr
        · have hv : zlv (zwR (zwR M3 0 5 (some dk)) 0 6 (some pk)) = zlv M3 := by
            funext r
            unfold zlv
            rw [rr 20 _ (by decide)]
          unfold zLL
          rw [hv]
          exact g12
      have i4 : ∀ k, (zwR (zwR M3 0 5 (some dk)) 0 6 (some pk)).2.1 k = M3.2.1 k := fun _ => rfl
      have q5 : (zwR (zwR M3 0 5 (some dk)) 0 6 (some pk)).2.2.2 0 5 = some dk := hx4.1.2.2.2.2.2.1
      have q4 : (zwR (zwR M3 0 5 (some dk)) 0 6 (some pk)).2.2.2 0 4 = some 20 := hx4.1.2.2.2.2.1
      generalize zwR (zwR M3 0 5 (some dk)) 0 6 (some pk) = M4 at hx4 i4 q5 q4 ⊢
      unfold zc_X7_forgetRuns
      dsimp only
      refine ⟨rfl, q4, hx4.2.2.2.2.2.2.2.2.2.2.1, fun M5 hf hl => ?_⟩
      have q55 : M5.2.2.2 0 5 = some dk := by
        have : M5.2.2.2 = M4.2.2.2 := congrArg Prod.snd hf.2.1
        rw [this]; exact q5
      have ql : M5.2.1 dk 5 = nI acts.length := by
        rw [hf.2.2 dk (Or.inl (by omega)), i4]
        exact hpl3.2.2.2.2.2.2.1
      simp only [zsh_0, p0, q55, ql, zT_push, zT_bin, zT_div, zT_bil, zT_shl, zT_un, zT_i2l, zT_l2i, zT_lcmp, zT_ild, zT_lld, zT_ald, zT_ist, zT_lst, zT_ast, zT_iinc, zT_dup, zT_dup2, zT_pop, zT_if1, zT_if2, zT_ifn, zT_getI, zT_getJ, zT_getR, zT_putI, zT_putZ, zT_putJ, zT_putR, zT_ald0, zT_lald, zT_aald, zT_iast, zT_zast, zT_bast, zT_last, zT_aast, zT_iret, zT_nret, zT_aret, zT_vret, zT_oi, zT_mm, zT_ialX, zT_S1, zT_S2, zT_S3, zT_V0, zT_V1, zT_V2, zT_V3, zT_V4, zT_V5, zT_V6, zT_I0, zT_I1, zT_I2, zlg, zlset, zlpr, zent, zok, va_rf, List.length_cons, List.length_nil, List.replicate, List.cons_append, List.nil_append, List.append_nil, Option.toList_some, Option.toList_none, Option.toList, Nat.reduceAdd, Nat.reduceSub, Nat.reduceLeDiff, Nat.zero_add, Nat.zero_le, true_and, and_true, Nat.le_refl, ge_iff_le, Nat.reduceEqDiff]
      unfold zc_X7_accept
      dsimp only
      refine ⟨rfl, ?_⟩
      have h2 := h (zwI M5 0 8 0) dk pk
      unfold pPlan at h2
      rw [hac] at h2
      refine h2 (zXF.accept (F := (F.1, F.2.1, [], -1, 0)) hx4 (hEn.to (fun k a b => by rw [i4]; exact hI k a b)) hel ⟨?_, Nat.zero_le _, fun i b hi => by simp at hi⟩ (by rw [i4]; exact e7) hf hl)
      rw [i4]
      exact t3
  · exact h.elim
