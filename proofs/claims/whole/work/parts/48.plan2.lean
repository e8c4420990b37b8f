/-! DeltaRuns$Reader readPlan -/
theorem zd_X3_readPlan_0 : decode cX3_readPlan 0 = .ok (.aload_n 0, 1) := by decide +kernel
theorem zd_X3_readPlan_1 : decode cX3_readPlan 1 = .ok (.getfield 15, 3) := by decide +kernel
theorem zd_X3_readPlan_4 : decode cX3_readPlan 4 = .ok (.iconst 0, 1) := by decide +kernel
theorem zd_X3_readPlan_5 : decode cX3_readPlan 5 = .ok (.putfield 19, 3) := by decide +kernel
theorem zd_X3_readPlan_8 : decode cX3_readPlan 8 = .ok (.aload_n 0, 1) := by decide +kernel
theorem zd_X3_readPlan_9 : decode cX3_readPlan 9 = .ok (.invokevirtual 25, 3) := by decide +kernel
theorem zd_X3_readPlan_12 : decode cX3_readPlan 12 = .ok (.aload_n 0, 1) := by decide +kernel
theorem zd_X3_readPlan_13 : decode cX3_readPlan 13 = .ok (.invokevirtual 28, 3) := by decide +kernel
theorem zd_X3_readPlan_16 : decode cX3_readPlan 16 = .ok (.ifCond .eq 5, 3) := by decide +kernel
theorem zd_X3_readPlan_19 : decode cX3_readPlan 19 = .ok (.iconst (-1), 1) := by decide +kernel
theorem zd_X3_readPlan_20 : decode cX3_readPlan 20 = .ok (.ireturn, 1) := by decide +kernel
theorem zd_X3_readPlan_21 : decode cX3_readPlan 21 = .ok (.iconst 0, 1) := by decide +kernel
theorem zd_X3_readPlan_22 : decode cX3_readPlan 22 = .ok (.istore_n 1, 1) := by decide +kernel
theorem zd_X3_readPlan_23 : decode cX3_readPlan 23 = .ok (.iload_n 1, 1) := by decide +kernel
theorem zd_X3_readPlan_24 : decode cX3_readPlan 24 = .ok (.bipush 20, 2) := by decide +kernel
theorem zd_X3_readPlan_26 : decode cX3_readPlan 26 = .ok (.if_icmp .ge 55, 3) := by decide +kernel
theorem zd_X3_readPlan_29 : decode cX3_readPlan 29 = .ok (.aload_n 0, 1) := by decide +kernel
theorem zd_X3_readPlan_30 : decode cX3_readPlan 30 = .ok (.iload_n 1, 1) := by decide +kernel
theorem zd_X3_readPlan_31 : decode cX3_readPlan 31 = .ok (.invokevirtual 32, 3) := by decide +kernel
theorem zd_X3_readPlan_34 : decode cX3_readPlan 34 = .ok (.ifCond .ne 8, 3) := by decide +kernel
theorem zd_X3_readPlan_37 : decode cX3_readPlan 37 = .ok (.aload_n 0, 1) := by decide +kernel
theorem zd_X3_readPlan_38 : decode cX3_readPlan 38 = .ok (.getfield 36, 3) := by decide +kernel
theorem zd_X3_readPlan_41 : decode cX3_readPlan 41 = .ok (.ireturn, 1) := by decide +kernel
theorem zd_X3_readPlan_42 : decode cX3_readPlan 42 = .ok (.aload_n 0, 1) := by decide +kernel
theorem zd_X3_readPlan_43 : decode cX3_readPlan 43 = .ok (.getfield 15, 3) := by decide +kernel
theorem zd_X3_readPlan_46 : decode cX3_readPlan 46 = .ok (.iload_n 1, 1) := by decide +kernel
theorem zd_X3_readPlan_47 : decode cX3_readPlan 47 = .ok (.iconst 1, 1) := by decide +kernel
theorem zd_X3_readPlan_48 : decode cX3_readPlan 48 = .ok (.iadd, 1) := by decide +kernel
theorem zd_X3_readPlan_49 : decode cX3_readPlan 49 = .ok (.putfield 19, 3) := by decide +kernel
theorem zd_X3_readPlan_52 : decode cX3_readPlan 52 = .ok (.aload_n 0, 1) := by decide +kernel
theorem zd_X3_readPlan_53 : decode cX3_readPlan 53 = .ok (.invokevirtual 28, 3) := by decide +kernel
theorem zd_X3_readPlan_56 : decode cX3_readPlan 56 = .ok (.ifCond .eq 5, 3) := by decide +kernel
theorem zd_X3_readPlan_59 : decode cX3_readPlan 59 = .ok (.iconst (-1), 1) := by decide +kernel
theorem zd_X3_readPlan_60 : decode cX3_readPlan 60 = .ok (.ireturn, 1) := by decide +kernel
theorem zd_X3_readPlan_61 : decode cX3_readPlan 61 = .ok (.aload_n 0, 1) := by decide +kernel
theorem zd_X3_readPlan_62 : decode cX3_readPlan 62 = .ok (.ldc 39, 2) := by decide +kernel
theorem zd_X3_readPlan_64 : decode cX3_readPlan 64 = .ok (.invokevirtual 41, 3) := by decide +kernel
theorem zd_X3_readPlan_67 : decode cX3_readPlan 67 = .ok (.ifCond .ne 8, 3) := by decide +kernel
theorem zd_X3_readPlan_70 : decode cX3_readPlan 70 = .ok (.aload_n 0, 1) := by decide +kernel
theorem zd_X3_readPlan_71 : decode cX3_readPlan 71 = .ok (.getfield 36, 3) := by decide +kernel
theorem zd_X3_readPlan_74 : decode cX3_readPlan 74 = .ok (.ireturn, 1) := by decide +kernel
theorem zd_X3_readPlan_75 : decode cX3_readPlan 75 = .ok (.iinc 1 1, 3) := by decide +kernel
theorem zd_X3_readPlan_78 : decode cX3_readPlan 78 = .ok (.goto (-55), 3) := by decide +kernel
theorem zd_X3_readPlan_81 : decode cX3_readPlan 81 = .ok (.aload_n 0, 1) := by decide +kernel
theorem zd_X3_readPlan_82 : decode cX3_readPlan 82 = .ok (.getfield 36, 3) := by decide +kernel
theorem zd_X3_readPlan_85 : decode cX3_readPlan 85 = .ok (.ireturn, 1) := by decide +kernel
def zb_X3_readPlan_0 (K : zKt) (J : Nat → zPP) : zPP := zT_ald 0 (zT_getR 3 1 5 (zT_push (.int 0) (zT_putI 2 5 6 (zT_ald 0 (zT_V0 zok 3 5 zc_X3_step (zT_ald 0 (zT_V0 zok 3 5 zc_X3_atEnd (zT_if1 (fun x => x = 0) (zT_push (.int 0) (zT_ist 1 (J 23))) (zT_push (.int (-1)) (zT_iret K))))))))))
theorem zbs_X3_readPlan_0 {X : zCt} (hR : zRX X = { frames := 7, cells := 0, slots := 0, locals := 149 }) (J : Nat → zPP) (hJ : ∀ h ∈ ([23] : List Nat), zSd X RX3 "readPlan" cX3_readPlan 2 (some .int) h (J h)) : zSd X RX3 "readPlan" cX3_readPlan 2 (some .int) 0 (zb_X3_readPlan_0 (zKX X) J) := zs_aload_n zd_X3_readPlan_0 rfl (zs_getR (ci := 3) (j := 1) (T := TX3) rfl inX3 (by decide) gw_2_40 rfl zd_X3_readPlan_1 (zs_iconst zd_X3_readPlan_4 (by decide) (zs_putI (ci := 2) (j := 5) (T := TX2) rfl inX2 tyX2_ok nmX2 (by decide) gw_1_169 rfl rfl rfl zd_X3_readPlan_5 (zs_aload_n zd_X3_readPlan_8 rfl (zs_V (ci := 3) rfl rfl (zm_X3_step _ _ _) gw_2_62 gw_2_59 gw_2_61 gw_0_3 gw_1_8 zdn_X3_step (zrm hR (by decide) (by decide)) zd_X3_readPlan_9 (zCl_V0 zok_l) (zs_aload_n zd_X3_readPlan_12 rfl (zs_V (ci := 3) rfl rfl (zm_X3_atEnd _ _ _) gw_2_66 gw_2_63 gw_2_65 gw_0_4 gw_1_8 zdn_X3_atEnd (zrm hR (by decide) (by decide)) zd_X3_readPlan_13 (zCl_V0 zok_l) (zs_if_eq (tgt := 21) zd_X3_readPlan_16 (by decide) (zs_iconst zd_X3_readPlan_21 (by decide) (zs_istore_n zd_X3_readPlan_22 rfl (by decide) (hJ 23 (by decide)))) (zs_iconst zd_X3_readPlan_19 (by decide) (zs_iret rfl zd_X3_readPlan_20))))))))))
def zb_X3_readPlan_23 (K : zKt) (J : Nat → zPP) : zPP := zT_ild 1 (zT_push (.int 20) (zT_if2 (fun x y => y ≤ x) (zT_ald 0 (zT_getI 3 2 5 (zT_iret K))) (zT_ald 0 (zT_ild 1 (zT_V1 zok 3 5 zc_X3_readAct (zT_if1 (fun x => x = 0) (zT_ald 0 (zT_getI 3 2 5 (zT_iret K))) (zT_ald 0 (zT_getR 3 1 5 (zT_ild 1 (zT_push (.int 1) (zT_bin (fun x y => x + y) (zT_putI 2 5 6 (zT_ald 0 (zT_V0 zok 3 5 zc_X3_atEnd (zT_if1 (fun x => x = 0) (zT_ald 0 (zT_push (.ref (2010 + 7)) (zT_V1 zok 3 5 zc_X3_takes (zT_if1 (fun x => x = 0) (zT_ald 0 (zT_getI 3 2 5 (zT_iret K))) (zT_iinc 1 1 (J 23)))))) (zT_push (.int (-1)) (zT_iret K)))))))))))))))))
theorem zbs_X3_readPlan_23 {X : zCt} (hR : zRX X = { frames := 7, cells := 0, slots := 0, locals := 149 }) (J : Nat → zPP) (hJ : ∀ h ∈ ([23] : List Nat), zSd X RX3 "readPlan" cX3_readPlan 2 (some .int) h (J h)) : zSd X RX3 "readPlan" cX3_readPlan 2 (some .int) 23 (zb_X3_readPlan_23 (zKX X) J) := zs_iload_n zd_X3_readPlan_23 rfl (zs_bipush zd_X3_readPlan_24 (by decide) (zs_icmp_ge (tgt := 81) zd_X3_readPlan_26 (by decide) (zs_aload_n zd_X3_readPlan_81 rfl (zs_getI (ci := 3) (j := 2) (T := TX3) rfl inX3 (by decide) gw_2_41 rfl zd_X3_readPlan_82 (zs_iret rfl zd_X3_readPlan_85))) (zs_aload_n zd_X3_readPlan_29 rfl (zs_iload_n zd_X3_readPlan_30 rfl (zs_V (ci := 3) rfl rfl (zm_X3_readAct _ _ _) gw_2_76 gw_2_73 gw_2_75 gw_0_5 gw_1_8 zdn_X3_readAct (zrm hR (by decide) (by decide)) zd_X3_readPlan_31 (zCl_V1 zok_l) (zs_if_ne (tgt := 42) zd_X3_readPlan_34 (by decide) (zs_aload_n zd_X3_readPlan_42 rfl (zs_getR (ci := 3) (j := 1) (T := TX3) rfl inX3 (by decide) gw_2_40 rfl zd_X3_readPlan_43 (zs_iload_n zd_X3_readPlan_46 rfl (zs_iconst zd_X3_readPlan_47 (by decide) (zs_iadd zd_X3_readPlan_48 (zs_putI (ci := 2) (j := 5) (T := TX2) rfl inX2 tyX2_ok nmX2 (by decide) gw_1_169 rfl rfl rfl zd_X3_readPlan_49 (zs_aload_n zd_X3_readPlan_52 rfl (zs_V (ci := 3) rfl rfl (zm_X3_atEnd _ _ _) gw_2_66 gw_2_63 gw_2_65 gw_0_4 gw_1_8 zdn_X3_atEnd (zrm hR (by decide) (by decide)) zd_X3_readPlan_53 (zCl_V0 zok_l) (zs_if_eq (tgt := 61) zd_X3_readPlan_56 (by decide) (zs_aload_n zd_X3_readPlan_61 rfl (zs_ldcS 7 (by decide) rfl rfl zd_X3_readPlan_62 (zs_V (ci := 3) rfl rfl (zm_X3_takes _ _ _) gw_2_81 gw_2_78 gw_2_80 gw_0_6 gw_1_8 zdn_X3_takes (zrm hR (by decide) (by decide)) zd_X3_readPlan_64 (zCl_V1 zok_l) (zs_if_ne (tgt := 75) zd_X3_readPlan_67 (by decide) (zs_iinc zd_X3_readPlan_75 (by decide) (by decide) (zs_goto (tgt := 23) zd_X3_readPlan_78 (by decide) (hJ 23 (by decide)))) (zs_aload_n zd_X3_readPlan_70 rfl (zs_getI (ci := 3) (j := 2) (T := TX3) rfl inX3 (by decide) gw_2_41 rfl zd_X3_readPlan_71 (zs_iret rfl zd_X3_readPlan_74))))))) (zs_iconst zd_X3_readPlan_59 (by decide) (zs_iret rfl zd_X3_readPlan_60))))))))))) (zs_aload_n zd_X3_readPlan_37 rfl (zs_getI (ci := 3) (j := 2) (T := TX3) rfl inX3 (by decide) gw_2_41 rfl zd_X3_readPlan_38 (zs_iret rfl zd_X3_readPlan_41)))))))))
def zB_X3_readPlan (K : zKt) (J : Nat → zPP) (h : Nat) : zPP := if h = 23 then zb_X3_readPlan_23 K J else (fun _ _ _ => False)
theorem zBs_X3_readPlan {X : zCt} (hR : zRX X = { frames := 7, cells := 0, slots := 0, locals := 149 }) : ∀ J : Nat → zPP, (∀ h ∈ ([23] : List Nat), zSd X RX3 "readPlan" cX3_readPlan 2 (some .int) h (J h)) → ∀ h ∈ ([23] : List Nat), zSd X RX3 "readPlan" cX3_readPlan 2 (some .int) h (zB_X3_readPlan (zKX X) J h) := by
  intro J hJ h hh
  unfold zB_X3_readPlan
  simp only [List.mem_cons, List.not_mem_nil, or_false] at hh
  subst hh
  exact zbs_X3_readPlan_23 hR J hJ
theorem zdn_X3_readPlan : yX3_readPlan.cls ≠ "java/lang/invoke/MethodHandle" ∧ yX3_readPlan.cls ≠ "java/lang/invoke/VarHandle" ∧ (parseMethodDescriptor yX3_readPlan.desc).map (fun d => d.parameters.length) = some 0 := by decide +kernel
/-! DeltaRuns$Reader <init> -/
theorem zd_X3_init_0 : decode cX3_init 0 = .ok (.aload_n 0, 1) := by decide +kernel
theorem zd_X3_init_1 : decode cX3_init 1 = .ok (.invokespecial 3, 3) := by decide +kernel
theorem zd_X3_init_4 : decode cX3_init 4 = .ok (.aload_n 0, 1) := by decide +kernel
theorem zd_X3_init_5 : decode cX3_init 5 = .ok (.aload_n 1, 1) := by decide +kernel
theorem zd_X3_init_6 : decode cX3_init 6 = .ok (.putfield 9, 3) := by decide +kernel
theorem zd_X3_init_9 : decode cX3_init 9 = .ok (.aload_n 0, 1) := by decide +kernel
theorem zd_X3_init_10 : decode cX3_init 10 = .ok (.aload_n 2, 1) := by decide +kernel
theorem zd_X3_init_11 : decode cX3_init 11 = .ok (.putfield 15, 3) := by decide +kernel
theorem zd_X3_init_14 : decode cX3_init 14 = .ok (.return_, 1) := by decide +kernel
def zb_X3_init_0 (K : zKt) (J : Nat → zPP) : zPP := zT_ald 0 (zT_oi (zT_ald 0 (zT_ald 1 (zT_putR 3 0 5 (zT_ald 0 (zT_ald 2 (zT_putR 3 1 5 (zT_vret K))))))))
theorem zbs_X3_init_0 {X : zCt} (hR : zRX X = { frames := 1, cells := 0, slots := 0, locals := 20 }) (J : Nat → zPP) (hJ : ∀ h ∈ ([] : List Nat), zSd X RX3 "<init>" cX3_init 3 none h (J h)) : zSd X RX3 "<init>" cX3_init 3 none 0 (zb_X3_init_0 (zKX X) J) := zs_aload_n zd_X3_init_0 rfl (zs_oi gw_2_38 gw_1_21 gw_1_22 (zrm1 hR (by decide) (by decide)) zd_X3_init_1 (zs_aload_n zd_X3_init_4 rfl (zs_aload_n zd_X3_init_5 rfl (zs_putR (ci := 3) (j := 0) (T := TX3) rfl inX3 tyX3_ok nmX3 (by decide) gw_2_39 (Or.inr ⟨rfl, rfl, rfl⟩) (fun _ => ⟨rfl, rfl⟩) rfl zd_X3_init_6 (zs_aload_n zd_X3_init_9 rfl (zs_aload_n zd_X3_init_10 rfl (zs_putR (ci := 3) (j := 1) (T := TX3) rfl inX3 tyX3_ok nmX3 (by decide) gw_2_40 (Or.inr ⟨rfl, rfl, rfl⟩) (fun _ => ⟨rfl, rfl⟩) rfl zd_X3_init_11 (zs_vret rfl zd_X3_init_14))))))))
theorem zdn_X3_init : yX3_init.cls ≠ "java/lang/invoke/MethodHandle" ∧ yX3_init.cls ≠ "java/lang/invoke/VarHandle" ∧ (parseMethodDescriptor yX3_init.desc).map (fun d => d.parameters.length) = some 2 := by decide +kernel
/-! readPlan -/
def wrP (tp : List Nat) : Nat → Nat → List wAc → Nat ⊕ List wAc
  | 0, a, _ => .inl a
  | f + 1, a, acts => match wrA tp a with
    | .inl e => .inl e
    | .inr (t, a') => if tp.length ≤ a' then .inr (acts ++ [t]) else if wis tp a' 7 = true then wrP tp f (wno tp a') (acts ++ [t]) else .inl a'
def wrT (tp : List Nat) : Nat ⊕ List wAc := if tp.length ≤ wsk tp 0 then .inr [] else wrP tp 20 (wsk tp 0) []
theorem act_use {M : zMm} {k : Nat} {x : Int32} {tp : List Nat} {a dk n : Nat} {K : zKt} (h1 : zRd M k tp a (wte tp a)) (h2 : a ≤ tp.length) (h3 : M.2.2.2 k 1 = some dk) (h4 : dk = 21 ∨ dk = 27) (h5 : ∀ j, j < 5 → M.2.2.2 dk j = some (dk + 1 + j)) (h6 : x = nI n) (h7 : n < 20)
    (h8 : ∀ f, wrA tp a = .inl f → f ≤ tp.length → ∀ M', zdW M M' k dk n → M'.2.1 k 2 = nI f → K (some (.int 0)) M')
    (h9 : ∀ t a', wrA tp a = .inr (t, a') → a' ≤ tp.length → wacok t → ∀ M', zdW M M' k dk n → zRd M' k tp a' (wte tp a') → M'.2.1 (dk + 1) n = nI (way t) → M'.2.1 (dk + 2) n = nI (wak t) → M'.2.1 (dk + 3) n = nI (wax t) → M'.2.1 (dk + 4) n = nI (wao t) → (2 ≤ wak t → M'.2.1 (dk + 5) n = nI (wab t)) → K (some (.int 1)) M') : zc_X3_readAct [.ref k, .int x] M K :=
  ⟨tp, a, dk, n, h1, h2, h3, h4, h5, h6, h7, h8, h9⟩
theorem zpl.add {M M' : zMm} {dk k : Nat} {acts : List wAc} {t : wAc} (h : zpl M dk acts) (hw : zdW M M' k dk acts.length) (hk : dk + 5 < k) (hl : acts.length < 20) (hok : wacok t) (g1 : M'.2.1 (dk + 1) acts.length = nI (way t)) (g2 : M'.2.1 (dk + 2) acts.length = nI (wak t)) (g3 : M'.2.1 (dk + 3) acts.length = nI (wax t)) (g4 : M'.2.1 (dk + 4) acts.length = nI (wao t)) (g5 : 2 ≤ wak t → M'.2.1 (dk + 5) acts.length = nI (wab t)) : zpl (zwI M' dk 5 (nI (acts.length + 1))) dk (acts ++ [t]) := by
  obtain ⟨h1, h2, h3, h4, h5, h6, h7, h8, h9⟩ := h
  have e : ∀ r, 1 ≤ r → (zwI M' dk 5 (nI (acts.length + 1))).2.1 (dk + r) = M'.2.1 (dk + r) := fun r hr => zw2_n (by omega)
  have eR : (zwI M' dk 5 (nI (acts.length + 1))).2.2.2 = M.2.2.2 := hw.1.R
  refine ⟨h1, by rw [eR]; exact h2, by rw [eR]; exact h3, by rw [eR]; exact h4, by rw [eR]; exact h5, by rw [eR]; exact h6, ?_, by rw [List.length_append, List.length_singleton]; omega, fun i a hi => ?_⟩
  · show zw2 _ _ _ _ _ _ = _
    rw [zw2_s, zup_s, List.length_append, List.length_singleton]
  · rw [e 1 (by decide), e 2 (by decide), e 3 (by decide), e 4 (by decide), e 5 (by decide)]
    by_cases q : i < acts.length
    · rw [List.getElem?_append_left q] at hi
      have ne : i ≠ acts.length := by omega
      rw [hw.2 1 (by decide) (by decide) i ne, hw.2 2 (by decide) (by decide) i ne, hw.2 3 (by decide) (by decide) i ne, hw.2 4 (by decide) (by decide) i ne, hw.2 5 (by decide) (by decide) i ne]
      exact h9 i a hi
    · rw [List.getElem?_append_right (by omega)] at hi
      have q2 : i = acts.length := by
        rcases Nat.lt_or_ge (i - acts.length) 1 with z | z
        · omega
        · rw [List.getElem?_eq_none (by simpa using z)] at hi; cases hi
      subst q2
      simp at hi
      subst hi
      exact ⟨hok, g1, g2, g3, g4, g5⟩
def zc_X3_readPlan (a : List Value) (M : zMm) (K : zKt) : Prop := match a with
  | [.ref k] => ∃ tp dk a, zRd M k tp a 0 ∧ M.2.2.2 k 1 = some dk ∧ (dk = 21 ∨ dk = 27) ∧ (∀ j, j < 5 → M.2.2.2 dk j = some (dk + 1 + j)) ∧
    (∀ f, wrT tp = .inl f → f ≤ tp.length → ∀ M', zsm [k, dk, dk + 1, dk + 2, dk + 3, dk + 4, dk + 5] M M' → K (some (.int (nI f))) M') ∧
    (∀ acts, wrT tp = .inr acts → ∀ M', zsm [k, dk, dk + 1, dk + 2, dk + 3, dk + 4, dk + 5] M M' → zpl M' dk acts → K (some (.int (-1))) M')
  | _ => False
theorem zRd.wt {M : zMm} {k dk : Nat} {x : Int32} {tp : List Nat} {a b : Nat} (h : zRd M k tp a b) (h1 : 5 ≤ dk) (h2 : dk < k) : zRd (zwI M dk 5 x) k tp a b := h.wr (dk := dk) (r := 0) h1 h2
set_option maxHeartbeats 4000000 in
theorem zm_X3_readPlan (l : Launch) (D : va_G) (Y : Nat → ClassId) : zMt l D Y yX3_readPlan cX3_readPlan 2 (some .int) 7 149 0 0 zc_X3_readPlan := by
  refine zwhile1 (h0 := 23) (by decide) (fun K J _ _ => zb_X3_readPlan_0 K J) (fun K _ _ J => zb_X3_readPlan_23 K J) (fun X hR J hJ => zbs_X3_readPlan_0 hR J hJ) (fun X hR J hJ => zbs_X3_readPlan_23 hR J hJ) (fun avs M K h => ?_)
  unfold zc_X3_readPlan at h
  split at h
  · next k =>
    obtain ⟨tp, dk, a0, hRd, r1, hdk, rdk, hF, hT⟩ := h
    have hk := hRd.1
    have hk5 := hRd.2.1
    obtain ⟨p0, -⟩ := zpl_sh hdk
    have hkd : dk + 5 < k := by
      have : 500 ≤ (k : Nat) := hk5
      have : dk + 5 < (k : Nat) := by omega
      exact this
    refine ⟨by simp [zent], fun q M' ls st => ∃ a acts, q = 20 - acts.length ∧ acts.length ≤ 20 ∧ a ≤ tp.length ∧ ls = [some (.ref k), some (.int (nI acts.length))] ∧ st = [] ∧ zsm [k, dk, dk + 1, dk + 2, dk + 3, dk + 4, dk + 5] M M' ∧ zRd M' k tp a (wte tp a) ∧ zpl M' dk acts ∧ wrP tp (20 - acts.length) a acts = wrT tp, ?_, ?_⟩
    · rintro q J hJ M' ls st ⟨a, acts, rfl, hl, ha, rfl, rfl, hs, hR, hpl, hw⟩
      have hga : M'.2.1 k 2 = nI a := hR.2.2.2.2.2.1
      simp only [zb_X3_readPlan_23, hk, hga, zT_push, zT_bin, zT_div, zT_bil, zT_shl, zT_un, zT_i2l, zT_l2i, zT_lcmp, zT_ild, zT_lld, zT_ald, zT_ist, zT_lst, zT_ast, zT_iinc, zT_dup, zT_dup2, zT_pop, zT_if1, zT_if2, zT_ifn, zT_getI, zT_getJ, zT_getR, zT_putI, zT_putZ, zT_putJ, zT_putR, zT_ald0, zT_lald, zT_aald, zT_iast, zT_zast, zT_bast, zT_last, zT_aast, zT_iret, zT_nret, zT_aret, zT_vret, zT_oi, zT_mm, zT_ialX, zT_S1, zT_S2, zT_S3, zT_V0, zT_V1, zT_V2, zT_V3, zT_V4, zT_V5, zT_V6, zT_I0, zT_I1, zT_I2, zlg, zlset, zlpr, zent, zok, va_rf, List.length_cons, List.length_nil, List.replicate, List.cons_append, List.nil_append, List.append_nil, Option.toList_some, Option.toList_none, Option.toList, Nat.reduceAdd, Nat.reduceSub, Nat.reduceLeDiff, Nat.zero_add, Nat.zero_le, true_and, and_true, Nat.le_refl, ge_iff_le, Nat.reduceEqDiff]
      refine ⟨fun h1 => ?_, fun h1 => ?_⟩
      · have := zn_ge' (b := 20) h1 (by omega) (by omega)
        have e : 20 - acts.length = 0 := by omega
        rw [e] at hw
        exact hF a hw.symm ha M' hs
      · have hlt := zn_ge (b := 20) h1 (by omega) (by omega)
        rw [show 20 - acts.length = (20 - (acts.length + 1)) + 1 from by omega] at hw
        unfold wrP at hw
        have rR : M'.2.2.2 = M.2.2.2 := hs.R
        refine act_use hR ha (by rw [rR]; exact r1) hdk (by rw [rR]; exact rdk) rfl hlt (fun f h2 hf M2 w2 h3 => ?_) (fun t a' h2 ha' hok M2 w2 hR2 g1 g2 g3 g4 g5 => ?_)
        · simp only [hk, h3, zT_push, zT_bin, zT_div, zT_bil, zT_shl, zT_un, zT_i2l, zT_l2i, zT_lcmp, zT_ild, zT_lld, zT_ald, zT_ist, zT_lst, zT_ast, zT_iinc, zT_dup, zT_dup2, zT_pop, zT_if1, zT_if2, zT_ifn, zT_getI, zT_getJ, zT_getR, zT_putI, zT_putZ, zT_putJ, zT_putR, zT_ald0, zT_lald, zT_aald, zT_iast, zT_zast, zT_bast, zT_last, zT_aast, zT_iret, zT_nret, zT_aret, zT_vret, zT_oi, zT_mm, zT_ialX, zT_S1, zT_S2, zT_S3, zT_V0, zT_V1, zT_V2, zT_V3, zT_V4, zT_V5, zT_V6, zT_I0, zT_I1, zT_I2, zlg, zlset, zlpr, zent, zok, va_rf, List.length_cons, List.length_nil, List.replicate, List.cons_append, List.nil_append, List.append_nil, Option.toList_some, Option.toList_none, Option.toList, Nat.reduceAdd, Nat.reduceSub, Nat.reduceLeDiff, Nat.zero_add, Nat.zero_le, true_and, and_true, Nat.le_refl, ge_iff_le, Nat.reduceEqDiff]
          refine ⟨fun _ => ?_, fun z => absurd trivial z⟩
          rw [h2] at hw
          exact hF f hw.symm hf M2 (hs.tr (w2.1.up (by simp)))
        · have e2 : M2.2.2.2 = M.2.2.2 := by rw [w2.1.R]; exact rR
          rw [h2] at hw
          dsimp only at hw
          simp only [hk, p0, e2, r1, nI_1, zT_push, zT_bin, zT_div, zT_bil, zT_shl, zT_un, zT_i2l, zT_l2i, zT_lcmp, zT_ild, zT_lld, zT_ald, zT_ist, zT_lst, zT_ast, zT_iinc, zT_dup, zT_dup2, zT_pop, zT_if1, zT_if2, zT_ifn, zT_getI, zT_getJ, zT_getR, zT_putI, zT_putZ, zT_putJ, zT_putR, zT_ald0, zT_lald, zT_aald, zT_iast, zT_zast, zT_bast, zT_last, zT_aast, zT_iret, zT_nret, zT_aret, zT_vret, zT_oi, zT_mm, zT_ialX, zT_S1, zT_S2, zT_S3, zT_V0, zT_V1, zT_V2, zT_V3, zT_V4, zT_V5, zT_V6, zT_I0, zT_I1, zT_I2, zlg, zlset, zlpr, zent, zok, va_rf, List.length_cons, List.length_nil, List.replicate, List.cons_append, List.nil_append, List.append_nil, Option.toList_some, Option.toList_none, Option.toList, Nat.reduceAdd, Nat.reduceSub, Nat.reduceLeDiff, Nat.zero_add, Nat.zero_le, true_and, and_true, Nat.le_refl, ge_iff_le, Nat.reduceEqDiff]
          refine ⟨fun z => absurd z (by decide), fun _ => ?_⟩
          have hpl3 := hpl.add w2 hkd hlt hok g1 g2 g3 g4 g5
          have hs3 : zsm [k, dk, dk + 1, dk + 2, dk + 3, dk + 4, dk + 5] M (zwI M2 dk 5 (nI (acts.length + 1))) := (hs.tr (w2.1.up (by simp))).w (by simp)
          have hR3 := hR2.wt (dk := dk) (x := nI (acts.length + 1)) (by omega) (by omega)
          generalize zwI M2 dk 5 (nI (acts.length + 1)) = M3 at hpl3 hs3 hR3 ⊢
          unfold zc_X3_atEnd
          dsimp only
          refine ⟨tp, a', wte tp a', hR3, ha', ?_⟩
          simp only [zbI_0, hk, zT_push, zT_bin, zT_div, zT_bil, zT_shl, zT_un, zT_i2l, zT_l2i, zT_lcmp, zT_ild, zT_lld, zT_ald, zT_ist, zT_lst, zT_ast, zT_iinc, zT_dup, zT_dup2, zT_pop, zT_if1, zT_if2, zT_ifn, zT_getI, zT_getJ, zT_getR, zT_putI, zT_putZ, zT_putJ, zT_putR, zT_ald0, zT_lald, zT_aald, zT_iast, zT_zast, zT_bast, zT_last, zT_aast, zT_iret, zT_nret, zT_aret, zT_vret, zT_oi, zT_mm, zT_ialX, zT_S1, zT_S2, zT_S3, zT_V0, zT_V1, zT_V2, zT_V3, zT_V4, zT_V5, zT_V6, zT_I0, zT_I1, zT_I2, zlg, zlset, zlpr, zent, zok, va_rf, List.length_cons, List.length_nil, List.replicate, List.cons_append, List.nil_append, List.append_nil, Option.toList_some, Option.toList_none, Option.toList, Nat.reduceAdd, Nat.reduceSub, Nat.reduceLeDiff, Nat.zero_add, Nat.zero_le, true_and, and_true, Nat.le_refl, ge_iff_le, Nat.reduceEqDiff]
          refine ⟨fun h4 => ?_, fun h4 => ?_⟩
          · rw [if_neg h4] at hw
            refine takes_use 7 hR3 ha' (by decide) rfl (fun h5 => ?_) (fun h5 M4 hs4 hR4 q4 => ?_)
            · have hg3 : M3.2.1 k 2 = nI a' := hR3.2.2.2.2.2.1
              simp only [hk, hg3, zT_push, zT_bin, zT_div, zT_bil, zT_shl, zT_un, zT_i2l, zT_l2i, zT_lcmp, zT_ild, zT_lld, zT_ald, zT_ist, zT_lst, zT_ast, zT_iinc, zT_dup, zT_dup2, zT_pop, zT_if1, zT_if2, zT_ifn, zT_getI, zT_getJ, zT_getR, zT_putI, zT_putZ, zT_putJ, zT_putR, zT_ald0, zT_lald, zT_aald, zT_iast, zT_zast, zT_bast, zT_last, zT_aast, zT_iret, zT_nret, zT_aret, zT_vret, zT_oi, zT_mm, zT_ialX, zT_S1, zT_S2, zT_S3, zT_V0, zT_V1, zT_V2, zT_V3, zT_V4, zT_V5, zT_V6, zT_I0, zT_I1, zT_I2, zlg, zlset, zlpr, zent, zok, va_rf, List.length_cons, List.length_nil, List.replicate, List.cons_append, List.nil_append, List.append_nil, Option.toList_some, Option.toList_none, Option.toList, Nat.reduceAdd, Nat.reduceSub, Nat.reduceLeDiff, Nat.zero_add, Nat.zero_le, true_and, and_true, Nat.le_refl, ge_iff_le, Nat.reduceEqDiff]
              refine ⟨fun _ => ?_, fun z => absurd trivial z⟩
              rw [if_neg (by rw [h5]; decide)] at hw
              exact hF a' hw.symm ha' M3 hs3
            · rw [if_pos h5] at hw
              simp only [zT_push, zT_bin, zT_div, zT_bil, zT_shl, zT_un, zT_i2l, zT_l2i, zT_lcmp, zT_ild, zT_lld, zT_ald, zT_ist, zT_lst, zT_ast, zT_iinc, zT_dup, zT_dup2, zT_pop, zT_if1, zT_if2, zT_ifn, zT_getI, zT_getJ, zT_getR, zT_putI, zT_putZ, zT_putJ, zT_putR, zT_ald0, zT_lald, zT_aald, zT_iast, zT_zast, zT_bast, zT_last, zT_aast, zT_iret, zT_nret, zT_aret, zT_vret, zT_oi, zT_mm, zT_ialX, zT_S1, zT_S2, zT_S3, zT_V0, zT_V1, zT_V2, zT_V3, zT_V4, zT_V5, zT_V6, zT_I0, zT_I1, zT_I2, zlg, zlset, zlpr, zent, zok, va_rf, List.length_cons, List.length_nil, List.replicate, List.cons_append, List.nil_append, List.append_nil, Option.toList_some, Option.toList_none, Option.toList, Nat.reduceAdd, Nat.reduceSub, Nat.reduceLeDiff, Nat.zero_add, Nat.zero_le, true_and, and_true, Nat.le_refl, ge_iff_le, Nat.reduceEqDiff]
              refine ⟨fun z => absurd z (by decide), fun _ => ?_⟩
              have hs5 := hs3.tr (hs4.up (ks' := [k, dk, dk + 1, dk + 2, dk + 3, dk + 4, dk + 5]) (by simp))
              have hpl4 : zpl M4 dk (acts ++ [t]) := by
                obtain ⟨z1, z2⟩ := hpl3
                have e : ∀ r, r ≤ 5 → M4.2.1 (dk + r) = M3.2.1 (dk + r) := fun r hr => hs4.at (by
                  simp only [List.mem_singleton]
                  exact Nat.ne_of_lt (by have : dk + 5 < (k : Nat) := hkd
                                         have : dk + r < (k : Nat) := by omega
                                         exact this))
                have e0 : M4.2.1 dk = M3.2.1 dk := e 0 (by decide)
                refine ⟨z1, ?_⟩
                rw [hs4.R, e0, e 1 (by decide), e 2 (by decide), e 3 (by decide), e 4 (by decide), e 5 (by decide)]
                exact z2
              refine hJ (20 - (acts ++ [t]).length) _ _ _ (by rw [List.length_append, List.length_singleton]; omega) ⟨wno tp a', acts ++ [t], rfl, by rw [List.length_append, List.length_singleton]; omega, wno_bd ha', ?_, rfl, hs5, hR4, hpl4, ?_⟩
              · rw [List.length_append, List.length_singleton]
              · rw [List.length_append, List.length_singleton]; exact hw
          · rw [if_pos (Classical.not_not.mp h4)] at hw
            exact hT (acts ++ [t]) hw.symm M3 hs3 hpl3
    · intro J hJ
      simp only [zb_X3_readPlan_0, hk, p0, r1, zT_push, zT_bin, zT_div, zT_bil, zT_shl, zT_un, zT_i2l, zT_l2i, zT_lcmp, zT_ild, zT_lld, zT_ald, zT_ist, zT_lst, zT_ast, zT_iinc, zT_dup, zT_dup2, zT_pop, zT_if1, zT_if2, zT_ifn, zT_getI, zT_getJ, zT_getR, zT_putI, zT_putZ, zT_putJ, zT_putR, zT_ald0, zT_lald, zT_aald, zT_iast, zT_zast, zT_bast, zT_last, zT_aast, zT_iret, zT_nret, zT_aret, zT_vret, zT_oi, zT_mm, zT_ialX, zT_S1, zT_S2, zT_S3, zT_V0, zT_V1, zT_V2, zT_V3, zT_V4, zT_V5, zT_V6, zT_I0, zT_I1, zT_I2, zlg, zlset, zlpr, zent, zok, va_rf, List.length_cons, List.length_nil, List.replicate, List.cons_append, List.nil_append, List.append_nil, Option.toList_some, Option.toList_none, Option.toList, Nat.reduceAdd, Nat.reduceSub, Nat.reduceLeDiff, Nat.zero_add, Nat.zero_le, true_and, and_true, Nat.le_refl, ge_iff_le, Nat.reduceEqDiff]
      have hs1 : zsm [k, dk, dk + 1, dk + 2, dk + 3, dk + 4, dk + 5] M (zwI M dk 5 0) := zsm.rf.w (by simp)
      have hR1 := hRd.wt (dk := dk) (x := 0) (by omega) (by omega)
      have hpl1 : zpl (zwI M dk 5 0) dk [] := by
        refine ⟨hdk, rdk 0 (by decide), rdk 1 (by decide), rdk 2 (by decide), rdk 3 (by decide), rdk 4 (by decide), ?_, by decide, fun i a hi => by simp at hi⟩
        show zw2 _ _ _ _ _ _ = _
        rw [zw2_s, zup_s]; rfl
      unfold zc_X3_step
      dsimp only
      refine ⟨tp, a0, 0, hR1, Nat.zero_le _, fun M2 hs2 hR2 h4 => ?_⟩
      have hs3 := hs1.tr (hs2.up (ks' := [k, dk, dk + 1, dk + 2, dk + 3, dk + 4, dk + 5]) (by simp))
      have hsk := (wsk_bd (Nat.zero_le tp.length)).2
      have hpl2 : zpl M2 dk [] := by
        obtain ⟨z1, z2⟩ := hpl1
        have e : ∀ r, r ≤ 5 → M2.2.1 (dk + r) = (zwI M dk 5 0).2.1 (dk + r) := fun r hr => hs2.at (by
          simp only [List.mem_singleton]
          exact Nat.ne_of_lt (by have : dk + 5 < (k : Nat) := hkd
                                 have : dk + r < (k : Nat) := by omega
                                 exact this))
        have e0 : M2.2.1 dk = (zwI M dk 5 0).2.1 dk := e 0 (by decide)
        refine ⟨z1, ?_⟩
        rw [hs2.R, e0, e 1 (by decide), e 2 (by decide), e 3 (by decide), e 4 (by decide), e 5 (by decide)]
        exact z2
      simp only [hk, zT_push, zT_bin, zT_div, zT_bil, zT_shl, zT_un, zT_i2l, zT_l2i, zT_lcmp, zT_ild, zT_lld, zT_ald, zT_ist, zT_lst, zT_ast, zT_iinc, zT_dup, zT_dup2, zT_pop, zT_if1, zT_if2, zT_ifn, zT_getI, zT_getJ, zT_getR, zT_putI, zT_putZ, zT_putJ, zT_putR, zT_ald0, zT_lald, zT_aald, zT_iast, zT_zast, zT_bast, zT_last, zT_aast, zT_iret, zT_nret, zT_aret, zT_vret, zT_oi, zT_mm, zT_ialX, zT_S1, zT_S2, zT_S3, zT_V0, zT_V1, zT_V2, zT_V3, zT_V4, zT_V5, zT_V6, zT_I0, zT_I1, zT_I2, zlg, zlset, zlpr, zent, zok, va_rf, List.length_cons, List.length_nil, List.replicate, List.cons_append, List.nil_append, List.append_nil, Option.toList_some, Option.toList_none, Option.toList, Nat.reduceAdd, Nat.reduceSub, Nat.reduceLeDiff, Nat.zero_add, Nat.zero_le, true_and, and_true, Nat.le_refl, ge_iff_le, Nat.reduceEqDiff]
      unfold zc_X3_atEnd
      dsimp only
      refine ⟨tp, _, _, hR2, hsk, ?_⟩
      simp only [zbI_0, zT_push, zT_bin, zT_div, zT_bil, zT_shl, zT_un, zT_i2l, zT_l2i, zT_lcmp, zT_ild, zT_lld, zT_ald, zT_ist, zT_lst, zT_ast, zT_iinc, zT_dup, zT_dup2, zT_pop, zT_if1, zT_if2, zT_ifn, zT_getI, zT_getJ, zT_getR, zT_putI, zT_putZ, zT_putJ, zT_putR, zT_ald0, zT_lald, zT_aald, zT_iast, zT_zast, zT_bast, zT_last, zT_aast, zT_iret, zT_nret, zT_aret, zT_vret, zT_oi, zT_mm, zT_ialX, zT_S1, zT_S2, zT_S3, zT_V0, zT_V1, zT_V2, zT_V3, zT_V4, zT_V5, zT_V6, zT_I0, zT_I1, zT_I2, zlg, zlset, zlpr, zent, zok, va_rf, List.length_cons, List.length_nil, List.replicate, List.cons_append, List.nil_append, List.append_nil, Option.toList_some, Option.toList_none, Option.toList, Nat.reduceAdd, Nat.reduceSub, Nat.reduceLeDiff, Nat.zero_add, Nat.zero_le, true_and, and_true, Nat.le_refl, ge_iff_le, Nat.reduceEqDiff]
      refine ⟨fun h5 => ?_, fun h5 => ?_⟩
      · refine hJ 20 _ _ _ ⟨wsk tp 0, [], rfl, by decide, hsk, rfl, rfl, hs3, hR2, hpl2, ?_⟩
        unfold wrT
        rw [if_neg (show ¬ tp.length ≤ wsk tp 0 from h5)]
        rfl
      · refine hT [] ?_ M2 hs3 hpl2
        unfold wrT
        rw [if_pos (show tp.length ≤ wsk tp 0 from Classical.not_not.mp h5)]
  · exact h.elim
