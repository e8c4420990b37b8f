/-! DeltaRuns <init> -/
theorem zd_X7_init_0 : decode cX7_init 0 = .ok (.aload_n 0, 1) := by decide +kernel
theorem zd_X7_init_1 : decode cX7_init 1 = .ok (.invokespecial 1, 3) := by decide +kernel
theorem zd_X7_init_4 : decode cX7_init 4 = .ok (.aload_n 0, 1) := by decide +kernel
theorem zd_X7_init_5 : decode cX7_init 5 = .ok (.new 7, 3) := by decide +kernel
theorem zd_X7_init_8 : decode cX7_init 8 = .ok (.dup, 1) := by decide +kernel
theorem zd_X7_init_9 : decode cX7_init 9 = .ok (.invokespecial 9, 3) := by decide +kernel
theorem zd_X7_init_12 : decode cX7_init 12 = .ok (.putfield 10, 3) := by decide +kernel
theorem zd_X7_init_15 : decode cX7_init 15 = .ok (.aload_n 0, 1) := by decide +kernel
theorem zd_X7_init_16 : decode cX7_init 16 = .ok (.new 16, 3) := by decide +kernel
theorem zd_X7_init_19 : decode cX7_init 19 = .ok (.dup, 1) := by decide +kernel
theorem zd_X7_init_20 : decode cX7_init 20 = .ok (.invokespecial 18, 3) := by decide +kernel
theorem zd_X7_init_23 : decode cX7_init 23 = .ok (.putfield 19, 3) := by decide +kernel
theorem zd_X7_init_26 : decode cX7_init 26 = .ok (.aload_n 0, 1) := by decide +kernel
theorem zd_X7_init_27 : decode cX7_init 27 = .ok (.new 23, 3) := by decide +kernel
theorem zd_X7_init_30 : decode cX7_init 30 = .ok (.dup, 1) := by decide +kernel
theorem zd_X7_init_31 : decode cX7_init 31 = .ok (.invokespecial 25, 3) := by decide +kernel
theorem zd_X7_init_34 : decode cX7_init 34 = .ok (.putfield 26, 3) := by decide +kernel
theorem zd_X7_init_37 : decode cX7_init 37 = .ok (.aload_n 0, 1) := by decide +kernel
theorem zd_X7_init_38 : decode cX7_init 38 = .ok (.new 30, 3) := by decide +kernel
theorem zd_X7_init_41 : decode cX7_init 41 = .ok (.dup, 1) := by decide +kernel
theorem zd_X7_init_42 : decode cX7_init 42 = .ok (.invokespecial 32, 3) := by decide +kernel
theorem zd_X7_init_45 : decode cX7_init 45 = .ok (.putfield 33, 3) := by decide +kernel
theorem zd_X7_init_48 : decode cX7_init 48 = .ok (.aload_n 0, 1) := by decide +kernel
theorem zd_X7_init_49 : decode cX7_init 49 = .ok (.bipush 36, 2) := by decide +kernel
theorem zd_X7_init_51 : decode cX7_init 51 = .ok (.anewarray 37, 3) := by decide +kernel
theorem zd_X7_init_54 : decode cX7_init 54 = .ok (.putfield 39, 3) := by decide +kernel
theorem zd_X7_init_57 : decode cX7_init 57 = .ok (.aload_n 0, 1) := by decide +kernel
theorem zd_X7_init_58 : decode cX7_init 58 = .ok (.new 43, 3) := by decide +kernel
theorem zd_X7_init_61 : decode cX7_init 61 = .ok (.dup, 1) := by decide +kernel
theorem zd_X7_init_62 : decode cX7_init 62 = .ok (.invokespecial 45, 3) := by decide +kernel
theorem zd_X7_init_65 : decode cX7_init 65 = .ok (.putfield 46, 3) := by decide +kernel
theorem zd_X7_init_68 : decode cX7_init 68 = .ok (.aload_n 0, 1) := by decide +kernel
theorem zd_X7_init_69 : decode cX7_init 69 = .ok (.new 43, 3) := by decide +kernel
theorem zd_X7_init_72 : decode cX7_init 72 = .ok (.dup, 1) := by decide +kernel
theorem zd_X7_init_73 : decode cX7_init 73 = .ok (.invokespecial 45, 3) := by decide +kernel
theorem zd_X7_init_76 : decode cX7_init 76 = .ok (.putfield 50, 3) := by decide +kernel
theorem zd_X7_init_79 : decode cX7_init 79 = .ok (.aload_n 0, 1) := by decide +kernel
theorem zd_X7_init_80 : decode cX7_init 80 = .ok (.iconst (-1), 1) := by decide +kernel
theorem zd_X7_init_81 : decode cX7_init 81 = .ok (.putfield 53, 3) := by decide +kernel
theorem zd_X7_init_84 : decode cX7_init 84 = .ok (.aload_n 0, 1) := by decide +kernel
theorem zd_X7_init_85 : decode cX7_init 85 = .ok (.iconst 0, 1) := by decide +kernel
theorem zd_X7_init_86 : decode cX7_init 86 = .ok (.putfield 57, 3) := by decide +kernel
theorem zd_X7_init_89 : decode cX7_init 89 = .ok (.return_, 1) := by decide +kernel
def zb_X7_init_0 (K : zKt) (J : Nat → zPP) (lc lz : Nat) : zPP := zT_ald 0 (zT_oi (zT_ald 0 (zT_new 1 6 lc lz (zT_dup (zT_I0 (zlm 1 120 lc lz) zc_X1_init (zT_putR 7 0 9 (zT_ald 0 (zT_new 4 2 lc lz (zT_dup (zT_I0 (zlm 1 300 lc lz) zc_X4_init (zT_putR 7 1 9 (zT_ald 0 (zT_new 0 5 lc lz (zT_dup (zT_I0 (zlm 4 800 lc lz) zc_X0_init (zT_putR 7 2 9 (zT_ald 0 (zT_new 5 11 lc lz (zT_dup (zT_I0 (zlm 9 736 lc lz) zc_X5_init (zT_putR 7 3 9 (zT_ald 0 (zT_push (.int 36) (zT_newa 4 lc lz (zT_putR 7 4 9 (zT_ald 0 (zT_new 2 6 lc lz (zT_dup (zT_I0 (zlm 5 100 lc lz) zc_X2_init (zT_putR 7 5 9 (zT_ald 0 (zT_new 2 6 lc lz (zT_dup (zT_I0 (zlm 5 100 lc lz) zc_X2_init (zT_putR 7 6 9 (zT_ald 0 (zT_push (.int (-1)) (zT_putI 7 7 9 (zT_ald 0 (zT_push (.int 0) (zT_putI 7 8 9 (zT_vret K))))))))))))))))))))))))))))))))))))))))))
theorem zbs_X7_init_0 {X : zCt} (hR : zRX X = { frames := 2, cells := 35, slots := 2500, locals := 43 }) (J : Nat → zPP) (hJ : ∀ h ∈ ([] : List Nat), zSd X RX7 "<init>" cX7_init 1 none h (J h)) : zSd X RX7 "<init>" cX7_init 1 none 0 (zb_X7_init_0 (zKX X) J (zlc X) (zls X)) := zs_aload_n zd_X7_init_0 rfl (zs_oi gw_1_20 gw_1_21 gw_1_22 (zrm1 hR (by decide) (by decide)) zd_X7_init_1 (zs_aload_n zd_X7_init_4 rfl (zs_new (ci := 1) (T := TX1) rfl inX1 tyX1_ok gw_1_23 gw_1_24 gw_1_2 (by decide) rfl rfl zd_X7_init_5 (zs_dup zd_X7_init_8 (zs_I rfl (zm_X1_init _ _ _) gw_1_27 gw_1_25 gw_1_26 gw_1_2 zdn_X1_init (zrm hR (by decide) (by decide)) zd_X7_init_9 (zCl_I0 zlm_l) (zs_putR (ci := 7) (j := 0) (T := TX7) rfl inX7 tyX7_ok nmX7 (by decide) gw_1_185 (Or.inr ⟨rfl, rfl, rfl⟩) (fun _ => ⟨rfl, rfl⟩) rfl zd_X7_init_12 (zs_aload_n zd_X7_init_15 rfl (zs_new (ci := 4) (T := TX4) rfl inX4 tyX4_ok gw_1_61 gw_1_62 gw_1_3 (by decide) rfl rfl zd_X7_init_16 (zs_dup zd_X7_init_19 (zs_IN rfl (zm_X4_init _ _ _) gw_1_65 (List.mem_of_getElem? (i := 0) rfl) gw_1_64 gw_1_3 zdn_X4_init (zrm hR (by decide) (by decide)) zd_X7_init_20 (zCl_I0 zlm_l) (zs_putR (ci := 7) (j := 1) (T := TX7) rfl inX7 tyX7_ok nmX7 (by decide) gw_1_186 (Or.inr ⟨rfl, rfl, rfl⟩) (fun _ => ⟨rfl, rfl⟩) rfl zd_X7_init_23 (zs_aload_n zd_X7_init_26 rfl (zs_new (ci := 0) (T := TX0) rfl inX0 tyX0_ok gw_1_78 gw_1_79 gw_1_4 (by decide) rfl rfl zd_X7_init_27 (zs_dup zd_X7_init_30 (zs_IN rfl (zm_X0_init _ _ _) gw_1_82 (List.mem_of_getElem? (i := 1) rfl) gw_1_81 gw_1_4 zdn_X0_init (zrm hR (by decide) (by decide)) zd_X7_init_31 (zCl_I0 zlm_l) (zs_putR (ci := 7) (j := 2) (T := TX7) rfl inX7 tyX7_ok nmX7 (by decide) gw_1_187 (Or.inr ⟨rfl, rfl, rfl⟩) (fun _ => ⟨rfl, rfl⟩) rfl zd_X7_init_34 (zs_aload_n zd_X7_init_37 rfl (zs_new (ci := 5) (T := TX5) rfl inX5 tyX5_ok gw_1_105 gw_1_106 gw_1_5 (by decide) rfl rfl zd_X7_init_38 (zs_dup zd_X7_init_41 (zs_IN rfl (zm_X5_init _ _ _) gw_1_109 (List.mem_of_getElem? (i := 2) rfl) gw_1_108 gw_1_5 zdn_X5_init (zrm hR (by decide) (by decide)) zd_X7_init_42 (zCl_I0 zlm_l) (zs_putR (ci := 7) (j := 3) (T := TX7) rfl inX7 tyX7_ok nmX7 (by decide) gw_1_188 (Or.inr ⟨rfl, rfl, rfl⟩) (fun _ => ⟨rfl, rfl⟩) rfl zd_X7_init_45 (zs_aload_n zd_X7_init_48 rfl (zs_bipush zd_X7_init_49 (by decide) (zs_newq gw_1_151 rfl rfl zd_X7_init_51 (zs_putR (ci := 7) (j := 4) (T := TX7) rfl inX7 tyX7_ok nmX7 (by decide) gw_1_189 (Or.inr ⟨rfl, rfl, rfl⟩) (fun _ => ⟨rfl, rfl⟩) rfl zd_X7_init_54 (zs_aload_n zd_X7_init_57 rfl (zs_new (ci := 2) (T := TX2) rfl inX2 tyX2_ok gw_1_153 gw_1_154 gw_1_6 (by decide) rfl rfl zd_X7_init_58 (zs_dup zd_X7_init_61 (zs_IN rfl (zm_X2_init _ _ _) gw_1_157 (List.mem_of_getElem? (i := 3) rfl) gw_1_156 gw_1_6 zdn_X2_init (zrm hR (by decide) (by decide)) zd_X7_init_62 (zCl_I0 zlm_l) (zs_putR (ci := 7) (j := 5) (T := TX7) rfl inX7 tyX7_ok nmX7 (by decide) gw_1_190 (Or.inl rfl) (fun _ => ⟨rfl, rfl⟩) rfl zd_X7_init_65 (zs_aload_n zd_X7_init_68 rfl (zs_new (ci := 2) (T := TX2) rfl inX2 tyX2_ok gw_1_153 gw_1_154 gw_1_6 (by decide) rfl rfl zd_X7_init_69 (zs_dup zd_X7_init_72 (zs_IN rfl (zm_X2_init _ _ _) gw_1_157 (List.mem_of_getElem? (i := 3) rfl) gw_1_156 gw_1_6 zdn_X2_init (zrm hR (by decide) (by decide)) zd_X7_init_73 (zCl_I0 zlm_l) (zs_putR (ci := 7) (j := 6) (T := TX7) rfl inX7 tyX7_ok nmX7 (by decide) gw_1_191 (Or.inl rfl) (fun _ => ⟨rfl, rfl⟩) rfl zd_X7_init_76 (zs_aload_n zd_X7_init_79 rfl (zs_iconst zd_X7_init_80 (by decide) (zs_putI (ci := 7) (j := 7) (T := TX7) rfl inX7 tyX7_ok nmX7 (by decide) gw_1_192 rfl rfl rfl zd_X7_init_81 (zs_aload_n zd_X7_init_84 rfl (zs_iconst zd_X7_init_85 (by decide) (zs_putI (ci := 7) (j := 8) (T := TX7) rfl inX7 tyX7_ok nmX7 (by decide) gw_1_193 rfl rfl rfl zd_X7_init_86 (zs_vret rfl zd_X7_init_89))))))))))))))))))))))))))))))))))))))))))
theorem zdn_X7_init : yX7_init.cls ≠ "java/lang/invoke/MethodHandle" ∧ yX7_init.cls ≠ "java/lang/invoke/VarHandle" ∧ (parseMethodDescriptor yX7_init.desc).map (fun d => d.parameters.length) = some 0 := by decide +kernel
def zM0 : zMm := ([0], fun _ _ => 0, fun _ _ => 0, fun _ _ => none)
def wF0 : wFS := ((6, 6, 40, 0, 64, fun _ => 50, []), [], [], -1, 0)
def zc_X7_init (a : List Value) (M : zMm) (K : zKt) : Prop := match a with
  | [.ref k] => k = 0 ∧ M = zM0 ∧ ∀ M', zXF M' wF0 21 27 0 → K none M'
  | _ => False
set_option maxHeartbeats 4000000 in
theorem zm_X7_init (l : Launch) (D : va_G) (Y : Nat → ClassId) : zMt l D Y yX7_init cX7_init 1 none 2 43 35 2500 zc_X7_init := by
  refine zflat (by decide) (fun K J lc lz => zb_X7_init_0 K J lc lz) (fun X hR => zbs_X7_init_0 hR zJ0 zJ0_ok) (fun avs M K h => ?_)
  unfold zc_X7_init at h
  split at h
  · obtain ⟨rfl, rfl, h⟩ := h
    refine ⟨by simp [zent], ?_⟩
    simp only [zb_X7_init_0, zT_newa, zT_new, zsh_0, zT_push, zT_bin, zT_div, zT_bil, zT_shl, zT_un, zT_i2l, zT_l2i, zT_lcmp, zT_ild, zT_lld, zT_ald, zT_ist, zT_lst, zT_ast, zT_iinc, zT_dup, zT_dup2, zT_pop, zT_if1, zT_if2, zT_ifn, zT_getI, zT_getJ, zT_getR, zT_putI, zT_putZ, zT_putJ, zT_putR, zT_ald0, zT_lald, zT_aald, zT_iast, zT_zast, zT_bast, zT_last, zT_aast, zT_iret, zT_nret, zT_aret, zT_vret, zT_oi, zT_mm, zT_ialX, zT_S1, zT_S2, zT_S3, zT_V0, zT_V1, zT_V2, zT_V3, zT_V4, zT_V5, zT_V6, zT_I0, zT_I1, zT_I2, zlg, zlset, zlpr, zent, zok, va_rf, List.length_cons, List.length_nil, List.replicate, List.cons_append, List.nil_append, List.append_nil, Option.toList_some, Option.toList_none, Option.toList, Nat.reduceAdd, Nat.reduceSub, Nat.reduceLeDiff, Nat.zero_add, Nat.zero_le, true_and, and_true, Nat.le_refl, ge_iff_le, Nat.reduceEqDiff]
    trace_state
    sorry
  · exact h.elim
