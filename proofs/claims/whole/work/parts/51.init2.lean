/-! DeltaRuns <init> -/
theorem zd_X7_init_0 : decode cX7_init 0 = .ok (.aload_n 0, 1) := by decide +kernel
theorem zd_X7_init_1 : decode cX7_init 1 = .ok (.invokespecial 1, 3) := by decide +kernel
theorem zd_X7_init_4 : decode cX7_init 4 = .ok (.aload_n 0, 1) := by decide +kernel
theorem zd_X7_init_5 : decode cX7_init 5 = .ok (.new 7, 3) := by decide +kernel
theorem zd_X7_init_8 : decode cX7_init 8 = .ok (.dup, 1) := by decide +kernel
theorem zd_X7_init_9 : decode cX7_init 9 = .ok (.invokespecial 9, 3) := by decide +kernel
theorem zd_X7_init_12 : decode cX7_init 12 = .ok (.putfield 10, 3) := by decide +kernel
theorem zd_X7_init_15 : decode cX7_init 15 = .ok (.aload_n 0, 1) := by decide +kernel
theorem zd_X7_init_16 : decode cX7_init 16 = .ok (.new 16, 3) := by decide +kernel
theorem zd_X7_init_19 : decode cX7_init 19 = .ok (.dup, 1) := by decide +kernel
theorem zd_X7_init_20 : decode cX7_init 20 = .ok (.invokespecial 18, 3) := by decide +kernel
theorem zd_X7_init_23 : decode cX7_init 23 = .ok (.putfield 19, 3) := by decide +kernel
theorem zd_X7_init_26 : decode cX7_init 26 = .ok (.aload_n 0, 1) := by decide +kernel
theorem zd_X7_init_27 : decode cX7_init 27 = .ok (.new 23, 3) := by decide +kernel
theorem zd_X7_init_30 : decode cX7_init 30 = .ok (.dup, 1) := by decide +kernel
theorem zd_X7_init_31 : decode cX7_init 31 = .ok (.invokespecial 25, 3) := by decide +kernel
theorem zd_X7_init_34 : decode cX7_init 34 = .ok (.putfield 26, 3) := by decide +kernel
theorem zd_X7_init_37 : decode cX7_init 37 = .ok (.aload_n 0, 1) := by decide +kernel
theorem zd_X7_init_38 : decode cX7_init 38 = .ok (.new 30, 3) := by decide +kernel
theorem zd_X7_init_41 : decode cX7_init 41 = .ok (.dup, 1) := by decide +kernel
theorem zd_X7_init_42 : decode cX7_init 42 = .ok (.invokespecial 32, 3) := by decide +kernel
theorem zd_X7_init_45 : decode cX7_init 45 = .ok (.putfield 33, 3) := by decide +kernel
theorem zd_X7_init_48 : decode cX7_init 48 = .ok (.aload_n 0, 1) := by decide +kernel
theorem zd_X7_init_49 : decode cX7_init 49 = .ok (.bipush 36, 2) := by decide +kernel
theorem zd_X7_init_51 : decode cX7_init 51 = .ok (.anewarray 37, 3) := by decide +kernel
theorem zd_X7_init_54 : decode cX7_init 54 = .ok (.putfield 39, 3) := by decide +kernel
theorem zd_X7_init_57 : decode cX7_init 57 = .ok (.aload_n 0, 1) := by decide +kernel
theorem zd_X7_init_58 : decode cX7_init 58 = .ok (.new 43, 3) := by decide +kernel
theorem zd_X7_init_61 : decode cX7_init 61 = .ok (.dup, 1) := by decide +kernel
theorem zd_X7_init_62 : decode cX7_init 62 = .ok (.invokespecial 45, 3) := by decide +kernel
theorem zd_X7_init_65 : decode cX7_init 65 = .ok (.putfield 46, 3) := by decide +kernel
theorem zd_X7_init_68 : decode cX7_init 68 = .ok (.aload_n 0, 1) := by decide +kernel
theorem zd_X7_init_69 : decode cX7_init 69 = .ok (.new 43, 3) := by decide +kernel
theorem zd_X7_init_72 : decode cX7_init 72 = .ok (.dup, 1) := by decide +kernel
theorem zd_X7_init_73 : decode cX7_init 73 = .ok (.invokespecial 45, 3) := by decide +kernel
theorem zd_X7_init_76 : decode cX7_init 76 = .ok (.putfield 50, 3) := by decide +kernel
theorem zd_X7_init_79 : decode cX7_init 79 = .ok (.aload_n 0, 1) := by decide +kernel
theorem zd_X7_init_80 : decode cX7_init 80 = .ok (.iconst (-1), 1) := by decide +kernel
theorem zd_X7_init_81 : decode cX7_init 81 = .ok (.putfield 53, 3) := by decide +kernel
theorem zd_X7_init_84 : decode cX7_init 84 = .ok (.aload_n 0, 1) := by decide +kernel
theorem zd_X7_init_85 : decode cX7_init 85 = .ok (.iconst 0, 1) := by decide +kernel
theorem zd_X7_init_86 : decode cX7_init 86 = .ok (.putfield 57, 3) := by decide +kernel
theorem zd_X7_init_89 : decode cX7_init 89 = .ok (.return_, 1) := by decide +kernel
def zb_X7_init_0 (K : zKt) (J : Nat → zPP) (lc lz : Nat) : zPP := zT_ald 0 (zT_oi (zT_ald 0 (zT_new 1 6 lc lz (zT_dup (zT_I0 (zlm 1 120 lc lz) zc_X1_init (zT_putR 7 0 9 (zT_ald 0 (zT_new 4 2 lc lz (zT_dup (zT_I0 (zlm 1 300 lc lz) zc_X4_init (zT_putR 7 1 9 (zT_ald 0 (zT_new 0 5 lc lz (zT_dup (zT_I0 (zlm 4 800 lc lz) zc_X0_init (zT_putR 7 2 9 (zT_ald 0 (zT_new 5 11 lc lz (zT_dup (zT_I0 (zlm 9 736 lc lz) zc_X5_init (zT_putR 7 3 9 (zT_ald 0 (zT_push (.int 36) (zT_newa 4 lc lz (zT_putR 7 4 9 (zT_ald 0 (zT_new 2 6 lc lz (zT_dup (zT_I0 (zlm 5 100 lc lz) zc_X2_init (zT_putR 7 5 9 (zT_ald 0 (zT_new 2 6 lc lz (zT_dup (zT_I0 (zlm 5 100 lc lz) zc_X2_init (zT_putR 7 6 9 (zT_ald 0 (zT_push (.int (-1)) (zT_putI 7 7 9 (zT_ald 0 (zT_push (.int 0) (zT_putI 7 8 9 (zT_vret K))))))))))))))))))))))))))))))))))))))))))
theorem zbs_X7_init_0 {X : zCt} (hR : zRX X = { frames := 2, cells := 35, slots := 2500, locals := 43 }) (J : Nat → zPP) (hJ : ∀ h ∈ ([] : List Nat), zSd X RX7 "<init>" cX7_init 1 none h (J h)) : zSd X RX7 "<init>" cX7_init 1 none 0 (zb_X7_init_0 (zKX X) J (zlc X) (zls X)) := zs_aload_n zd_X7_init_0 rfl (zs_oi gw_1_20 gw_1_21 gw_1_22 (zrm1 hR (by decide) (by decide)) zd_X7_init_1 (zs_aload_n zd_X7_init_4 rfl (zs_new (ci := 1) (T := TX1) rfl inX1 tyX1_ok gw_1_23 gw_1_24 gw_1_2 (by decide) rfl rfl zd_X7_init_5 (zs_dup zd_X7_init_8 (zs_I rfl (zm_X1_init _ _ _) gw_1_27 gw_1_25 gw_1_26 gw_1_2 zdn_X1_init (zrm hR (by decide) (by decide)) zd_X7_init_9 (zCl_I0 zlm_l) (zs_putR (ci := 7) (j := 0) (T := TX7) rfl inX7 tyX7_ok nmX7 (by decide) gw_1_185 (Or.inr ⟨rfl, rfl, rfl⟩) (fun _ => ⟨rfl, rfl⟩) rfl zd_X7_init_12 (zs_aload_n zd_X7_init_15 rfl (zs_new (ci := 4) (T := TX4) rfl inX4 tyX4_ok gw_1_61 gw_1_62 gw_1_3 (by decide) rfl rfl zd_X7_init_16 (zs_dup zd_X7_init_19 (zs_IN rfl (zm_X4_init _ _ _) gw_1_65 (List.mem_of_getElem? (i := 0) rfl) gw_1_64 gw_1_3 zdn_X4_init (zrm hR (by decide) (by decide)) zd_X7_init_20 (zCl_I0 zlm_l) (zs_putR (ci := 7) (j := 1) (T := TX7) rfl inX7 tyX7_ok nmX7 (by decide) gw_1_186 (Or.inr ⟨rfl, rfl, rfl⟩) (fun _ => ⟨rfl, rfl⟩) rfl zd_X7_init_23 (zs_aload_n zd_X7_init_26 rfl (zs_new (ci := 0) (T := TX0) rfl inX0 tyX0_ok gw_1_78 gw_1_79 gw_1_4 (by decide) rfl rfl zd_X7_init_27 (zs_dup zd_X7_init_30 (zs_IN rfl (zm_X0_init _ _ _) gw_1_82 (List.mem_of_getElem? (i := 1) rfl) gw_1_81 gw_1_4 zdn_X0_init (zrm hR (by decide) (by decide)) zd_X7_init_31 (zCl_I0 zlm_l) (zs_putR (ci := 7) (j := 2) (T := TX7) rfl inX7 tyX7_ok nmX7 (by decide) gw_1_187 (Or.inr ⟨rfl, rfl, rfl⟩) (fun _ => ⟨rfl, rfl⟩) rfl zd_X7_init_34 (zs_aload_n zd_X7_init_37 rfl (zs_new (ci := 5) (T := TX5) rfl inX5 tyX5_ok gw_1_105 gw_1_106 gw_1_5 (by decide) rfl rfl zd_X7_init_38 (zs_dup zd_X7_init_41 (zs_IN rfl (zm_X5_init _ _ _) gw_1_109 (List.mem_of_getElem? (i := 2) rfl) gw_1_108 gw_1_5 zdn_X5_init (zrm hR (by decide) (by decide)) zd_X7_init_42 (zCl_I0 zlm_l) (zs_putR (ci := 7) (j := 3) (T := TX7) rfl inX7 tyX7_ok nmX7 (by decide) gw_1_188 (Or.inr ⟨rfl, rfl, rfl⟩) (fun _ => ⟨rfl, rfl⟩) rfl zd_X7_init_45 (zs_aload_n zd_X7_init_48 rfl (zs_bipush zd_X7_init_49 (by decide) (zs_newq gw_1_151 rfl rfl zd_X7_init_51 (zs_putR (ci := 7) (j := 4) (T := TX7) rfl inX7 tyX7_ok nmX7 (by decide) gw_1_189 (Or.inr ⟨rfl, rfl, rfl⟩) (fun _ => ⟨rfl, rfl⟩) rfl zd_X7_init_54 (zs_aload_n zd_X7_init_57 rfl (zs_new (ci := 2) (T := TX2) rfl inX2 tyX2_ok gw_1_153 gw_1_154 gw_1_6 (by decide) rfl rfl zd_X7_init_58 (zs_dup zd_X7_init_61 (zs_IN rfl (zm_X2_init _ _ _) gw_1_157 (List.mem_of_getElem? (i := 3) rfl) gw_1_156 gw_1_6 zdn_X2_init (zrm hR (by decide) (by decide)) zd_X7_init_62 (zCl_I0 zlm_l) (zs_putR (ci := 7) (j := 5) (T := TX7) rfl inX7 tyX7_ok nmX7 (by decide) gw_1_190 (Or.inl rfl) (fun _ => ⟨rfl, rfl⟩) rfl zd_X7_init_65 (zs_aload_n zd_X7_init_68 rfl (zs_new (ci := 2) (T := TX2) rfl inX2 tyX2_ok gw_1_153 gw_1_154 gw_1_6 (by decide) rfl rfl zd_X7_init_69 (zs_dup zd_X7_init_72 (zs_IN rfl (zm_X2_init _ _ _) gw_1_157 (List.mem_of_getElem? (i := 3) rfl) gw_1_156 gw_1_6 zdn_X2_init (zrm hR (by decide) (by decide)) zd_X7_init_73 (zCl_I0 zlm_l) (zs_putR (ci := 7) (j := 6) (T := TX7) rfl inX7 tyX7_ok nmX7 (by decide) gw_1_191 (Or.inl rfl) (fun _ => ⟨rfl, rfl⟩) rfl zd_X7_init_76 (zs_aload_n zd_X7_init_79 rfl (zs_iconst zd_X7_init_80 (by decide) (zs_putI (ci := 7) (j := 7) (T := TX7) rfl inX7 tyX7_ok nmX7 (by decide) gw_1_192 rfl rfl rfl zd_X7_init_81 (zs_aload_n zd_X7_init_84 rfl (zs_iconst zd_X7_init_85 (by decide) (zs_putI (ci := 7) (j := 8) (T := TX7) rfl inX7 tyX7_ok nmX7 (by decide) gw_1_193 rfl rfl rfl zd_X7_init_86 (zs_vret rfl zd_X7_init_89))))))))))))))))))))))))))))))))))))))))))
theorem zdn_X7_init : yX7_init.cls ≠ "java/lang/invoke/MethodHandle" ∧ yX7_init.cls ≠ "java/lang/invoke/VarHandle" ∧ (parseMethodDescriptor yX7_init.desc).map (fun d => d.parameters.length) = some 0 := by decide +kernel
def zM0 : zMm := ([0], fun _ _ => 0, fun _ _ => 0, fun _ _ => none)
def wF0 : wFS := ((6, 6, 40, 0, 64, fun _ => 50, []), [], [], -1, 0)
/-- a table of references -/
def zlk : List (Nat × Nat × Nat) → Nat → Nat → Option Nat
  | [], _, _ => none
  | t :: T, k, j => if k = t.1 ∧ j = t.2.1 then some t.2.2 else zlk T k j
theorem zlk_no {k : Nat} : ∀ {T : List (Nat × Nat × Nat)}, (∀ t ∈ T, t.1 ≠ k) → ∀ j, zlk T k j = none
  | [], _, _ => rfl
  | t :: T, h, j => by
    show (if k = t.1 ∧ j = t.2.1 then some t.2.2 else zlk T k j) = none
    rw [if_neg (fun z => h t List.mem_cons_self z.1.symm)]
    exact zlk_no (fun t' ht' => h t' (List.mem_cons_of_mem _ ht')) j
def zIn (N : zMm) (L : List Nat) (T : List (Nat × Nat × Nat)) (A B : Nat → Int32) : Prop := N.1 = L ∧ (∀ k j, N.2.2.2 k j = zlk T k j) ∧ (∀ k j, k ≠ 1 → k ≠ 2 → N.2.1 k j = 0) ∧ N.2.1 1 = A ∧ N.2.1 2 = B
theorem zIn.ref {N : zMm} {L : List Nat} {T : List (Nat × Nat × Nat)} {A B : Nat → Int32} (h : zIn N L T A B) (k j x : Nat) : zIn (zwR N k j (some x)) L ((k, j, x) :: T) A B := by
  obtain ⟨h1, h2, h3, h4, h5⟩ := h
  refine ⟨h1, fun k' j' => ?_, h3, h4, h5⟩
  show zw2 N.2.2.2 k j (some x) k' j' = if k' = k ∧ j' = j then some x else zlk T k' j'
  by_cases e : k' = k
  · subst e
    rw [zw2_s]
    by_cases e2 : j' = j
    · subst e2
      rw [zup_s, if_pos ⟨rfl, rfl⟩]
    · rw [zup_n e2, if_neg (fun z => e2 z.2)]
      exact h2 _ _
  · rw [zw2_n e, if_neg (fun z => e z.1)]
    exact h2 _ _
theorem zIn.new {N : zMm} {L : List Nat} {T : List (Nat × Nat × Nat)} {A B : Nat → Int32} (h : zIn N L T A B) {k : Nat} (k1 : k ≠ 1) (k2 : k ≠ 2) (hT : ∀ t ∈ T, t.1 ≠ k) : zIn (znw N k) (L ++ [k]) T A B := by
  obtain ⟨h1, h2, h3, h4, h5⟩ := h
  refine ⟨by show N.1 ++ [k] = _; rw [h1], fun k' j' => ?_, fun k' j' q1 q2 => ?_, ?_, ?_⟩
  · show zrw N.2.2.2 k none k' j' = _
    by_cases e : k' = k
    · subst e
      rw [zrw_s, zlk_no hT]
    · rw [zrw_n e]
      exact h2 _ _
  · show zrw N.2.1 k 0 k' j' = _
    by_cases e : k' = k
    · subst e
      rw [zrw_s]
    · rw [zrw_n e]
      exact h3 _ _ q1 q2
  · show zrw N.2.1 k 0 1 = _
    rw [zrw_n (Ne.symm k1)]; exact h4
  · show zrw N.2.1 k 0 2 = _
    rw [zrw_n (Ne.symm k2)]; exact h5
theorem zIn.nA {N : zMm} {L : List Nat} {T : List (Nat × Nat × Nat)} {A B : Nat → Int32} (h : zIn N L T A B) (o j : Nat) {k : Nat} (k1 : k ≠ 1) (k2 : k ≠ 2) (hT : ∀ t ∈ T, t.1 ≠ k) : zIn (nA N o j k) (L ++ [k]) ((o, j, k) :: T) A B := (h.new k1 k2 hT).ref o j k
def zc_X7_init (a : List Value) (M : zMm) (K : zKt) : Prop := match a with
  | [.ref k] => k = 0 ∧ M = zM0 ∧ ∀ M', zXF M' wF0 21 27 0 → K none M'
  | _ => False
set_option maxHeartbeats 4000000 in
theorem zm_X7_init (l : Launch) (D : va_G) (Y : Nat → ClassId) : zMt l D Y yX7_init cX7_init 1 none 2 43 35 2500 zc_X7_init := by
  refine zflat (by decide) (fun K J lc lz => zb_X7_init_0 K J lc lz) (fun X hR => zbs_X7_init_0 hR zJ0 zJ0_ok) (fun avs M K h => ?_)
  unfold zc_X7_init at h
  split at h
  · obtain ⟨rfl, rfl, h⟩ := h
    refine ⟨by simp [zent], ?_⟩
    have lc : zM0.1.length = 1 := rfl
    have lz : zss zM0.1 = 9 := rfl
    simp only [zb_X7_init_0, zT_newa, zT_new, zsh_0, lc, lz, zT_push, zT_bin, zT_div, zT_bil, zT_shl, zT_un, zT_i2l, zT_l2i, zT_lcmp, zT_ild, zT_lld, zT_ald, zT_ist, zT_lst, zT_ast, zT_iinc, zT_dup, zT_dup2, zT_pop, zT_if1, zT_if2, zT_ifn, zT_getI, zT_getJ, zT_getR, zT_putI, zT_putZ, zT_putJ, zT_putR, zT_ald0, zT_lald, zT_aald, zT_iast, zT_zast, zT_bast, zT_last, zT_aast, zT_iret, zT_nret, zT_aret, zT_vret, zT_oi, zT_mm, zT_ialX, zT_S1, zT_S2, zT_S3, zT_V0, zT_V1, zT_V2, zT_V3, zT_V4, zT_V5, zT_V6, zT_I0, zT_I1, zT_I2, zlg, zlset, zlpr, zent, zok, va_rf, List.length_cons, List.length_nil, List.replicate, List.cons_append, List.nil_append, List.append_nil, Option.toList_some, Option.toList_none, Option.toList, Nat.reduceAdd, Nat.reduceSub, Nat.reduceLeDiff, Nat.zero_add, Nat.zero_le, true_and, and_true, Nat.le_refl, ge_iff_le, Nat.reduceEqDiff]
    refine ⟨1, by decide, rfl, ⟨by decide, by decide⟩, ?_⟩
    unfold zc_X1_init
    dsimp only
    refine ⟨rfl, by decide, fun M1 l1 j1 r1 i1 g1 g2 g3 g4 g5 g6 => ?_⟩
    have z1 : zIn M1 [0, 1, 2] [(1, 0, 2)] (M1.2.1 1) (M1.2.1 2) := by
      refine ⟨l1, fun k j => ?_, fun k j q1 q2 => ?_, rfl, rfl⟩
      · rw [r1]
        show zw2 (zrw (zrw (fun _ _ => none) 1 none) 2 none) 1 0 (some 2) k j = if k = 1 ∧ j = 0 then some 2 else none
        by_cases e : k = 1
        · subst e
          rw [zw2_s]
          by_cases e2 : j = 0
          · subst e2
            rw [zup_s, if_pos ⟨rfl, rfl⟩]
          · rw [zup_n e2, if_neg (fun z => e2 z.2), zrw_n (by decide), zrw_s]
        · rw [zw2_n e, if_neg (fun z => e z.1)]
          unfold zrw
          split
          · rfl
          · rfl
      · rw [i1 k q1 q2]
        show zrw (fun _ _ => (0 : Int32)) 1 0 k j = 0
        rw [zrw_n q1]
    generalize M1.2.1 1 = A1 at z1 g1 g2 g3 g4 g5
    generalize M1.2.1 2 = A2 at z1 g6
    simp only [zsh_0, zT_push, zT_bin, zT_div, zT_bil, zT_shl, zT_un, zT_i2l, zT_l2i, zT_lcmp, zT_ild, zT_lld, zT_ald, zT_ist, zT_lst, zT_ast, zT_iinc, zT_dup, zT_dup2, zT_pop, zT_if1, zT_if2, zT_ifn, zT_getI, zT_getJ, zT_getR, zT_putI, zT_putZ, zT_putJ, zT_putR, zT_ald0, zT_lald, zT_aald, zT_iast, zT_zast, zT_bast, zT_last, zT_aast, zT_iret, zT_nret, zT_aret, zT_vret, zT_oi, zT_mm, zT_ialX, zT_S1, zT_S2, zT_S3, zT_V0, zT_V1, zT_V2, zT_V3, zT_V4, zT_V5, zT_V6, zT_I0, zT_I1, zT_I2, zlg, zlset, zlpr, zent, zok, va_rf, List.length_cons, List.length_nil, List.replicate, List.cons_append, List.nil_append, List.append_nil, Option.toList_some, Option.toList_none, Option.toList, Nat.reduceAdd, Nat.reduceSub, Nat.reduceLeDiff, Nat.zero_add, Nat.zero_le, true_and, and_true, Nat.le_refl, ge_iff_le, Nat.reduceEqDiff]
    refine ⟨by decide, ?_⟩
    have z1 := z1.ref 0 0 1
    generalize zwR M1 0 0 (some 1) = N1 at z1 ⊢
    have l2 : N1.1 = ([0, 1, 2] : List Nat) := z1.1
    have z1 := z1.new (k := 3) (by decide) (by decide) (by decide)
    have m2 : (znw N1 3).1 = ([0, 1, 2, 3] : List Nat) := z1.1
    refine ⟨3, (by rw [l2]; decide), rfl, (by rw [l2]; decide), (by rw [l2]; decide), ⟨by rw [m2]; decide, by rw [m2]; decide⟩, ?_⟩
    generalize znw N1 3 = P1 at z1 m2 ⊢
    unfold zc_X4_init
    dsimp only
    refine ⟨rfl, (by rw [m2]; decide), ?_⟩
    have z1 := (z1.nA 3 0 (k := 4) (by decide) (by decide) (by decide))
    generalize nA (P1) 3 0 4 = Q1 at z1 ⊢
    simp only [zsh_0, zT_push, zT_bin, zT_div, zT_bil, zT_shl, zT_un, zT_i2l, zT_l2i, zT_lcmp, zT_ild, zT_lld, zT_ald, zT_ist, zT_lst, zT_ast, zT_iinc, zT_dup, zT_dup2, zT_pop, zT_if1, zT_if2, zT_ifn, zT_getI, zT_getJ, zT_getR, zT_putI, zT_putZ, zT_putJ, zT_putR, zT_ald0, zT_lald, zT_aald, zT_iast, zT_zast, zT_bast, zT_last, zT_aast, zT_iret, zT_nret, zT_aret, zT_vret, zT_oi, zT_mm, zT_ialX, zT_S1, zT_S2, zT_S3, zT_V0, zT_V1, zT_V2, zT_V3, zT_V4, zT_V5, zT_V6, zT_I0, zT_I1, zT_I2, zlg, zlset, zlpr, zent, zok, va_rf, List.length_cons, List.length_nil, List.replicate, List.cons_append, List.nil_append, List.append_nil, Option.toList_some, Option.toList_none, Option.toList, Nat.reduceAdd, Nat.reduceSub, Nat.reduceLeDiff, Nat.zero_add, Nat.zero_le, true_and, and_true, Nat.le_refl, ge_iff_le, Nat.reduceEqDiff]
    refine ⟨by decide, ?_⟩
    have z1 := z1.ref 0 1 3
    generalize zwR Q1 0 1 (some 3) = N2 at z1 ⊢
    have l3 : N2.1 = ([0, 1, 2, 3, 4] : List Nat) := z1.1
    have z1 := z1.new (k := 5) (by decide) (by decide) (by decide)
    have m3 : (znw N2 5).1 = ([0, 1, 2, 3, 4, 5] : List Nat) := z1.1
    refine ⟨5, (by rw [l3]; decide), rfl, (by rw [l3]; decide), (by rw [l3]; decide), ⟨by rw [m3]; decide, by rw [m3]; decide⟩, ?_⟩
    generalize znw N2 5 = P2 at z1 m3 ⊢
    unfold zc_X0_init
    dsimp only
    refine ⟨rfl, ⟨(by rw [m3]; decide), (by rw [m3]; decide), (by rw [m3]; decide), (by rw [m3]; decide)⟩, ?_⟩
    have z1 := ((((z1.nA 5 0 (k := 6) (by decide) (by decide) (by decide)).nA 5 1 (k := 7) (by decide) (by decide) (by decide)).nA 5 2 (k := 8) (by decide) (by decide) (by decide)).nA 5 3 (k := 9) (by decide) (by decide) (by decide))
    generalize nA (nA (nA (nA (P2) 5 0 6) 5 1 7) 5 2 8) 5 3 9 = Q2 at z1 ⊢
    simp only [zsh_0, zT_push, zT_bin, zT_div, zT_bil, zT_shl, zT_un, zT_i2l, zT_l2i, zT_lcmp, zT_ild, zT_lld, zT_ald, zT_ist, zT_lst, zT_ast, zT_iinc, zT_dup, zT_dup2, zT_pop, zT_if1, zT_if2, zT_ifn, zT_getI, zT_getJ, zT_getR, zT_putI, zT_putZ, zT_putJ, zT_putR, zT_ald0, zT_lald, zT_aald, zT_iast, zT_zast, zT_bast, zT_last, zT_aast, zT_iret, zT_nret, zT_aret, zT_vret, zT_oi, zT_mm, zT_ialX, zT_S1, zT_S2, zT_S3, zT_V0, zT_V1, zT_V2, zT_V3, zT_V4, zT_V5, zT_V6, zT_I0, zT_I1, zT_I2, zlg, zlset, zlpr, zent, zok, va_rf, List.length_cons, List.length_nil, List.replicate, List.cons_append, List.nil_append, List.append_nil, Option.toList_some, Option.toList_none, Option.toList, Nat.reduceAdd, Nat.reduceSub, Nat.reduceLeDiff, Nat.zero_add, Nat.zero_le, true_and, and_true, Nat.le_refl, ge_iff_le, Nat.reduceEqDiff]
    refine ⟨by decide, ?_⟩
    have z1 := z1.ref 0 2 5
    generalize zwR Q2 0 2 (some 5) = N3 at z1 ⊢
    have l4 : N3.1 = ([0, 1, 2, 3, 4, 5, 6, 7, 8, 9] : List Nat) := z1.1
    have z1 := z1.new (k := 10) (by decide) (by decide) (by decide)
    have m4 : (znw N3 10).1 = ([0, 1, 2, 3, 4, 5, 6, 7, 8, 9, 10] : List Nat) := z1.1
    refine ⟨10, (by rw [l4]; decide), rfl, (by rw [l4]; decide), (by rw [l4]; decide), ⟨by rw [m4]; decide, by rw [m4]; decide⟩, ?_⟩
    generalize znw N3 10 = P3 at z1 m4 ⊢
    unfold zc_X5_init
    dsimp only
    refine ⟨rfl, ⟨(by rw [m4]; decide), (by rw [m4]; decide), (by rw [m4]; decide), (by rw [m4]; decide), (by rw [m4]; decide), (by rw [m4]; decide), (by rw [m4]; decide), (by rw [m4]; decide), (by rw [m4]; decide)⟩, ?_⟩
    have z1 := (((((((((z1.nA 10 0 (k := 11) (by decide) (by decide) (by decide)).nA 10 1 (k := 12) (by decide) (by decide) (by decide)).nA 10 2 (k := 13) (by decide) (by decide) (by decide)).nA 10 3 (k := 14) (by decide) (by decide) (by decide)).nA 10 4 (k := 15) (by decide) (by decide) (by decide)).nA 10 6 (k := 16) (by decide) (by decide) (by decide)).nA 10 7 (k := 17) (by decide) (by decide) (by decide)).nA 10 8 (k := 18) (by decide) (by decide) (by decide)).nA 10 9 (k := 19) (by decide) (by decide) (by decide))
    generalize nA (nA (nA (nA (nA (nA (nA (nA (nA (P3) 10 0 11) 10 1 12) 10 2 13) 10 3 14) 10 4 15) 10 6 16) 10 7 17) 10 8 18) 10 9 19 = Q3 at z1 ⊢
    simp only [zsh_0, zT_push, zT_bin, zT_div, zT_bil, zT_shl, zT_un, zT_i2l, zT_l2i, zT_lcmp, zT_ild, zT_lld, zT_ald, zT_ist, zT_lst, zT_ast, zT_iinc, zT_dup, zT_dup2, zT_pop, zT_if1, zT_if2, zT_ifn, zT_getI, zT_getJ, zT_getR, zT_putI, zT_putZ, zT_putJ, zT_putR, zT_ald0, zT_lald, zT_aald, zT_iast, zT_zast, zT_bast, zT_last, zT_aast, zT_iret, zT_nret, zT_aret, zT_vret, zT_oi, zT_mm, zT_ialX, zT_S1, zT_S2, zT_S3, zT_V0, zT_V1, zT_V2, zT_V3, zT_V4, zT_V5, zT_V6, zT_I0, zT_I1, zT_I2, zlg, zlset, zlpr, zent, zok, va_rf, List.length_cons, List.length_nil, List.replicate, List.cons_append, List.nil_append, List.append_nil, Option.toList_some, Option.toList_none, Option.toList, Nat.reduceAdd, Nat.reduceSub, Nat.reduceLeDiff, Nat.zero_add, Nat.zero_le, true_and, and_true, Nat.le_refl, ge_iff_le, Nat.reduceEqDiff]
    refine ⟨by decide, ?_⟩
    have z1 := z1.ref 0 3 10
    generalize zwR Q3 0 3 (some 10) = N4 at z1 ⊢
    have l5 : N4.1 = ([0, 1, 2, 3, 4, 5, 6, 7, 8, 9, 10, 11, 12, 13, 14, 15, 16, 17, 18, 19] : List Nat) := z1.1
    refine ⟨20, (by rw [l5]; decide), rfl, by decide, by decide, (by rw [l5]; decide), (by rw [l5]; decide), by decide, ?_⟩
    have z1 := (z1.new (k := 20) (by decide) (by decide) (by decide)).ref 0 4 20
    generalize zwR (znw N4 20) 0 4 (some 20) = N5 at z1 ⊢
    have l6 : N5.1 = ([0, 1, 2, 3, 4, 5, 6, 7, 8, 9, 10, 11, 12, 13, 14, 15, 16, 17, 18, 19, 20] : List Nat) := z1.1
    have z1 := z1.new (k := 21) (by decide) (by decide) (by decide)
    have m6 : (znw N5 21).1 = ([0, 1, 2, 3, 4, 5, 6, 7, 8, 9, 10, 11, 12, 13, 14, 15, 16, 17, 18, 19, 20, 21] : List Nat) := z1.1
    refine ⟨21, (by rw [l6]; decide), rfl, (by rw [l6]; decide), (by rw [l6]; decide), ⟨by rw [m6]; decide, by rw [m6]; decide⟩, ?_⟩
    generalize znw N5 21 = P5 at z1 m6 ⊢
    unfold zc_X2_init
    dsimp only
    refine ⟨Or.inl rfl, (fun (j : Nat) (hj : j < 5) => by rw [m6]; exact (by decide : ∀ j, j < 5 → 21 + 1 + j ∉ ([0, 1, 2, 3, 4, 5, 6, 7, 8, 9, 10, 11, 12, 13, 14, 15, 16, 17, 18, 19, 20, 21] : List Nat)) j hj), ?_⟩
    have z1 := (((((z1.nA 21 0 (k := 22) (by decide) (by decide) (by decide)).nA 21 1 (k := 23) (by decide) (by decide) (by decide)).nA 21 2 (k := 24) (by decide) (by decide) (by decide)).nA 21 3 (k := 25) (by decide) (by decide) (by decide)).nA 21 4 (k := 26) (by decide) (by decide) (by decide))
    generalize nA (nA (nA (nA (nA (P5) 21 0 22) 21 1 23) 21 2 24) 21 3 25) 21 4 26 = Q5 at z1 ⊢
    simp only [zsh_0, zT_push, zT_bin, zT_div, zT_bil, zT_shl, zT_un, zT_i2l, zT_l2i, zT_lcmp, zT_ild, zT_lld, zT_ald, zT_ist, zT_lst, zT_ast, zT_iinc, zT_dup, zT_dup2, zT_pop, zT_if1, zT_if2, zT_ifn, zT_getI, zT_getJ, zT_getR, zT_putI, zT_putZ, zT_putJ, zT_putR, zT_ald0, zT_lald, zT_aald, zT_iast, zT_zast, zT_bast, zT_last, zT_aast, zT_iret, zT_nret, zT_aret, zT_vret, zT_oi, zT_mm, zT_ialX, zT_S1, zT_S2, zT_S3, zT_V0, zT_V1, zT_V2, zT_V3, zT_V4, zT_V5, zT_V6, zT_I0, zT_I1, zT_I2, zlg, zlset, zlpr, zent, zok, va_rf, List.length_cons, List.length_nil, List.replicate, List.cons_append, List.nil_append, List.append_nil, Option.toList_some, Option.toList_none, Option.toList, Nat.reduceAdd, Nat.reduceSub, Nat.reduceLeDiff, Nat.zero_add, Nat.zero_le, true_and, and_true, Nat.le_refl, ge_iff_le, Nat.reduceEqDiff]
    refine ⟨by decide, ?_⟩
    have z1 := z1.ref 0 5 21
    generalize zwR Q5 0 5 (some 21) = N6 at z1 ⊢
    have l7 : N6.1 = ([0, 1, 2, 3, 4, 5, 6, 7, 8, 9, 10, 11, 12, 13, 14, 15, 16, 17, 18, 19, 20, 21, 22, 23, 24, 25, 26] : List Nat) := z1.1
    have z1 := z1.new (k := 27) (by decide) (by decide) (by decide)
    have m7 : (znw N6 27).1 = ([0, 1, 2, 3, 4, 5, 6, 7, 8, 9, 10, 11, 12, 13, 14, 15, 16, 17, 18, 19, 20, 21, 22, 23, 24, 25, 26, 27] : List Nat) := z1.1
    refine ⟨27, (by rw [l7]; decide), rfl, (by rw [l7]; decide), (by rw [l7]; decide), ⟨by rw [m7]; decide, by rw [m7]; decide⟩, ?_⟩
    generalize znw N6 27 = P6 at z1 m7 ⊢
    refine ⟨Or.inr rfl, (fun (j : Nat) (hj : j < 5) => by rw [m7]; exact (by decide : ∀ j, j < 5 → 27 + 1 + j ∉ ([0, 1, 2, 3, 4, 5, 6, 7, 8, 9, 10, 11, 12, 13, 14, 15, 16, 17, 18, 19, 20, 21, 22, 23, 24, 25, 26, 27] : List Nat)) j hj), by decide, ?_⟩
    have z1 := (((((z1.nA 27 0 (k := 28) (by decide) (by decide) (by decide)).nA 27 1 (k := 29) (by decide) (by decide) (by decide)).nA 27 2 (k := 30) (by decide) (by decide) (by decide)).nA 27 3 (k := 31) (by decide) (by decide) (by decide)).nA 27 4 (k := 32) (by decide) (by decide) (by decide))
    generalize nA (nA (nA (nA (nA (P6) 27 0 28) 27 1 29) 27 2 30) 27 3 31) 27 4 32 = Q6 at z1 ⊢
    have z1 := z1.ref 0 6 27
    generalize zwR Q6 0 6 (some 27) = N at z1 ⊢
    obtain ⟨y1, y2, y3, y4, y5⟩ := z1
    refine h _ ?_
    have eR : ∀ k j, (zwI (zwI N 0 7 (-1)) 0 8 0).2.2.2 k j = N.2.2.2 k j := fun _ _ => rfl
    have eI : ∀ k, k ≠ 0 → (zwI (zwI N 0 7 (-1)) 0 8 0).2.1 k = N.2.1 k := fun k hk => by
      show zw2 (zw2 N.2.1 0 7 (-1)) 0 8 0 k = _
      rw [zw2_n hk, zw2_n hk]
    have e07 : (zwI (zwI N 0 7 (-1)) 0 8 0).2.1 0 7 = -1 := by
      show zw2 (zw2 N.2.1 0 7 (-1)) 0 8 0 0 7 = _
      rw [zw2_s, zup_n (by decide), zw2_s, zup_s]
    have e08 : (zwI (zwI N 0 7 (-1)) 0 8 0).2.1 0 8 = 0 := by
      show zw2 (zw2 N.2.1 0 7 (-1)) 0 8 0 0 8 = _
      rw [zw2_s, zup_s]
    have eL : (zwI (zwI N 0 7 (-1)) 0 8 0).1 = N.1 := rfl
    generalize zwI (zwI N 0 7 (-1)) 0 8 0 = Z at eR eI e07 e08 eL ⊢
    have zR : ∀ k j, Z.2.2.2 k j = zlk _ k j := fun k j => (eR k j).trans (y2 k j)
    have z0 : ∀ k j, k ≠ 0 → k ≠ 1 → k ≠ 2 → Z.2.1 k j = 0 := fun k j a b c => by rw [eI k a]; exact y3 k j b c
    have zL : Z.1 = _ := eL.trans y1
    have a1 : Z.2.1 1 = A1 := (eI 1 (by decide)).trans y4
    have a2 : Z.2.1 2 = A2 := (eI 2 (by decide)).trans y5
    have hv : zlv Z = fun r => (zlk [] 20 r).isSome := by
      funext r
      unfold zlv
      rw [zR]
      rfl
    refine ⟨⟨?_, ?_, by rw [a1]; exact g1, by rw [a1]; exact g2, by rw [a1]; exact g3, by rw [a1]; exact g4, by rw [a1]; exact g5, fun e he => by rw [a2]; exact g6 e he, ?_, ⟨(fun _ => 0, []), ⟨fun e _ => z0 13 e (by decide) (by decide) (by decide), fun i x hx => by simp at hx, z0 10 5 (by decide) (by decide) (by decide), by decide⟩, ⟨List.nodup_nil, fun x hx => absurd hx List.not_mem_nil, fun x _ => ⟨fun z => absurd z List.not_mem_nil, fun z => absurd z (Nat.lt_irrefl 0)⟩⟩⟩, fun r hr => Or.inl ⟨?_, ?_, ?_⟩, ?_, ?_, ?_⟩, ⟨z0 5 4 (by decide) (by decide) (by decide), by decide, fun i e hi => by simp [wF0] at hi⟩, fun e he => absurd he List.not_mem_nil, ⟨z0 3 1 (by decide) (by decide) (by decide), by decide, fun i e hi => by simp [wF0] at hi⟩, e07, e08⟩
    · unfold zXr zxw
      simp only [zR]
      refine ⟨rfl, rfl, rfl, rfl, rfl, rfl, rfl, rfl, rfl, rfl, rfl, rfl, rfl, ⟨rfl, rfl, rfl, rfl, rfl, rfl, rfl, rfl, rfl⟩, by decide, by decide, Or.inl ⟨trivial, trivial⟩⟩
    · exact ⟨by decide, by decide, by decide, by decide, by decide, by decide, ⟨by show 0 % 12 < 6; decide, by show 0 / 12 < 6; decide⟩, by decide, fun e => by show 50 ≤ 200; decide⟩
    · refine ⟨Or.inl rfl, ?_⟩
      simp only [zR]
      exact ⟨rfl, rfl, rfl, rfl, rfl, z0 21 5 (by decide) (by decide) (by decide), by decide, fun i e hi => by simp [wF0, sA] at hi⟩
    · rw [zR]; rfl
    · rw [zL]
      unfold zyi
      simp only [List.mem_append, List.mem_cons, List.not_mem_nil, or_false]
      omega
    · rw [zL]
      unfold zyi
      simp only [List.mem_append, List.mem_cons, List.not_mem_nil, or_false]
      omega
    · rw [zL, hv]; rfl
    · rw [zL, hv]; rfl
    · rw [zL]
      intro k hk h5
      simp only [List.mem_append, List.mem_cons, List.not_mem_nil, or_false] at hk
      omega
  · exact h.elim
