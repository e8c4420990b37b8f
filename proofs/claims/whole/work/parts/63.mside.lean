/-! DeltaRunsModel sideOf -/
theorem zd_X8_sideOf_0 : decode cX8_sideOf 0 = .ok (.iload_n 1, 1) := by decide +kernel
theorem zd_X8_sideOf_1 : decode cX8_sideOf 1 = .ok (.aload_n 0, 1) := by decide +kernel
theorem zd_X8_sideOf_2 : decode cX8_sideOf 2 = .ok (.getfield 7, 3) := by decide +kernel
theorem zd_X8_sideOf_5 : decode cX8_sideOf 5 = .ok (.irem, 1) := by decide +kernel
theorem zd_X8_sideOf_6 : decode cX8_sideOf 6 = .ok (.iload_n 2, 1) := by decide +kernel
theorem zd_X8_sideOf_7 : decode cX8_sideOf 7 = .ok (.ifCond .ne 7, 3) := by decide +kernel
theorem zd_X8_sideOf_10 : decode cX8_sideOf 10 = .ok (.iconst 1, 1) := by decide +kernel
theorem zd_X8_sideOf_11 : decode cX8_sideOf 11 = .ok (.goto 13, 3) := by decide +kernel
theorem zd_X8_sideOf_14 : decode cX8_sideOf 14 = .ok (.iload_n 2, 1) := by decide +kernel
theorem zd_X8_sideOf_15 : decode cX8_sideOf 15 = .ok (.iconst 2, 1) := by decide +kernel
theorem zd_X8_sideOf_16 : decode cX8_sideOf 16 = .ok (.if_icmp .ne 7, 3) := by decide +kernel
theorem zd_X8_sideOf_19 : decode cX8_sideOf 19 = .ok (.iconst (-1), 1) := by decide +kernel
theorem zd_X8_sideOf_20 : decode cX8_sideOf 20 = .ok (.goto 4, 3) := by decide +kernel
theorem zd_X8_sideOf_23 : decode cX8_sideOf 23 = .ok (.iconst 0, 1) := by decide +kernel
theorem zd_X8_sideOf_24 : decode cX8_sideOf 24 = .ok (.iadd, 1) := by decide +kernel
theorem zd_X8_sideOf_25 : decode cX8_sideOf 25 = .ok (.istore_n 3, 1) := by decide +kernel
theorem zd_X8_sideOf_26 : decode cX8_sideOf 26 = .ok (.iload_n 1, 1) := by decide +kernel
theorem zd_X8_sideOf_27 : decode cX8_sideOf 27 = .ok (.aload_n 0, 1) := by decide +kernel
theorem zd_X8_sideOf_28 : decode cX8_sideOf 28 = .ok (.getfield 7, 3) := by decide +kernel
theorem zd_X8_sideOf_31 : decode cX8_sideOf 31 = .ok (.idiv, 1) := by decide +kernel
theorem zd_X8_sideOf_32 : decode cX8_sideOf 32 = .ok (.iload_n 2, 1) := by decide +kernel
theorem zd_X8_sideOf_33 : decode cX8_sideOf 33 = .ok (.iconst 1, 1) := by decide +kernel
theorem zd_X8_sideOf_34 : decode cX8_sideOf 34 = .ok (.if_icmp .ne 7, 3) := by decide +kernel
theorem zd_X8_sideOf_37 : decode cX8_sideOf 37 = .ok (.iconst 1, 1) := by decide +kernel
theorem zd_X8_sideOf_38 : decode cX8_sideOf 38 = .ok (.goto 13, 3) := by decide +kernel
theorem zd_X8_sideOf_41 : decode cX8_sideOf 41 = .ok (.iload_n 2, 1) := by decide +kernel
theorem zd_X8_sideOf_42 : decode cX8_sideOf 42 = .ok (.iconst 3, 1) := by decide +kernel
theorem zd_X8_sideOf_43 : decode cX8_sideOf 43 = .ok (.if_icmp .ne 7, 3) := by decide +kernel
theorem zd_X8_sideOf_46 : decode cX8_sideOf 46 = .ok (.iconst (-1), 1) := by decide +kernel
theorem zd_X8_sideOf_47 : decode cX8_sideOf 47 = .ok (.goto 4, 3) := by decide +kernel
theorem zd_X8_sideOf_50 : decode cX8_sideOf 50 = .ok (.iconst 0, 1) := by decide +kernel
theorem zd_X8_sideOf_51 : decode cX8_sideOf 51 = .ok (.iadd, 1) := by decide +kernel
theorem zd_X8_sideOf_52 : decode cX8_sideOf 52 = .ok (.istore 4, 2) := by decide +kernel
theorem zd_X8_sideOf_54 : decode cX8_sideOf 54 = .ok (.aload_n 0, 1) := by decide +kernel
theorem zd_X8_sideOf_55 : decode cX8_sideOf 55 = .ok (.iload_n 3, 1) := by decide +kernel
theorem zd_X8_sideOf_56 : decode cX8_sideOf 56 = .ok (.iload 4, 2) := by decide +kernel
theorem zd_X8_sideOf_58 : decode cX8_sideOf 58 = .ok (.invokevirtual 121, 3) := by decide +kernel
theorem zd_X8_sideOf_61 : decode cX8_sideOf 61 = .ok (.ifCond .eq 15, 3) := by decide +kernel
theorem zd_X8_sideOf_64 : decode cX8_sideOf 64 = .ok (.iload 4, 2) := by decide +kernel
theorem zd_X8_sideOf_66 : decode cX8_sideOf 66 = .ok (.aload_n 0, 1) := by decide +kernel
theorem zd_X8_sideOf_67 : decode cX8_sideOf 67 = .ok (.getfield 7, 3) := by decide +kernel
theorem zd_X8_sideOf_70 : decode cX8_sideOf 70 = .ok (.imul, 1) := by decide +kernel
theorem zd_X8_sideOf_71 : decode cX8_sideOf 71 = .ok (.iload_n 3, 1) := by decide +kernel
theorem zd_X8_sideOf_72 : decode cX8_sideOf 72 = .ok (.iadd, 1) := by decide +kernel
theorem zd_X8_sideOf_73 : decode cX8_sideOf 73 = .ok (.goto 4, 3) := by decide +kernel
theorem zd_X8_sideOf_76 : decode cX8_sideOf 76 = .ok (.iconst (-1), 1) := by decide +kernel
theorem zd_X8_sideOf_77 : decode cX8_sideOf 77 = .ok (.ireturn, 1) := by decide +kernel
def zb_X8_sideOf_77 (K : zKt) (J : Nat → zPP) : zPP := zT_iret K
theorem zbs_X8_sideOf_77 {X : zCt} (hR : zRX X = { frames := 2, cells := 0, slots := 0, locals := 47 }) (J : Nat → zPP) (hJ : ∀ h ∈ ([] : List Nat), zSd X RX8 "sideOf" cX8_sideOf 5 (some .int) h (J h)) : zSd X RX8 "sideOf" cX8_sideOf 5 (some .int) 77 (zb_X8_sideOf_77 (zKX X) J) := zs_iret rfl zd_X8_sideOf_77
def zb_X8_sideOf_51 (K : zKt) (J : Nat → zPP) : zPP := zT_bin (fun x y => x + y) (zT_ist 4 (zT_ald 0 (zT_ild 3 (zT_ild 4 (zT_V2 zok 8 38 zc_X8_isCell (zT_if1 (fun x => x = 0) (zT_push (.int (-1)) (zb_X8_sideOf_77 K J)) (zT_ild 4 (zT_ald 0 (zT_getI 8 2 38 (zT_bin (fun x y => x * y) (zT_ild 3 (zT_bin (fun x y => x + y) (zb_X8_sideOf_77 K J)))))))))))))
theorem zbs_X8_sideOf_51 {X : zCt} (hR : zRX X = { frames := 2, cells := 0, slots := 0, locals := 47 }) (J : Nat → zPP) (hJ : ∀ h ∈ ([] : List Nat), zSd X RX8 "sideOf" cX8_sideOf 5 (some .int) h (J h)) : zSd X RX8 "sideOf" cX8_sideOf 5 (some .int) 51 (zb_X8_sideOf_51 (zKX X) J) := zs_iadd zd_X8_sideOf_51 (zs_istore zd_X8_sideOf_52 (by decide) (zs_aload_n zd_X8_sideOf_54 rfl (zs_iload_n zd_X8_sideOf_55 rfl (zs_iload zd_X8_sideOf_56 (zs_V (ci := 8) rfl rfl (zm_X8_isCell _ _ _) gw_3_226 gw_3_223 gw_3_225 gw_0_24 gw_1_7 zdn_X8_isCell (zrm hR (by decide) (by decide)) zd_X8_sideOf_58 (zCl_V2 zok_l) (zs_if_eq (tgt := 76) zd_X8_sideOf_61 (by decide) (zs_iconst zd_X8_sideOf_76 (by decide) (zbs_X8_sideOf_77 hR J hJ)) (zs_iload zd_X8_sideOf_64 (zs_aload_n zd_X8_sideOf_66 rfl (zs_getI (ci := 8) (j := 2) (T := TX8) rfl inX8 (by decide) gw_3_91 rfl zd_X8_sideOf_67 (zs_imul zd_X8_sideOf_70 (zs_iload_n zd_X8_sideOf_71 rfl (zs_iadd zd_X8_sideOf_72 (zs_goto (tgt := 77) zd_X8_sideOf_73 (by decide) (zbs_X8_sideOf_77 hR J hJ))))))))))))))
def zb_X8_sideOf_24 (K : zKt) (J : Nat → zPP) : zPP := zT_bin (fun x y => x + y) (zT_ist 3 (zT_ild 1 (zT_ald 0 (zT_getI 8 2 38 (zT_div (fun x y => x / y) (zT_ild 2 (zT_push (.int 1) (zT_if2 (fun x y => x = y) (zT_push (.int 1) (zb_X8_sideOf_51 K J)) (zT_ild 2 (zT_push (.int 3) (zT_if2 (fun x y => x = y) (zT_push (.int (-1)) (zb_X8_sideOf_51 K J)) (zT_push (.int 0) (zb_X8_sideOf_51 K J)))))))))))))
theorem zbs_X8_sideOf_24 {X : zCt} (hR : zRX X = { frames := 2, cells := 0, slots := 0, locals := 47 }) (J : Nat → zPP) (hJ : ∀ h ∈ ([] : List Nat), zSd X RX8 "sideOf" cX8_sideOf 5 (some .int) h (J h)) : zSd X RX8 "sideOf" cX8_sideOf 5 (some .int) 24 (zb_X8_sideOf_24 (zKX X) J) := zs_iadd zd_X8_sideOf_24 (zs_istore_n zd_X8_sideOf_25 rfl (by decide) (zs_iload_n zd_X8_sideOf_26 rfl (zs_aload_n zd_X8_sideOf_27 rfl (zs_getI (ci := 8) (j := 2) (T := TX8) rfl inX8 (by decide) gw_3_91 rfl zd_X8_sideOf_28 (zs_idiv zd_X8_sideOf_31 (zs_iload_n zd_X8_sideOf_32 rfl (zs_iconst zd_X8_sideOf_33 (by decide) (zs_icmp_ne (tgt := 41) zd_X8_sideOf_34 (by decide) (zs_iload_n zd_X8_sideOf_41 rfl (zs_iconst zd_X8_sideOf_42 (by decide) (zs_icmp_ne (tgt := 50) zd_X8_sideOf_43 (by decide) (zs_iconst zd_X8_sideOf_50 (by decide) (zbs_X8_sideOf_51 hR J hJ)) (zs_iconst zd_X8_sideOf_46 (by decide) (zs_goto (tgt := 51) zd_X8_sideOf_47 (by decide) (zbs_X8_sideOf_51 hR J hJ)))))) (zs_iconst zd_X8_sideOf_37 (by decide) (zs_goto (tgt := 51) zd_X8_sideOf_38 (by decide) (zbs_X8_sideOf_51 hR J hJ)))))))))))
def zb_X8_sideOf_0 (K : zKt) (J : Nat → zPP) : zPP := zT_ild 1 (zT_ald 0 (zT_getI 8 2 38 (zT_div (fun x y => x - x / y * y) (zT_ild 2 (zT_if1 (fun x => x = 0) (zT_push (.int 1) (zb_X8_sideOf_24 K J)) (zT_ild 2 (zT_push (.int 2) (zT_if2 (fun x y => x = y) (zT_push (.int (-1)) (zb_X8_sideOf_24 K J)) (zT_push (.int 0) (zb_X8_sideOf_24 K J))))))))))
theorem zbs_X8_sideOf_0 {X : zCt} (hR : zRX X = { frames := 2, cells := 0, slots := 0, locals := 47 }) (J : Nat → zPP) (hJ : ∀ h ∈ ([] : List Nat), zSd X RX8 "sideOf" cX8_sideOf 5 (some .int) h (J h)) : zSd X RX8 "sideOf" cX8_sideOf 5 (some .int) 0 (zb_X8_sideOf_0 (zKX X) J) := zs_iload_n zd_X8_sideOf_0 rfl (zs_aload_n zd_X8_sideOf_1 rfl (zs_getI (ci := 8) (j := 2) (T := TX8) rfl inX8 (by decide) gw_3_91 rfl zd_X8_sideOf_2 (zs_irem zd_X8_sideOf_5 (zs_iload_n zd_X8_sideOf_6 rfl (zs_if_ne (tgt := 14) zd_X8_sideOf_7 (by decide) (zs_iload_n zd_X8_sideOf_14 rfl (zs_iconst zd_X8_sideOf_15 (by decide) (zs_icmp_ne (tgt := 23) zd_X8_sideOf_16 (by decide) (zs_iconst zd_X8_sideOf_23 (by decide) (zbs_X8_sideOf_24 hR J hJ)) (zs_iconst zd_X8_sideOf_19 (by decide) (zs_goto (tgt := 24) zd_X8_sideOf_20 (by decide) (zbs_X8_sideOf_24 hR J hJ)))))) (zs_iconst zd_X8_sideOf_10 (by decide) (zs_goto (tgt := 24) zd_X8_sideOf_11 (by decide) (zbs_X8_sideOf_24 hR J hJ))))))))
theorem zdn_X8_sideOf : yX8_sideOf.cls ≠ "java/lang/invoke/MethodHandle" ∧ yX8_sideOf.cls ≠ "java/lang/invoke/VarHandle" ∧ (parseMethodDescriptor yX8_sideOf.desc).map (fun d => d.parameters.length) = some 2 := by decide +kernel
theorem wnb_0 {w h c : Nat} : wnb w h c 0 = if c % 12 + 1 < w then some (c + 1) else none := rfl
theorem wnb_1 {w h c : Nat} : wnb w h c 1 = if c / 12 + 1 < h then some (c + 12) else none := rfl
theorem wnb_2 {w h c : Nat} : wnb w h c 2 = if 0 < c % 12 then some (c - 1) else none := rfl
theorem wnb_3 {w h c : Nat} : wnb w h c 3 = if 0 < c / 12 then some (c - 12) else none := rfl
def mnb (w h e d : Nat) : Int32 := match wnb w h e d with
  | some x => nI (mI w x)
  | none => -1
def zc_X8_sideOf (a : List Value) (M : zMm) (K : zKt) : Prop := match a with
  | [.ref k, .int c, .int d'] => k = 200 ∧ ∃ w h e d, M.2.1 200 2 = nI w ∧ M.2.1 200 3 = nI h ∧ 1 ≤ w ∧ w ≤ 12 ∧ 1 ≤ h ∧ h ≤ 10 ∧ wil w h e ∧ c = nI (mI w e) ∧ d' = nI d ∧ d < 4 ∧ K (some (.int (mnb w h e d))) M
  | _ => False
set_option maxHeartbeats 2000000 in
theorem zm_X8_sideOf (l : Launch) (D : va_G) (Y : Nat → ClassId) : zMt l D Y yX8_sideOf cX8_sideOf 5 (some .int) 2 47 0 0 zc_X8_sideOf := by
  refine zflat (by decide) (fun K J _ _ => zb_X8_sideOf_0 K J) (fun X hR => zbs_X8_sideOf_0 hR zJ0 zJ0_ok) (fun avs M K h => ?_)
  unfold zc_X8_sideOf at h
  split at h
  · next k c d' =>
    obtain ⟨rfl, w, h', e, d, e1, e2, w1, w2, h1, h2, hwil, rfl, rfl, hd, h⟩ := h
    obtain ⟨m1, m2⟩ := mI_dm hwil.1
    have hlt := mI_120 w2 h2 hwil
    have hx := hwil.1
    have hy := hwil.2
    refine ⟨by simp [zent], ?_⟩
    have hdiv : nI (mI w e) / nI w = nI (e / 12) := by rw [pk_div (by omega) (by omega) (by omega), m1]
    have hrem : nI (mI w e) - nI (e / 12) * nI w = nI (e % 12) := by rw [← hdiv, pk_rem (by omega) (by omega) (by omega), m2]
    have hw0 : ¬ nI w = 0 := fun z => by
      have := (nI_eq (b := 0) (show w < 2 ^ 31 by omega) (by decide)).mp z
      omega
    have fin : ∀ X y0 dy : Int32, ((0 ≤ X ∧ X < nI w ∧ 0 ≤ y0 + dy ∧ y0 + dy < nI h') → mnb w h' e d = (y0 + dy) * nI w + X) → (¬ (0 ≤ X ∧ X < nI w ∧ 0 ≤ y0 + dy ∧ y0 + dy < nI h') → mnb w h' e d = -1) → zb_X8_sideOf_51 K zJ0 M [some (.ref 200), some (.int (nI (mI w e))), some (.int (nI d)), some (.int X), none] [.int dy, .int y0] := by
      intro X y0 dy ht hf
      simp only [zb_X8_sideOf_51, zb_X8_sideOf_77, zsh_200, e1, zT_push, zT_bin, zT_div, zT_bil, zT_shl, zT_un, zT_i2l, zT_l2i, zT_lcmp, zT_ild, zT_lld, zT_ald, zT_ist, zT_lst, zT_ast, zT_iinc, zT_dup, zT_dup2, zT_pop, zT_if1, zT_if2, zT_ifn, zT_getI, zT_getJ, zT_getR, zT_putI, zT_putZ, zT_putJ, zT_putR, zT_ald0, zT_lald, zT_aald, zT_iast, zT_zast, zT_bast, zT_last, zT_aast, zT_iret, zT_nret, zT_aret, zT_vret, zT_oi, zT_mm, zT_ialX, zT_S1, zT_S2, zT_S3, zT_V0, zT_V1, zT_V2, zT_V3, zT_V4, zT_V5, zT_V6, zT_I0, zT_I1, zT_I2, zlg, zlset, zlpr, zent, zok, va_rf, List.length_cons, List.length_nil, List.replicate, List.cons_append, List.nil_append, List.append_nil, Option.toList_some, Option.toList_none, Option.toList, Nat.reduceAdd, Nat.reduceSub, Nat.reduceLeDiff, Nat.zero_add, Nat.zero_le, true_and, and_true, Nat.le_refl, ge_iff_le, Nat.reduceEqDiff]
      unfold zc_X8_isCell
      try dsimp only
      refine ⟨rfl, w, h', e1, e2, w1, w2, h1, h2, ?_⟩
      simp only [zbI_0, e1, zT_push, zT_bin, zT_div, zT_bil, zT_shl, zT_un, zT_i2l, zT_l2i, zT_lcmp, zT_ild, zT_lld, zT_ald, zT_ist, zT_lst, zT_ast, zT_iinc, zT_dup, zT_dup2, zT_pop, zT_if1, zT_if2, zT_ifn, zT_getI, zT_getJ, zT_getR, zT_putI, zT_putZ, zT_putJ, zT_putR, zT_ald0, zT_lald, zT_aald, zT_iast, zT_zast, zT_bast, zT_last, zT_aast, zT_iret, zT_nret, zT_aret, zT_vret, zT_oi, zT_mm, zT_ialX, zT_S1, zT_S2, zT_S3, zT_V0, zT_V1, zT_V2, zT_V3, zT_V4, zT_V5, zT_V6, zT_I0, zT_I1, zT_I2, zlg, zlset, zlpr, zent, zok, va_rf, List.length_cons, List.length_nil, List.replicate, List.cons_append, List.nil_append, List.append_nil, Option.toList_some, Option.toList_none, Option.toList, Nat.reduceAdd, Nat.reduceSub, Nat.reduceLeDiff, Nat.zero_add, Nat.zero_le, true_and, and_true, Nat.le_refl, ge_iff_le, Nat.reduceEqDiff]
      refine ⟨fun q => ?_, fun q => ?_⟩
      · rw [hf q] at h; exact h
      · rw [ht (Classical.not_not.mp q)] at h; exact h
    have mid : ∀ dx : Int32, (∀ dy, (d = 1 → dy = 1) → (d = 3 → dy = -1) → (d ≠ 1 → d ≠ 3 → dy = 0) → zb_X8_sideOf_51 K zJ0 M [some (.ref 200), some (.int (nI (mI w e))), some (.int (nI d)), some (.int (nI (e % 12) + dx)), none] [.int dy, .int (nI (e / 12))]) → zb_X8_sideOf_24 K zJ0 M [some (.ref 200), some (.int (nI (mI w e))), some (.int (nI d)), none, none] [.int dx, .int (nI (e % 12))] := by
      intro dx hg
      simp only [zb_X8_sideOf_24, zsh_200, e1, hdiv, zT_push, zT_bin, zT_div, zT_bil, zT_shl, zT_un, zT_i2l, zT_l2i, zT_lcmp, zT_ild, zT_lld, zT_ald, zT_ist, zT_lst, zT_ast, zT_iinc, zT_dup, zT_dup2, zT_pop, zT_if1, zT_if2, zT_ifn, zT_getI, zT_getJ, zT_getR, zT_putI, zT_putZ, zT_putJ, zT_putR, zT_ald0, zT_lald, zT_aald, zT_iast, zT_zast, zT_bast, zT_last, zT_aast, zT_iret, zT_nret, zT_aret, zT_vret, zT_oi, zT_mm, zT_ialX, zT_S1, zT_S2, zT_S3, zT_V0, zT_V1, zT_V2, zT_V3, zT_V4, zT_V5, zT_V6, zT_I0, zT_I1, zT_I2, zlg, zlset, zlpr, zent, zok, va_rf, List.length_cons, List.length_nil, List.replicate, List.cons_append, List.nil_append, List.append_nil, Option.toList_some, Option.toList_none, Option.toList, Nat.reduceAdd, Nat.reduceSub, Nat.reduceLeDiff, Nat.zero_add, Nat.zero_le, true_and, and_true, Nat.le_refl, ge_iff_le, Nat.reduceEqDiff]
      have deq : ∀ b, b < 4 → (nI d = nI b ↔ d = b) := fun b hb => nI_eq (by omega) (by omega)
      refine ⟨hw0, fun q => ?_, fun q => ⟨fun q2 => ?_, fun q2 => ?_⟩⟩
      · have := (deq 1 (by decide)).mp q
        exact hg 1 (fun _ => rfl) (fun z => by omega) (fun z => absurd this z)
      · have := (deq 3 (by decide)).mp q2
        exact hg (-1) (fun z => by omega) (fun _ => rfl) (fun _ z => absurd this z)
      · exact hg 0 (fun z => absurd ((deq 1 (by decide)).mpr z) q) (fun z => absurd ((deq 3 (by decide)).mpr z) q2) (fun _ _ => rfl)
    have key : ∀ dx dy : Int32, (d = 0 → dx = 1) → (d = 2 → dx = -1) → (d ≠ 0 → d ≠ 2 → dx = 0) → (d = 1 → dy = 1) → (d = 3 → dy = -1) → (d ≠ 1 → d ≠ 3 → dy = 0) → zb_X8_sideOf_51 K zJ0 M [some (.ref 200), some (.int (nI (mI w e))), some (.int (nI d)), some (.int (nI (e % 12) + dx)), none] [.int dy, .int (nI (e / 12))] := by
      intro dx dy q1 q2 q3 q4 q5 q6
      have pos : ∀ n, n < 2 ^ 31 → (0 : Int32) ≤ nI n := fun n hn => (nI_leI (a := 0) (by decide) hn).mpr (Nat.zero_le _)
      have z0 : ∀ n : Nat, nI n + 0 = nI n := fun n => Int32.add_zero _
      have zm : ∀ n : Nat, 1 ≤ n → nI n + (-1) = nI (n - 1) := fun n hn => by
        obtain ⟨m, rfl⟩ : ∃ m, n = m + 1 := ⟨n - 1, by omega⟩
        rw [← nI_1]
        show nI m + 1 + (-1) = nI m
        rw [Int32.add_assoc]
        exact Int32.add_zero _
      have zn : ¬ (0 : Int32) ≤ nI 0 + (-1) := by decide
      have hd4 : d = 0 ∨ d = 1 ∨ d = 2 ∨ d = 3 := by omega
      rcases hd4 with rfl | rfl | rfl | rfl
      · rw [q1 rfl, q6 (by decide) (by decide)]
        refine fin _ _ _ (fun z => ?_) (fun z => ?_)
        · rw [z0, nI_1] at z ⊢
          have := (nI_ltI (by omega) (by omega)).mp z.2.1
          unfold mnb
          rw [wnb_0]
          rw [if_pos this, pk_mul, nI_add]
          try dsimp only
          unfold mI
          rw [show (e + 1) / 12 = e / 12 by omega, show (e + 1) % 12 = e % 12 + 1 by omega]
        · rw [z0, nI_1] at z
          unfold mnb
          rw [wnb_0]
          rw [if_neg (fun q => z ⟨pos _ (by omega), (nI_ltI (by omega) (by omega)).mpr q, pos _ (by omega), (nI_ltI (by omega) (by omega)).mpr hy⟩)]
      · rw [q3 (by decide) (by decide), q4 rfl]
        refine fin _ _ _ (fun z => ?_) (fun z => ?_)
        · rw [z0, nI_1] at z ⊢
          have := (nI_ltI (by omega) (by omega)).mp z.2.2.2
          unfold mnb
          rw [wnb_1]
          rw [if_pos this, pk_mul, nI_add]
          try dsimp only
          unfold mI
          rw [show (e + 12) / 12 = e / 12 + 1 by omega, show (e + 12) % 12 = e % 12 by omega]
        · rw [z0, nI_1] at z
          unfold mnb
          rw [wnb_1]
          rw [if_neg (fun q => z ⟨pos _ (by omega), (nI_ltI (by omega) (by omega)).mpr hx, pos _ (by omega), (nI_ltI (by omega) (by omega)).mpr q⟩)]
      · rw [q2 rfl, q6 (by decide) (by decide)]
        refine fin _ _ _ (fun z => ?_) (fun z => ?_)
        · have hp : 0 < e % 12 := by
            rcases Nat.eq_zero_or_pos (e % 12) with q | q
            · rw [q] at z; exact absurd z.1 zn
            · exact q
          rw [z0, zm _ hp]
          unfold mnb
          rw [wnb_2]
          rw [if_pos hp, pk_mul, nI_add]
          try dsimp only
          unfold mI
          rw [show (e - 1) / 12 = e / 12 by omega, show (e - 1) % 12 = e % 12 - 1 by omega]
        · unfold mnb
          rw [wnb_2]
          rw [if_neg (fun q => z ?_)]
          rw [z0, zm _ q]
          exact ⟨pos _ (by omega), (nI_ltI (by omega) (by omega)).mpr (by omega), pos _ (by omega), (nI_ltI (by omega) (by omega)).mpr hy⟩
      · rw [q3 (by decide) (by decide), q5 rfl]
        refine fin _ _ _ (fun z => ?_) (fun z => ?_)
        · have hp : 0 < e / 12 := by
            rcases Nat.eq_zero_or_pos (e / 12) with q | q
            · rw [q] at z; exact absurd z.2.2.1 zn
            · exact q
          rw [z0, zm _ hp]
          unfold mnb
          rw [wnb_3]
          rw [if_pos hp, pk_mul, nI_add]
          try dsimp only
          unfold mI
          rw [show (e - 12) / 12 = e / 12 - 1 by omega, show (e - 12) % 12 = e % 12 by omega]
        · unfold mnb
          rw [wnb_3]
          rw [if_neg (fun q => z ?_)]
          rw [z0, zm _ q]
          exact ⟨pos _ (by omega), (nI_ltI (by omega) (by omega)).mpr hx, pos _ (by omega), (nI_ltI (by omega) (by omega)).mpr (by omega)⟩
    simp only [zb_X8_sideOf_0, zsh_200, e1, hdiv, hrem, zT_push, zT_bin, zT_div, zT_bil, zT_shl, zT_un, zT_i2l, zT_l2i, zT_lcmp, zT_ild, zT_lld, zT_ald, zT_ist, zT_lst, zT_ast, zT_iinc, zT_dup, zT_dup2, zT_pop, zT_if1, zT_if2, zT_ifn, zT_getI, zT_getJ, zT_getR, zT_putI, zT_putZ, zT_putJ, zT_putR, zT_ald0, zT_lald, zT_aald, zT_iast, zT_zast, zT_bast, zT_last, zT_aast, zT_iret, zT_nret, zT_aret, zT_vret, zT_oi, zT_mm, zT_ialX, zT_S1, zT_S2, zT_S3, zT_V0, zT_V1, zT_V2, zT_V3, zT_V4, zT_V5, zT_V6, zT_I0, zT_I1, zT_I2, zlg, zlset, zlpr, zent, zok, va_rf, List.length_cons, List.length_nil, List.replicate, List.cons_append, List.nil_append, List.append_nil, Option.toList_some, Option.toList_none, Option.toList, Nat.reduceAdd, Nat.reduceSub, Nat.reduceLeDiff, Nat.zero_add, Nat.zero_le, true_and, and_true, Nat.le_refl, ge_iff_le, Nat.reduceEqDiff]
    have deq : ∀ b, b < 4 → (nI d = nI b ↔ d = b) := fun b hb => nI_eq (by omega) (by omega)
    refine ⟨hw0, fun q => mid 1 (fun dy a b c => key 1 dy ?_ ?_ ?_ a b c), fun q => ⟨fun q2 => mid (-1) (fun dy a b c => key (-1) dy ?_ ?_ ?_ a b c), fun q2 => mid 0 (fun dy a b c => key 0 dy ?_ ?_ ?_ a b c)⟩⟩
    · exact fun _ => rfl
    · intro z; have := (deq 0 (by decide)).mp q; omega
    · intro z; exact absurd ((deq 0 (by decide)).mp q) z
    · intro z; have := (deq 2 (by decide)).mp q2; omega
    · exact fun _ => rfl
    · intro _ z; exact absurd ((deq 2 (by decide)).mp q2) z
    · intro z; exact absurd ((deq 0 (by decide)).mpr z) q
    · intro z; exact absurd ((deq 2 (by decide)).mpr z) q2
    · exact fun _ _ => rfl
  · exact h.elim
