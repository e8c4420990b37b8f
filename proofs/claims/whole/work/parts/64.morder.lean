/-! DeltaRunsModel putInOrder -/
theorem zd_X8_putInOrder_0 : decode cX8_putInOrder 0 = .ok (.aload_n 0, 1) := by decide +kernel
theorem zd_X8_putInOrder_1 : decode cX8_putInOrder 1 = .ok (.getfield 7, 3) := by decide +kernel
theorem zd_X8_putInOrder_4 : decode cX8_putInOrder 4 = .ok (.aload_n 0, 1) := by decide +kernel
theorem zd_X8_putInOrder_5 : decode cX8_putInOrder 5 = .ok (.getfield 13, 3) := by decide +kernel
theorem zd_X8_putInOrder_8 : decode cX8_putInOrder 8 = .ok (.imul, 1) := by decide +kernel
theorem zd_X8_putInOrder_9 : decode cX8_putInOrder 9 = .ok (.istore_n 1, 1) := by decide +kernel
theorem zd_X8_putInOrder_10 : decode cX8_putInOrder 10 = .ok (.iconst 0, 1) := by decide +kernel
theorem zd_X8_putInOrder_11 : decode cX8_putInOrder 11 = .ok (.istore_n 2, 1) := by decide +kernel
theorem zd_X8_putInOrder_12 : decode cX8_putInOrder 12 = .ok (.iload_n 2, 1) := by decide +kernel
theorem zd_X8_putInOrder_13 : decode cX8_putInOrder 13 = .ok (.iload_n 1, 1) := by decide +kernel
theorem zd_X8_putInOrder_14 : decode cX8_putInOrder 14 = .ok (.if_icmp .ge 64, 3) := by decide +kernel
theorem zd_X8_putInOrder_17 : decode cX8_putInOrder 17 = .ok (.iload_n 2, 1) := by decide +kernel
theorem zd_X8_putInOrder_18 : decode cX8_putInOrder 18 = .ok (.istore_n 3, 1) := by decide +kernel
theorem zd_X8_putInOrder_19 : decode cX8_putInOrder 19 = .ok (.iload_n 3, 1) := by decide +kernel
theorem zd_X8_putInOrder_20 : decode cX8_putInOrder 20 = .ok (.ifCond .le 45, 3) := by decide +kernel
theorem zd_X8_putInOrder_23 : decode cX8_putInOrder 23 = .ok (.aload_n 0, 1) := by decide +kernel
theorem zd_X8_putInOrder_24 : decode cX8_putInOrder 24 = .ok (.getfield 50, 3) := by decide +kernel
theorem zd_X8_putInOrder_27 : decode cX8_putInOrder 27 = .ok (.aload_n 0, 1) := by decide +kernel
theorem zd_X8_putInOrder_28 : decode cX8_putInOrder 28 = .ok (.getfield 63, 3) := by decide +kernel
theorem zd_X8_putInOrder_31 : decode cX8_putInOrder 31 = .ok (.iload_n 3, 1) := by decide +kernel
theorem zd_X8_putInOrder_32 : decode cX8_putInOrder 32 = .ok (.iconst 1, 1) := by decide +kernel
theorem zd_X8_putInOrder_33 : decode cX8_putInOrder 33 = .ok (.isub, 1) := by decide +kernel
theorem zd_X8_putInOrder_34 : decode cX8_putInOrder 34 = .ok (.iaload, 1) := by decide +kernel
theorem zd_X8_putInOrder_35 : decode cX8_putInOrder 35 = .ok (.iaload, 1) := by decide +kernel
theorem zd_X8_putInOrder_36 : decode cX8_putInOrder 36 = .ok (.aload_n 0, 1) := by decide +kernel
theorem zd_X8_putInOrder_37 : decode cX8_putInOrder 37 = .ok (.getfield 50, 3) := by decide +kernel
theorem zd_X8_putInOrder_40 : decode cX8_putInOrder 40 = .ok (.iload_n 2, 1) := by decide +kernel
theorem zd_X8_putInOrder_41 : decode cX8_putInOrder 41 = .ok (.iaload, 1) := by decide +kernel
theorem zd_X8_putInOrder_42 : decode cX8_putInOrder 42 = .ok (.if_icmp .ge 23, 3) := by decide +kernel
theorem zd_X8_putInOrder_45 : decode cX8_putInOrder 45 = .ok (.aload_n 0, 1) := by decide +kernel
theorem zd_X8_putInOrder_46 : decode cX8_putInOrder 46 = .ok (.getfield 63, 3) := by decide +kernel
theorem zd_X8_putInOrder_49 : decode cX8_putInOrder 49 = .ok (.iload_n 3, 1) := by decide +kernel
theorem zd_X8_putInOrder_50 : decode cX8_putInOrder 50 = .ok (.aload_n 0, 1) := by decide +kernel
theorem zd_X8_putInOrder_51 : decode cX8_putInOrder 51 = .ok (.getfield 63, 3) := by decide +kernel
theorem zd_X8_putInOrder_54 : decode cX8_putInOrder 54 = .ok (.iload_n 3, 1) := by decide +kernel
theorem zd_X8_putInOrder_55 : decode cX8_putInOrder 55 = .ok (.iconst 1, 1) := by decide +kernel
theorem zd_X8_putInOrder_56 : decode cX8_putInOrder 56 = .ok (.isub, 1) := by decide +kernel
theorem zd_X8_putInOrder_57 : decode cX8_putInOrder 57 = .ok (.iaload, 1) := by decide +kernel
theorem zd_X8_putInOrder_58 : decode cX8_putInOrder 58 = .ok (.iastore, 1) := by decide +kernel
theorem zd_X8_putInOrder_59 : decode cX8_putInOrder 59 = .ok (.iinc 3 (-1), 3) := by decide +kernel
theorem zd_X8_putInOrder_62 : decode cX8_putInOrder 62 = .ok (.goto (-43), 3) := by decide +kernel
theorem zd_X8_putInOrder_65 : decode cX8_putInOrder 65 = .ok (.aload_n 0, 1) := by decide +kernel
theorem zd_X8_putInOrder_66 : decode cX8_putInOrder 66 = .ok (.getfield 63, 3) := by decide +kernel
theorem zd_X8_putInOrder_69 : decode cX8_putInOrder 69 = .ok (.iload_n 3, 1) := by decide +kernel
theorem zd_X8_putInOrder_70 : decode cX8_putInOrder 70 = .ok (.iload_n 2, 1) := by decide +kernel
theorem zd_X8_putInOrder_71 : decode cX8_putInOrder 71 = .ok (.iastore, 1) := by decide +kernel
theorem zd_X8_putInOrder_72 : decode cX8_putInOrder 72 = .ok (.iinc 2 1, 3) := by decide +kernel
theorem zd_X8_putInOrder_75 : decode cX8_putInOrder 75 = .ok (.goto (-63), 3) := by decide +kernel
theorem zd_X8_putInOrder_78 : decode cX8_putInOrder 78 = .ok (.return_, 1) := by decide +kernel
def zb_X8_putInOrder_0 (K : zKt) (J : Nat → zPP) : zPP := zT_ald 0 (zT_getI 8 2 38 (zT_ald 0 (zT_getI 8 3 38 (zT_bin (fun x y => x * y) (zT_ist 1 (zT_push (.int 0) (zT_ist 2 (J 12))))))))
theorem zbs_X8_putInOrder_0 {X : zCt} (hR : zRX X = { frames := 0, cells := 0, slots := 0, locals := 0 }) (J : Nat → zPP) (hJ : ∀ h ∈ ([12, 19] : List Nat), zSd X RX8 "putInOrder" cX8_putInOrder 4 none h (J h)) : zSd X RX8 "putInOrder" cX8_putInOrder 4 none 0 (zb_X8_putInOrder_0 (zKX X) J) := zs_aload_n zd_X8_putInOrder_0 rfl (zs_getI (ci := 8) (j := 2) (T := TX8) rfl inX8 (by decide) gw_3_91 rfl zd_X8_putInOrder_1 (zs_aload_n zd_X8_putInOrder_4 rfl (zs_getI (ci := 8) (j := 3) (T := TX8) rfl inX8 (by decide) gw_3_92 rfl zd_X8_putInOrder_5 (zs_imul zd_X8_putInOrder_8 (zs_istore_n zd_X8_putInOrder_9 rfl (by decide) (zs_iconst zd_X8_putInOrder_10 (by decide) (zs_istore_n zd_X8_putInOrder_11 rfl (by decide) (hJ 12 (by decide)))))))))
def zb_X8_putInOrder_12 (K : zKt) (J : Nat → zPP) : zPP := zT_ild 2 (zT_ild 1 (zT_if2 (fun x y => y ≤ x) (zT_vret K) (zT_ild 2 (zT_ist 3 (J 19)))))
theorem zbs_X8_putInOrder_12 {X : zCt} (hR : zRX X = { frames := 0, cells := 0, slots := 0, locals := 0 }) (J : Nat → zPP) (hJ : ∀ h ∈ ([12, 19] : List Nat), zSd X RX8 "putInOrder" cX8_putInOrder 4 none h (J h)) : zSd X RX8 "putInOrder" cX8_putInOrder 4 none 12 (zb_X8_putInOrder_12 (zKX X) J) := zs_iload_n zd_X8_putInOrder_12 rfl (zs_iload_n zd_X8_putInOrder_13 rfl (zs_icmp_ge (tgt := 78) zd_X8_putInOrder_14 (by decide) (zs_vret rfl zd_X8_putInOrder_78) (zs_iload_n zd_X8_putInOrder_17 rfl (zs_istore_n zd_X8_putInOrder_18 rfl (by decide) (hJ 19 (by decide))))))
def zb_X8_putInOrder_65 (K : zKt) (J : Nat → zPP) : zPP := zT_ald 0 (zT_getR 8 28 38 (zT_ild 3 (zT_ild 2 (zT_iast (zT_iinc 2 1 (J 12))))))
theorem zbs_X8_putInOrder_65 {X : zCt} (hR : zRX X = { frames := 0, cells := 0, slots := 0, locals := 0 }) (J : Nat → zPP) (hJ : ∀ h ∈ ([12, 19] : List Nat), zSd X RX8 "putInOrder" cX8_putInOrder 4 none h (J h)) : zSd X RX8 "putInOrder" cX8_putInOrder 4 none 65 (zb_X8_putInOrder_65 (zKX X) J) := zs_aload_n zd_X8_putInOrder_65 rfl (zs_getR (ci := 8) (j := 28) (T := TX8) rfl inX8 (by decide) gw_3_117 rfl zd_X8_putInOrder_66 (zs_iload_n zd_X8_putInOrder_69 rfl (zs_iload_n zd_X8_putInOrder_70 rfl (zs_iast zd_X8_putInOrder_71 (zs_iinc zd_X8_putInOrder_72 (by decide) (by decide) (zs_goto (tgt := 12) zd_X8_putInOrder_75 (by decide) (hJ 12 (by decide))))))))
def zb_X8_putInOrder_19 (K : zKt) (J : Nat → zPP) : zPP := zT_ild 3 (zT_if1 (fun x => x ≤ 0) (zb_X8_putInOrder_65 K J) (zT_ald 0 (zT_getR 8 24 38 (zT_ald 0 (zT_getR 8 28 38 (zT_ild 3 (zT_push (.int 1) (zT_bin (fun x y => x - y) (zT_ald0 0 (zT_ald0 0 (zT_ald 0 (zT_getR 8 24 38 (zT_ild 2 (zT_ald0 0 (zT_if2 (fun x y => y ≤ x) (zb_X8_putInOrder_65 K J) (zT_ald 0 (zT_getR 8 28 38 (zT_ild 3 (zT_ald 0 (zT_getR 8 28 38 (zT_ild 3 (zT_push (.int 1) (zT_bin (fun x y => x - y) (zT_ald0 0 (zT_iast (zT_iinc 3 (-1) (J 19)))))))))))))))))))))))))))
theorem zbs_X8_putInOrder_19 {X : zCt} (hR : zRX X = { frames := 0, cells := 0, slots := 0, locals := 0 }) (J : Nat → zPP) (hJ : ∀ h ∈ ([12, 19] : List Nat), zSd X RX8 "putInOrder" cX8_putInOrder 4 none h (J h)) : zSd X RX8 "putInOrder" cX8_putInOrder 4 none 19 (zb_X8_putInOrder_19 (zKX X) J) := zs_iload_n zd_X8_putInOrder_19 rfl (zs_if_le (tgt := 65) zd_X8_putInOrder_20 (by decide) (zbs_X8_putInOrder_65 hR J hJ) (zs_aload_n zd_X8_putInOrder_23 rfl (zs_getR (ci := 8) (j := 24) (T := TX8) rfl inX8 (by decide) gw_3_113 rfl zd_X8_putInOrder_24 (zs_aload_n zd_X8_putInOrder_27 rfl (zs_getR (ci := 8) (j := 28) (T := TX8) rfl inX8 (by decide) gw_3_117 rfl zd_X8_putInOrder_28 (zs_iload_n zd_X8_putInOrder_31 rfl (zs_iconst zd_X8_putInOrder_32 (by decide) (zs_isub zd_X8_putInOrder_33 (zs_iald zd_X8_putInOrder_34 (zs_iald zd_X8_putInOrder_35 (zs_aload_n zd_X8_putInOrder_36 rfl (zs_getR (ci := 8) (j := 24) (T := TX8) rfl inX8 (by decide) gw_3_113 rfl zd_X8_putInOrder_37 (zs_iload_n zd_X8_putInOrder_40 rfl (zs_iald zd_X8_putInOrder_41 (zs_icmp_ge (tgt := 65) zd_X8_putInOrder_42 (by decide) (zbs_X8_putInOrder_65 hR J hJ) (zs_aload_n zd_X8_putInOrder_45 rfl (zs_getR (ci := 8) (j := 28) (T := TX8) rfl inX8 (by decide) gw_3_117 rfl zd_X8_putInOrder_46 (zs_iload_n zd_X8_putInOrder_49 rfl (zs_aload_n zd_X8_putInOrder_50 rfl (zs_getR (ci := 8) (j := 28) (T := TX8) rfl inX8 (by decide) gw_3_117 rfl zd_X8_putInOrder_51 (zs_iload_n zd_X8_putInOrder_54 rfl (zs_iconst zd_X8_putInOrder_55 (by decide) (zs_isub zd_X8_putInOrder_56 (zs_iald zd_X8_putInOrder_57 (zs_iast zd_X8_putInOrder_58 (zs_iinc zd_X8_putInOrder_59 (by decide) (by decide) (zs_goto (tgt := 19) zd_X8_putInOrder_62 (by decide) (hJ 19 (by decide)))))))))))))))))))))))))))))
def zB_X8_putInOrder (K : zKt) (J : Nat → zPP) (h : Nat) : zPP := if h = 12 then zb_X8_putInOrder_12 K J else if h = 19 then zb_X8_putInOrder_19 K J else (fun _ _ _ => False)
theorem zBs_X8_putInOrder {X : zCt} (hR : zRX X = { frames := 0, cells := 0, slots := 0, locals := 0 }) : ∀ J : Nat → zPP, (∀ h ∈ ([12, 19] : List Nat), zSd X RX8 "putInOrder" cX8_putInOrder 4 none h (J h)) → ∀ h ∈ ([12, 19] : List Nat), zSd X RX8 "putInOrder" cX8_putInOrder 4 none h (zB_X8_putInOrder (zKX X) J h) := by
  intro J hJ h hh
  unfold zB_X8_putInOrder
  simp only [List.mem_cons, List.not_mem_nil, or_false] at hh
  rcases hh with rfl | rfl
  · exact zbs_X8_putInOrder_12 hR J hJ
  · exact zbs_X8_putInOrder_19 hR J hJ
theorem zdn_X8_putInOrder : yX8_putInOrder.cls ≠ "java/lang/invoke/MethodHandle" ∧ yX8_putInOrder.cls ≠ "java/lang/invoke/VarHandle" ∧ (parseMethodDescriptor yX8_putInOrder.desc).map (fun d => d.parameters.length) = some 0 := by decide +kernel
/-- o lists the Model's first k cells, the high ones first -/
def mor (w h : Nat) (H : Nat → Nat) (k : Nat) (o : Nat → Nat) : Prop := (∀ i, i < k → wil w h (o i) ∧ mI w (o i) < k) ∧ (∀ i j, i < j → j < k → H (o j) ≤ H (o i) ∧ o i ≠ o j) ∧ ∀ e, wil w h e → mI w e < k → ∃ i, i < k ∧ o i = e
def mins (o : Nat → Nat) (a c : Nat) (i : Nat) : Nat := if i < a then o i else if i = a then c else o (i - 1)
theorem mor_ins {w h k a c : Nat} {H o : Nat → Nat} (ho : mor w h H k o) (hc : wil w h c) (hk : mI w c = k) (ha : a ≤ k) (hlo : ∀ i, a ≤ i → i < k → H (o i) < H c) (hhi : a = 0 ∨ H c ≤ H (o (a - 1))) : mor w h H (k + 1) (mins o a c) := by
  obtain ⟨h1, h2, h3⟩ := ho
  have hne : ∀ i, i < k → o i ≠ c := fun i hi z => by
    have := (h1 i hi).2
    rw [z, hk] at this
    omega
  have hup : ∀ i, i < a → H c ≤ H (o i) := by
    intro i hi
    rcases hhi with z | z
    · omega
    · rcases Nat.lt_or_ge i (a - 1) with q | q
      · exact Nat.le_trans z (h2 i (a - 1) q (by omega)).1
      · have : i = a - 1 := by omega
        rw [this]; exact z
  refine ⟨fun i hi => ?_, fun i j hij hj => ?_, fun e he hek => ?_⟩
  · unfold mins
    split
    · have := h1 i (by omega)
      exact ⟨this.1, by omega⟩
    · split
      · exact ⟨hc, by omega⟩
      · have := h1 (i - 1) (by omega)
        exact ⟨this.1, by omega⟩
  · unfold mins
    by_cases q1 : i < a
    · rw [if_pos q1]
      by_cases q2 : j < a
      · rw [if_pos q2]; exact h2 i j hij (by omega)
      · rw [if_neg q2]
        by_cases q3 : j = a
        · rw [if_pos q3]; exact ⟨hup i q1, hne i (by omega)⟩
        · rw [if_neg q3]; exact h2 i (j - 1) (by omega) (by omega)
    · rw [if_neg q1, if_neg (show ¬ j < a by omega), if_neg (show ¬ j = a by omega)]
      by_cases q3 : i = a
      · rw [if_pos q3]; exact ⟨Nat.le_of_lt (hlo (j - 1) (by omega) (by omega)), fun z => hne (j - 1) (by omega) z.symm⟩
      · rw [if_neg q3]; exact h2 (i - 1) (j - 1) (by omega) (by omega)
  · rcases Nat.lt_or_ge (mI w e) k with q | q
    · obtain ⟨i, hi, rfl⟩ := h3 e he q
      rcases Nat.lt_or_ge i a with q2 | q2
      · exact ⟨i, by omega, by unfold mins; rw [if_pos q2]⟩
      · exact ⟨i + 1, by omega, by unfold mins; rw [if_neg (by omega), if_neg (by omega)]; rfl⟩
    · have : e = c := mI_inj he.1 hc.1 (by omega)
      exact ⟨a, by omega, by unfold mins; rw [if_neg (by omega), if_pos rfl, this]⟩
def zc_X8_putInOrder (a : List Value) (M : zMm) (K : zKt) : Prop := match a with
  | [.ref k] => k = 200 ∧ zMr M ∧ ∃ w h H, M.2.1 200 2 = nI w ∧ M.2.1 200 3 = nI h ∧ 1 ≤ w ∧ w ≤ 12 ∧ 1 ≤ h ∧ h ≤ 10 ∧ zmh M w h H ∧ ∀ M' o, zsm [213] M M' → mor w h H (w * h) o → (∀ i, i < w * h → M'.2.1 213 i = nI (mI w (o i))) → K none M'
  | _ => False
set_option maxHeartbeats 2000000 in
theorem zm_X8_putInOrder (l : Launch) (D : va_G) (Y : Nat → ClassId) : zMt l D Y yX8_putInOrder cX8_putInOrder 4 none 0 0 0 0 zc_X8_putInOrder := by
  refine zwhile (heads := [12, 19]) (by decide) (fun K J _ _ => zb_X8_putInOrder_0 K J) (fun K _ _ J h => zB_X8_putInOrder K J h) (fun X hR J hJ => zbs_X8_putInOrder_0 hR J hJ) (fun X hR => zBs_X8_putInOrder hR) (fun avs M K h => ?_)
  unfold zc_X8_putInOrder at h
  split at h
  · obtain ⟨rfl, g1, w, h', H, w1, w2, b1, b2, b3, b4, hH, h⟩ := h
    have hwh : w * h' ≤ 12 * 10 := Nat.mul_le_mul b2 b4
    obtain ⟨r7, -, -, -, -, -, -, -, r24, r25, r26, r27, r28, -⟩ := id g1
    refine ⟨by simp [zent], fun q hd M' ls st => zsm [213] M M' ∧ ((hd = 12 ∧ ∃ k o a, q = (120 - k) * 200 ∧ k ≤ w * h' ∧ mor w h' H k o ∧ (∀ i, i < k → M'.2.1 213 i = nI (mI w (o i))) ∧ ls = [some (.ref 200), some (.int (nI (w * h'))), some (.int (nI k)), a] ∧ st = []) ∨
      (hd = 19 ∧ ∃ k o a, q = (120 - k) * 200 - 150 + a ∧ k < w * h' ∧ a ≤ k ∧ mor w h' H k o ∧ (∀ i, i < a → M'.2.1 213 i = nI (mI w (o i))) ∧ (∀ i, a ≤ i → i < k → M'.2.1 213 (i + 1) = nI (mI w (o i)) ∧ H (o i) < H (mB w k)) ∧ ls = [some (.ref 200), some (.int (nI (w * h'))), some (.int (nI k)), some (.int (nI a))] ∧ st = [])), ?_, ?_⟩
    · rintro q J hJ hd - M' ls st ⟨hs, ⟨rfl, k, o, a, rfl, hk, ho, hc, rfl, rfl⟩ | ⟨rfl, k, o, a, rfl, hk, ha, ho, hc1, hc2, rfl, rfl⟩⟩
      · simp only [zB_X8_putInOrder, zb_X8_putInOrder_12, ↓reduceIte, zsh_200, zT_push, zT_bin, zT_div, zT_bil, zT_shl, zT_un, zT_i2l, zT_l2i, zT_lcmp, zT_ild, zT_lld, zT_ald, zT_ist, zT_lst, zT_ast, zT_iinc, zT_dup, zT_dup2, zT_pop, zT_if1, zT_if2, zT_ifn, zT_getI, zT_getJ, zT_getR, zT_putI, zT_putZ, zT_putJ, zT_putR, zT_ald0, zT_lald, zT_aald, zT_iast, zT_zast, zT_bast, zT_last, zT_aast, zT_iret, zT_nret, zT_aret, zT_vret, zT_oi, zT_mm, zT_ialX, zT_S1, zT_S2, zT_S3, zT_V0, zT_V1, zT_V2, zT_V3, zT_V4, zT_V5, zT_V6, zT_I0, zT_I1, zT_I2, zlg, zlset, zlpr, zent, zok, va_rf, List.length_cons, List.length_nil, List.replicate, List.cons_append, List.nil_append, List.append_nil, Option.toList_some, Option.toList_none, Option.toList, Nat.reduceAdd, Nat.reduceSub, Nat.reduceLeDiff, Nat.zero_add, Nat.zero_le, true_and, and_true, Nat.le_refl, ge_iff_le, Nat.reduceEqDiff]
        refine ⟨fun h1 => ?_, fun h1 => ?_⟩
        · have := zn_ge' h1 (by omega) (by omega)
          have e : k = w * h' := by omega
          subst e
          exact h M' o hs ho hc
        · have hlt := zn_ge h1 (by omega) (by omega)
          exact hJ ((120 - k) * 200 - 150 + k) (by omega) 19 (by simp) _ _ _ ⟨hs, Or.inr ⟨rfl, k, o, k, rfl, hlt, Nat.le_refl _, ho, hc, fun i q1 q2 => absurd q1 (by omega), rfl, rfl⟩⟩
      · obtain ⟨m1, m2, -⟩ := mB_wil b1 b2 hk
        have e0 : M'.2.1 200 = M.2.1 200 := hs.at (by simp)
        have e9 : M'.2.1 209 = M.2.1 209 := hs.at (by simp)
        have eR := hs.R
        have hkk := hH _ m1
        rw [m2] at hkk
        have fin : (a = 0 ∨ H (mB w k) ≤ H (o (a - 1))) → zb_X8_putInOrder_65 K J M' [some (.ref 200), some (.int (nI (w * h'))), some (.int (nI k)), some (.int (nI a))] [] := by
          intro hhi
          simp only [zb_X8_putInOrder_65, zsh_200, zsh_213, eR, r28, zT_push, zT_bin, zT_div, zT_bil, zT_shl, zT_un, zT_i2l, zT_l2i, zT_lcmp, zT_ild, zT_lld, zT_ald, zT_ist, zT_lst, zT_ast, zT_iinc, zT_dup, zT_dup2, zT_pop, zT_if1, zT_if2, zT_ifn, zT_getI, zT_getJ, zT_getR, zT_putI, zT_putZ, zT_putJ, zT_putR, zT_ald0, zT_lald, zT_aald, zT_iast, zT_zast, zT_bast, zT_last, zT_aast, zT_iret, zT_nret, zT_aret, zT_vret, zT_oi, zT_mm, zT_ialX, zT_S1, zT_S2, zT_S3, zT_V0, zT_V1, zT_V2, zT_V3, zT_V4, zT_V5, zT_V6, zT_I0, zT_I1, zT_I2, zlg, zlset, zlpr, zent, zok, va_rf, List.length_cons, List.length_nil, List.replicate, List.cons_append, List.nil_append, List.append_nil, Option.toList_some, Option.toList_none, Option.toList, Nat.reduceAdd, Nat.reduceSub, Nat.reduceLeDiff, Nat.zero_add, Nat.zero_le, true_and, and_true, Nat.le_refl, ge_iff_le, Nat.reduceEqDiff]
          rw [nI_clamp (by omega)]
          refine ⟨vp_in_nI (by omega) (by decide), hJ ((120 - (k + 1)) * 200) (by omega) 12 (by simp) _ _ _ ⟨hs.w (by simp), Or.inl ⟨rfl, k + 1, mins o a (mB w k), _, rfl, hk, mor_ins ho m1 m2 ha (fun i q1 q2 => (hc2 i q1 q2).2) hhi, fun i hi => ?_, by rw [nI_1], rfl⟩⟩⟩
          simp only [zwI_L, zwI_I, zwI_J, zwI_R, zwJ_L, zwJ_I, zwJ_J, zwJ_R, zwR_L, zwR_I, zwR_J, zwR_R, zw2_s, zw2_n, ne_eq, not_false_eq_true, reduceCtorEq, not_true_eq_false, Nat.reduceEqDiff]
          unfold mins
          by_cases q1 : i = a
          · subst q1
            rw [zup_s, if_neg (Nat.lt_irrefl _), if_pos rfl, m2]
          · rw [zup_n q1]
            by_cases q2 : i < a
            · rw [if_pos q2]; exact hc1 i q2
            · rw [if_neg q2, if_neg q1]
              have := (hc2 (i - 1) (by omega) (by omega)).1
              rw [show i - 1 + 1 = i by omega] at this
              exact this
        simp only [zB_X8_putInOrder, zb_X8_putInOrder_19, ↓reduceIte, zsh_200, zsh_209, zsh_213, eR, r24, r28, e9, Nat.reduceEqDiff, zT_push, zT_bin, zT_div, zT_bil, zT_shl, zT_un, zT_i2l, zT_l2i, zT_lcmp, zT_ild, zT_lld, zT_ald, zT_ist, zT_lst, zT_ast, zT_iinc, zT_dup, zT_dup2, zT_pop, zT_if1, zT_if2, zT_ifn, zT_getI, zT_getJ, zT_getR, zT_putI, zT_putZ, zT_putJ, zT_putR, zT_ald0, zT_lald, zT_aald, zT_iast, zT_zast, zT_bast, zT_last, zT_aast, zT_iret, zT_nret, zT_aret, zT_vret, zT_oi, zT_mm, zT_ialX, zT_S1, zT_S2, zT_S3, zT_V0, zT_V1, zT_V2, zT_V3, zT_V4, zT_V5, zT_V6, zT_I0, zT_I1, zT_I2, zlg, zlset, zlpr, zent, zok, va_rf, List.length_cons, List.length_nil, List.replicate, List.cons_append, List.nil_append, List.append_nil, Option.toList_some, Option.toList_none, Option.toList, Nat.reduceAdd, Nat.reduceSub, Nat.reduceLeDiff, Nat.zero_add, Nat.zero_le, true_and, and_true, Nat.le_refl, ge_iff_le, Nat.reduceEqDiff]
        refine ⟨fun h1 => ?_, fun h1 => ?_⟩
        · have := zn_ge' (a := 0) h1 (by omega) (by omega)
          exact fin (Or.inl (by omega))
        · have hpos := zn_ge (a := 0) h1 (by omega) (by omega)
          have es : nI a - 1 = nI (a - 1) := pk_sub (a := a) (b := 1) (by omega)
          obtain ⟨i1, i2⟩ := ho.1 (a - 1) (by omega)
          have hm := hc1 (a - 1) (by omega)
          have hm2 := hH _ i1
          have h120 := mI_120 b2 b4 i1
          rw [es, nI_clamp (n := a - 1) (by omega), hm, nI_clamp (n := mI w (o (a - 1))) (by omega), nI_clamp (n := k) (by omega), hm2.1, hkk.1]
          have hin : vp_in (nI (a - 1)) 120 := vp_in_nI (by omega) (by decide)
          refine ⟨hin, vp_in_nI h120 (by decide), vp_in_nI (by omega) (by decide), fun h2 => ?_, fun h2 => ?_⟩
          · exact fin (Or.inr (zn_ge' h2 (by omega) (by omega)))
          · have hlt := zn_ge h2 (by omega) (by omega)
            refine ⟨hin, vp_in_nI (by omega) (by decide), hJ ((120 - k) * 200 - 150 + (a - 1)) (by omega) 19 (by simp) _ _ _ ⟨hs.w (by simp), Or.inr ⟨rfl, k, o, a - 1, rfl, hk, by omega, ho, fun i hi => ?_, fun i q1 q2 => ?_, ?_, rfl⟩⟩⟩
            · simp only [zwI_L, zwI_I, zwI_J, zwI_R, zwJ_L, zwJ_I, zwJ_J, zwJ_R, zwR_L, zwR_I, zwR_J, zwR_R, zw2_s, zw2_n, ne_eq, not_false_eq_true, reduceCtorEq, not_true_eq_false, Nat.reduceEqDiff]
              rw [nI_clamp (by omega), zup_n (by omega)]
              exact hc1 i (by omega)
            · simp only [zwI_L, zwI_I, zwI_J, zwI_R, zwJ_L, zwJ_I, zwJ_J, zwJ_R, zwR_L, zwR_I, zwR_J, zwR_R, zw2_s, zw2_n, ne_eq, not_false_eq_true, reduceCtorEq, not_true_eq_false, Nat.reduceEqDiff]
              rw [nI_clamp (by omega)]
              by_cases q3 : i + 1 = a
              · rw [q3, zup_s, show i = a - 1 by omega]
                exact ⟨rfl, hlt⟩
              · rw [zup_n q3]; exact hc2 i (by omega) q2
            · rw [zn_m1 hpos]
    · intro J hJ
      simp only [zb_X8_putInOrder_0, zsh_200, w1, w2, pk_mul, zT_push, zT_bin, zT_div, zT_bil, zT_shl, zT_un, zT_i2l, zT_l2i, zT_lcmp, zT_ild, zT_lld, zT_ald, zT_ist, zT_lst, zT_ast, zT_iinc, zT_dup, zT_dup2, zT_pop, zT_if1, zT_if2, zT_ifn, zT_getI, zT_getJ, zT_getR, zT_putI, zT_putZ, zT_putJ, zT_putR, zT_ald0, zT_lald, zT_aald, zT_iast, zT_zast, zT_bast, zT_last, zT_aast, zT_iret, zT_nret, zT_aret, zT_vret, zT_oi, zT_mm, zT_ialX, zT_S1, zT_S2, zT_S3, zT_V0, zT_V1, zT_V2, zT_V3, zT_V4, zT_V5, zT_V6, zT_I0, zT_I1, zT_I2, zlg, zlset, zlpr, zent, zok, va_rf, List.length_cons, List.length_nil, List.replicate, List.cons_append, List.nil_append, List.append_nil, Option.toList_some, Option.toList_none, Option.toList, Nat.reduceAdd, Nat.reduceSub, Nat.reduceLeDiff, Nat.zero_add, Nat.zero_le, true_and, and_true, Nat.le_refl, ge_iff_le, Nat.reduceEqDiff]
      exact hJ (120 * 200) 12 (by simp) _ _ _ ⟨zsm.rf, Or.inl ⟨rfl, 0, fun _ => 0, _, rfl, Nat.zero_le _, ⟨fun i hi => absurd hi (Nat.not_lt_zero _), fun i j _ hj => absurd hj (Nat.not_lt_zero _), fun e _ hk => absurd hk (Nat.not_lt_zero _)⟩, fun i hi => absurd hi (Nat.not_lt_zero _), rfl, rfl⟩⟩
  · exact h.elim
