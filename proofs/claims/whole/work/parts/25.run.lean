/-! DeltaRuns$Water run -/
theorem zd_X5_run_0 : decode cX5_run 0 = .ok (.aload_n 0, 1) := by decide +kernel
theorem zd_X5_run_1 : decode cX5_run 1 = .ok (.invokevirtual 40, 3) := by decide +kernel
theorem zd_X5_run_4 : decode cX5_run 4 = .ok (.aload_n 0, 1) := by decide +kernel
theorem zd_X5_run_5 : decode cX5_run 5 = .ok (.aload_n 1, 1) := by decide +kernel
theorem zd_X5_run_6 : decode cX5_run 6 = .ok (.getfield 43, 3) := by decide +kernel
theorem zd_X5_run_9 : decode cX5_run 9 = .ok (.aload_n 1, 1) := by decide +kernel
theorem zd_X5_run_10 : decode cX5_run 10 = .ok (.getfield 49, 3) := by decide +kernel
theorem zd_X5_run_13 : decode cX5_run 13 = .ok (.invokevirtual 52, 3) := by decide +kernel
theorem zd_X5_run_16 : decode cX5_run 16 = .ok (.iconst 0, 1) := by decide +kernel
theorem zd_X5_run_17 : decode cX5_run 17 = .ok (.istore_n 3, 1) := by decide +kernel
theorem zd_X5_run_18 : decode cX5_run 18 = .ok (.iload_n 3, 1) := by decide +kernel
theorem zd_X5_run_19 : decode cX5_run 19 = .ok (.aload_n 0, 1) := by decide +kernel
theorem zd_X5_run_20 : decode cX5_run 20 = .ok (.getfield 56, 3) := by decide +kernel
theorem zd_X5_run_23 : decode cX5_run 23 = .ok (.if_icmp .ge 27, 3) := by decide +kernel
theorem zd_X5_run_26 : decode cX5_run 26 = .ok (.iload_n 3, 1) := by decide +kernel
theorem zd_X5_run_27 : decode cX5_run 27 = .ok (.bipush 120, 2) := by decide +kernel
theorem zd_X5_run_29 : decode cX5_run 29 = .ok (.if_icmp .ge 21, 3) := by decide +kernel
theorem zd_X5_run_32 : decode cX5_run 32 = .ok (.aload_n 0, 1) := by decide +kernel
theorem zd_X5_run_33 : decode cX5_run 33 = .ok (.aload_n 1, 1) := by decide +kernel
theorem zd_X5_run_34 : decode cX5_run 34 = .ok (.aload_n 0, 1) := by decide +kernel
theorem zd_X5_run_35 : decode cX5_run 35 = .ok (.getfield 25, 3) := by decide +kernel
theorem zd_X5_run_38 : decode cX5_run 38 = .ok (.iload_n 3, 1) := by decide +kernel
theorem zd_X5_run_39 : decode cX5_run 39 = .ok (.iaload, 1) := by decide +kernel
theorem zd_X5_run_40 : decode cX5_run 40 = .ok (.iload_n 2, 1) := by decide +kernel
theorem zd_X5_run_41 : decode cX5_run 41 = .ok (.invokevirtual 59, 3) := by decide +kernel
theorem zd_X5_run_44 : decode cX5_run 44 = .ok (.iinc 3 1, 3) := by decide +kernel
theorem zd_X5_run_47 : decode cX5_run 47 = .ok (.goto (-29), 3) := by decide +kernel
theorem zd_X5_run_50 : decode cX5_run 50 = .ok (.return_, 1) := by decide +kernel
def zb_X5_run_0 (K : zKt) (J : Nat → zPP) : zPP := zT_ald 0 (zT_V0 zok 5 11 zc_X5_dryUp (zT_ald 0 (zT_ald 1 (zT_getI 1 3 6 (zT_ald 1 (zT_getI 1 4 6 (zT_V2 zok 5 11 zc_X5_pour (zT_push (.int 0) (zT_ist 3 (J 18))))))))))
theorem zbs_X5_run_0 {X : zCt} (hR : zRX X = { frames := 3, cells := 0, slots := 0, locals := 72 }) (J : Nat → zPP) (hJ : ∀ h ∈ ([18] : List Nat), zSd X RX5 "run" cX5_run 4 none h (J h)) : zSd X RX5 "run" cX5_run 4 none 0 (zb_X5_run_0 (zKX X) J) := zs_aload_n zd_X5_run_0 rfl (zs_V (ci := 5) rfl rfl (zm_X5_dryUp _ _ _) gw_2_216 gw_2_213 gw_2_215 gw_0_12 gw_1_5 zdn_X5_dryUp (zrm hR (by decide) (by decide)) zd_X5_run_1 (zCl_V0 zok_l) (zs_aload_n zd_X5_run_4 rfl (zs_aload_n zd_X5_run_5 rfl (zs_getI (ci := 1) (j := 3) (T := TX1) rfl inX1 (by decide) gw_1_39 rfl zd_X5_run_6 (zs_aload_n zd_X5_run_9 rfl (zs_getI (ci := 1) (j := 4) (T := TX1) rfl inX1 (by decide) gw_1_43 rfl zd_X5_run_10 (zs_V (ci := 5) rfl rfl (zm_X5_pour _ _ _) gw_2_220 gw_2_217 gw_2_219 gw_0_13 gw_1_5 zdn_X5_pour (zrm hR (by decide) (by decide)) zd_X5_run_13 (zCl_V2 zok_l) (zs_iconst zd_X5_run_16 (by decide) (zs_istore_n zd_X5_run_17 rfl (by decide) (hJ 18 (by decide)))))))))))
def zb_X5_run_50 (K : zKt) (J : Nat → zPP) : zPP := zT_vret K
theorem zbs_X5_run_50 {X : zCt} (hR : zRX X = { frames := 3, cells := 0, slots := 0, locals := 72 }) (J : Nat → zPP) (hJ : ∀ h ∈ ([18] : List Nat), zSd X RX5 "run" cX5_run 4 none h (J h)) : zSd X RX5 "run" cX5_run 4 none 50 (zb_X5_run_50 (zKX X) J) := zs_vret rfl zd_X5_run_50
def zb_X5_run_18 (K : zKt) (J : Nat → zPP) : zPP := zT_ild 3 (zT_ald 0 (zT_getI 5 5 11 (zT_if2 (fun x y => y ≤ x) (zb_X5_run_50 K J) (zT_ild 3 (zT_push (.int 120) (zT_if2 (fun x y => y ≤ x) (zb_X5_run_50 K J) (zT_ald 0 (zT_ald 1 (zT_ald 0 (zT_getR 5 4 11 (zT_ild 3 (zT_ald0 0 (zT_ild 2 (zT_V3 zok 5 11 zc_X5_giveOn (zT_iinc 3 1 (J 18))))))))))))))))
theorem zbs_X5_run_18 {X : zCt} (hR : zRX X = { frames := 3, cells := 0, slots := 0, locals := 72 }) (J : Nat → zPP) (hJ : ∀ h ∈ ([18] : List Nat), zSd X RX5 "run" cX5_run 4 none h (J h)) : zSd X RX5 "run" cX5_run 4 none 18 (zb_X5_run_18 (zKX X) J) := zs_iload_n zd_X5_run_18 rfl (zs_aload_n zd_X5_run_19 rfl (zs_getI (ci := 5) (j := 5) (T := TX5) rfl inX5 (by decide) gw_1_121 rfl zd_X5_run_20 (zs_icmp_ge (tgt := 50) zd_X5_run_23 (by decide) (zbs_X5_run_50 hR J hJ) (zs_iload_n zd_X5_run_26 rfl (zs_bipush zd_X5_run_27 (by decide) (zs_icmp_ge (tgt := 50) zd_X5_run_29 (by decide) (zbs_X5_run_50 hR J hJ) (zs_aload_n zd_X5_run_32 rfl (zs_aload_n zd_X5_run_33 rfl (zs_aload_n zd_X5_run_34 rfl (zs_getR (ci := 5) (j := 4) (T := TX5) rfl inX5 (by decide) gw_1_120 rfl zd_X5_run_35 (zs_iload_n zd_X5_run_38 rfl (zs_iald zd_X5_run_39 (zs_iload_n zd_X5_run_40 rfl (zs_V (ci := 5) rfl rfl (zm_X5_giveOn _ _ _) gw_2_228 gw_2_225 gw_2_227 gw_0_15 gw_1_5 zdn_X5_giveOn (zrm hR (by decide) (by decide)) zd_X5_run_41 (zCl_V3 zok_l) (zs_iinc zd_X5_run_44 (by decide) (by decide) (zs_goto (tgt := 18) zd_X5_run_47 (by decide) (hJ 18 (by decide))))))))))))))))))
def zB_X5_run (K : zKt) (J : Nat → zPP) (h : Nat) : zPP := if h = 18 then zb_X5_run_18 K J else (fun _ _ _ => False)
theorem zBs_X5_run {X : zCt} (hR : zRX X = { frames := 3, cells := 0, slots := 0, locals := 72 }) : ∀ J : Nat → zPP, (∀ h ∈ ([18] : List Nat), zSd X RX5 "run" cX5_run 4 none h (J h)) → ∀ h ∈ ([18] : List Nat), zSd X RX5 "run" cX5_run 4 none h (zB_X5_run (zKX X) J h) := by
  intro J hJ h hh
  unfold zB_X5_run
  simp only [List.mem_cons, List.not_mem_nil, or_false] at hh
  subst hh
  exact zbs_X5_run_18 hR J hJ
theorem zdn_X5_run : yX5_run.cls ≠ "java/lang/invoke/MethodHandle" ∧ yX5_run.cls ≠ "java/lang/invoke/VarHandle" ∧ (parseMethodDescriptor yX5_run.desc).map (fun d => d.parameters.length) = some 2 := by decide +kernel
/-! WATER: run and settle -/
def wfl (w h : Nat) (H : Nat → Nat) (D : Nat → Bool) (sort sp fl : Nat) (A : Nat → Nat) : Prop := ∀ x, x < 120 → wil w h x → A x = (if x = sp then fl else 0) + wsm (wfr w h H D sort A (fun _ => True) x) 4
def wpt (w h : Nat) (H : Nat → Nat) (D : Nat → Bool) (c : Nat) : Bool := decide (wct (wpo (wdr w h H D c)) 4 = 0)
theorem wri_end {w h : Nat} {H : Nat → Nat} {D : Nat → Bool} {sort sp fl : Nat} {S : wST} (hS : wri w h H D sort sp fl S.2.length S) : wfl w h H D sort sp fl S.1 := by
  intro x hx hxl
  obtain ⟨⟨hwf, hpw, hin, hz, hkl⟩, hfl, hcon, hdone⟩ := hS
  rw [hfl x hx hxl]
  congr 1
  refine wsm_congr fun e he => ?_
  unfold wfr
  cases wnb w h x e with
  | none => rfl
  | some b =>
    dsimp only
    rw [if_pos trivial, List.take_length]
    by_cases hb : b ∈ S.2
    · rw [if_pos hb]
    · rw [if_neg hb, hz b hb, wgv_0]
theorem wri_bd {w h : Nat} {H : Nat → Nat} {D : Nat → Bool} {sort sp fl k : Nat} {S : wST} (hS : wri w h H D sort sp fl k S) : ∀ e, S.1 e ≤ fl := by
  intro e
  obtain ⟨⟨hwf, hpw, hin, hz, hkl⟩, hfl, hcon, hdone⟩ := hS
  by_cases he : e ∈ S.2
  · rw [← List.take_append_drop k S.2] at he
    rcases List.mem_append.mp he with he | he
    · exact hdone e he
    · have := wsl_mem (A := S.1) he
      omega
  · rw [hz e he]; omega
theorem wri_0 {w h : Nat} {H : Nat → Nat} {D : Nat → Bool} {sort sp fl : Nat} {f11 : Nat → Int32} (hf : ∀ e, e < 120 → f11 e = nI (H e) ∧ H e ≤ 200) (hsp : sp < 120) (hil : wil w h sp) : wri w h H D sort sp fl 0 (wpr f11 sp fl (fun _ => 0, [])) := by
  have h0 : wok H w h 0 ((fun _ => 0, []) : wST) := ⟨⟨List.nodup_nil, fun x hx => absurd hx List.not_mem_nil, fun x _ => by simp⟩, List.Pairwise.nil, fun x hx => absurd hx List.not_mem_nil, fun _ _ => rfl, Nat.le_refl _⟩
  obtain ⟨h1, h2, h3⟩ := wpr_ok (v := fl) hf h0 hsp hil (fun x hx => absurd hx List.not_mem_nil)
  refine ⟨h1, fun x hx hxl => ?_, ?_, fun x hx => ?_⟩
  · have e : wsm (wfr w h H D sort (wpr f11 sp fl (fun _ => 0, [])).1 (fun b => b ∈ (wpr f11 sp fl (fun _ => 0, [])).2.take 0) x) 4 = 0 := by
      have : wsm (wfr w h H D sort (wpr f11 sp fl (fun _ => 0, [])).1 (fun b => b ∈ (wpr f11 sp fl (fun _ => 0, [])).2.take 0) x) 4 = wsm (fun _ => 0) 4 := wsm_congr fun e he => by
        unfold wfr
        cases wnb w h x e with
        | none => rfl
        | some b => simp
      rw [this]
      rfl
    rw [e]
    show va_up (fun _ => 0) sp (0 + fl) x = _
    rw [zup_at]
    simp
  · have : wsl ((fun _ => 0, []) : wST).1 (List.drop 0 ((fun _ => 0, []) : wST).2) = 0 := rfl
    omega
  · rw [List.take_zero] at hx
    exact absurd hx List.not_mem_nil
def zc_X5_run (a : List Value) (M : zMm) (K : zKt) : Prop := match a with
  | [.ref k, .ref k', .int y] => k = 10 ∧ k' = 1 ∧ zxw M ∧ ∃ w h H D sort sp fl S, zld M w h H D ∧ y = nI sort ∧ sort < 3 ∧ M.2.1 1 3 = nI sp ∧ sp < 120 ∧ wil w h sp ∧ M.2.1 1 4 = nI fl ∧ fl ≤ 1000 ∧ zwt M S.1 S.2 ∧ wwf S ∧ ∀ M' S', zsm [10, 13, 14, 15, 16, 17, 18, 19] M M' → zwt M' S'.1 S'.2 → wwf S' → (∀ x ∈ S'.2, wil w h x) → (∀ x, S'.1 x ≤ fl) → wfl w h H D sort sp fl S'.1 → (∀ x ∈ S'.2, M'.2.1 14 x = if wpt w h H D x = true then 1 else 0) → K none M'
  | _ => False
set_option maxHeartbeats 2000000 in
theorem zm_X5_run (l : Launch) (D : va_G) (Y : Nat → ClassId) : zMt l D Y yX5_run cX5_run 4 none 3 72 0 0 zc_X5_run := by
  refine zwhile1 (h0 := 18) (by decide) (fun K J _ _ => zb_X5_run_0 K J) (fun K _ _ J => zb_X5_run_18 K J) (fun X hR J hJ => zbs_X5_run_0 hR J hJ) (fun X hR J hJ => zbs_X5_run_18 hR J hJ) (fun avs M K h => ?_)
  unfold zc_X5_run at h
  split at h
  · next k k' y =>
    obtain ⟨rfl, rfl, hx, w, h', H, D, sort, sp, fl, S0, hld, rfl, hso, hsp1, hsp, hspl, hfl1, hfl, hwt0, hwf0, h⟩ := h
    have hf11 := hld.2.2.2.2.1
    have hw := hld.2.2.1
    have hh := hld.2.2.2.1
    refine ⟨by simp [zent], fun q M' ls st => ∃ i S, q = 120 - i ∧ ls = [some (.ref 10), some (.ref 1), some (.int (nI sort)), some (.int (nI i))] ∧ st = [] ∧ zsm [10, 13, 14, 15, 16, 17, 18, 19] M M' ∧ zwt M' S.1 S.2 ∧ wri w h' H D sort sp fl i S ∧ (∀ x ∈ S.2.take i, M'.2.1 14 x = if wpt w h' H D x = true then 1 else 0), ?_, ?_⟩
    · rintro q J hJ M' ls st ⟨i, S, rfl, rfl, rfl, hs, hwt, hri, hpit⟩
      obtain ⟨x0, x1, x2, x3, x4, x5, x6, x7, x8⟩ := hx.to hs
      have hil := hri.1.2.2.2.2
      obtain ⟨t1, t2, t3, t4⟩ := hwt
      have hend : i = S.2.length → zb_X5_run_50 K J M' [some (.ref 10), some (.ref 1), some (.int (nI sort)), some (.int (nI i))] [] := by
        intro e
        simp only [zb_X5_run_50, zT_push, zT_bin, zT_div, zT_bil, zT_shl, zT_un, zT_i2l, zT_l2i, zT_lcmp, zT_ild, zT_lld, zT_ald, zT_ist, zT_lst, zT_ast, zT_iinc, zT_dup, zT_dup2, zT_pop, zT_if1, zT_if2, zT_ifn, zT_getI, zT_getJ, zT_getR, zT_putI, zT_putZ, zT_putJ, zT_putR, zT_ald0, zT_lald, zT_aald, zT_iast, zT_zast, zT_bast, zT_last, zT_aast, zT_iret, zT_nret, zT_aret, zT_vret, zT_oi, zT_mm, zT_ialX, zT_S1, zT_S2, zT_S3, zT_V0, zT_V1, zT_V2, zT_V3, zT_V4, zT_V5, zT_V6, zT_I0, zT_I1, zT_I2, zlg, zlset, zlpr, zent, zok, va_rf, List.length_cons, List.length_nil, List.replicate, List.cons_append, List.nil_append, List.append_nil, Option.toList_some, Option.toList_none, Option.toList, Nat.reduceAdd, Nat.reduceSub, Nat.reduceLeDiff, Nat.zero_add, Nat.zero_le, true_and, and_true, Nat.le_refl, ge_iff_le, Nat.reduceEqDiff]
        subst e
        rw [List.take_length] at hpit
        exact h M' S hs ⟨t1, t2, t3, t4⟩ hri.1.1 hri.1.2.2.1 (wri_bd hri) (wri_end hri) hpit
      simp only [zb_X5_run_18, zsh_10, zsh_15, x4, t3, zT_push, zT_bin, zT_div, zT_bil, zT_shl, zT_un, zT_i2l, zT_l2i, zT_lcmp, zT_ild, zT_lld, zT_ald, zT_ist, zT_lst, zT_ast, zT_iinc, zT_dup, zT_dup2, zT_pop, zT_if1, zT_if2, zT_ifn, zT_getI, zT_getJ, zT_getR, zT_putI, zT_putZ, zT_putJ, zT_putR, zT_ald0, zT_lald, zT_aald, zT_iast, zT_zast, zT_bast, zT_last, zT_aast, zT_iret, zT_nret, zT_aret, zT_vret, zT_oi, zT_mm, zT_ialX, zT_S1, zT_S2, zT_S3, zT_V0, zT_V1, zT_V2, zT_V3, zT_V4, zT_V5, zT_V6, zT_I0, zT_I1, zT_I2, zlg, zlset, zlpr, zent, zok, va_rf, List.length_cons, List.length_nil, List.replicate, List.cons_append, List.nil_append, List.append_nil, Option.toList_some, Option.toList_none, Option.toList, Nat.reduceAdd, Nat.reduceSub, Nat.reduceLeDiff, Nat.zero_add, Nat.zero_le, true_and, and_true, Nat.le_refl, ge_iff_le, Nat.reduceEqDiff]
      refine ⟨fun h1 => hend ?_, fun h1 => ⟨fun h2 => hend ?_, fun h2 => ?_⟩⟩
      · have := zn_ge' h1 (by omega) (by omega)
        omega
      · have := zn_ge' (b := 120) h2 (by omega) (by omega)
        omega
      · have hlt := zn_ge h1 (by omega) (by omega)
        have hg := wat_get hlt
        obtain ⟨g1, g2⟩ := t2 i _ hg
        have hcm : wat S.2 i ∈ S.2 := List.mem_of_getElem? hg
        have hst := wri_step (f11 := M.2.1 11) hf11 hw hh hri hlt
        have hbd := wri_bd hri
        have h11 : M'.2.1 11 = M.2.1 11 := hs.2.2 11 (by simp)
        rw [nI_clamp (by omega), g1]
        refine ⟨vp_in_nI (by omega) (by decide), ?_⟩
        unfold zc_X5_giveOn
        dsimp only
        refine ⟨rfl, rfl, hx.to hs, w, h', H, D, wat S.2 i, sort, S, hld.to hs (by simp) (by simp) (by simp), rfl, g2, hri.1.2.2.1 _ hcm, rfl, hso, ⟨t1, t2, t3, t4⟩, hri.1.1, fun e => by have := hbd e; omega, by have := hbd (wat S.2 i); omega, fun M2 hs2 h14 hwt2 => ?_⟩
        rw [h11] at hwt2
        refine hJ (120 - (i + 1)) _ _ _ (by omega) ⟨i + 1, _, rfl, by rw [nI_1], rfl, hs.tr hs2, hwt2, hst.1, fun x hx' => ?_⟩
        rw [hst.2.1] at hx'
        rw [h14, zup_at]
        by_cases e : x = wat S.2 i
        · rw [if_pos e, e]
          unfold wpt
          simp only [decide_eq_true_eq]
        · rw [if_neg e]
          rcases List.mem_append.mp hx' with z | z
          · exact hpit x z
          · exact absurd (by simpa using z) e
    · intro J hJ
      simp only [zb_X5_run_0, zsh_10, zT_push, zT_bin, zT_div, zT_bil, zT_shl, zT_un, zT_i2l, zT_l2i, zT_lcmp, zT_ild, zT_lld, zT_ald, zT_ist, zT_lst, zT_ast, zT_iinc, zT_dup, zT_dup2, zT_pop, zT_if1, zT_if2, zT_ifn, zT_getI, zT_getJ, zT_getR, zT_putI, zT_putZ, zT_putJ, zT_putR, zT_ald0, zT_lald, zT_aald, zT_iast, zT_zast, zT_bast, zT_last, zT_aast, zT_iret, zT_nret, zT_aret, zT_vret, zT_oi, zT_mm, zT_ialX, zT_S1, zT_S2, zT_S3, zT_V0, zT_V1, zT_V2, zT_V3, zT_V4, zT_V5, zT_V6, zT_I0, zT_I1, zT_I2, zlg, zlset, zlpr, zent, zok, va_rf, List.length_cons, List.length_nil, List.replicate, List.cons_append, List.nil_append, List.append_nil, Option.toList_some, Option.toList_none, Option.toList, Nat.reduceAdd, Nat.reduceSub, Nat.reduceLeDiff, Nat.zero_add, Nat.zero_le, true_and, and_true, Nat.le_refl, ge_iff_le, Nat.reduceEqDiff]
      unfold zc_X5_dryUp
      dsimp only
      refine ⟨rfl, hx, S0.1, S0.2, hwt0, fun M1 hs1 h10 h5 h13 => ?_⟩
      have hone : M1.2.1 1 = M.2.1 1 := hs1.2.2 1 (by simp)
      have h11 : M1.2.1 11 = M.2.1 11 := hs1.2.2 11 (by simp)
      simp only [zsh_1, hone, hsp1, hfl1, zT_push, zT_bin, zT_div, zT_bil, zT_shl, zT_un, zT_i2l, zT_l2i, zT_lcmp, zT_ild, zT_lld, zT_ald, zT_ist, zT_lst, zT_ast, zT_iinc, zT_dup, zT_dup2, zT_pop, zT_if1, zT_if2, zT_ifn, zT_getI, zT_getJ, zT_getR, zT_putI, zT_putZ, zT_putJ, zT_putR, zT_ald0, zT_lald, zT_aald, zT_iast, zT_zast, zT_bast, zT_last, zT_aast, zT_iret, zT_nret, zT_aret, zT_vret, zT_oi, zT_mm, zT_ialX, zT_S1, zT_S2, zT_S3, zT_V0, zT_V1, zT_V2, zT_V3, zT_V4, zT_V5, zT_V6, zT_I0, zT_I1, zT_I2, zlg, zlset, zlpr, zent, zok, va_rf, List.length_cons, List.length_nil, List.replicate, List.cons_append, List.nil_append, List.append_nil, Option.toList_some, Option.toList_none, Option.toList, Nat.reduceAdd, Nat.reduceSub, Nat.reduceLeDiff, Nat.zero_add, Nat.zero_le, true_and, and_true, Nat.le_refl, ge_iff_le, Nat.reduceEqDiff]
      unfold zc_X5_pour
      dsimp only
      have hzero : ∀ e, e < 120 → (if e ∈ S0.2 then 0 else S0.1 e) = 0 := by
        intro e he
        by_cases z : e ∈ S0.2
        · rw [if_pos z]
        · rw [if_neg z]
          have := hwf0.2.2 e he
          have : ¬ 0 < S0.1 e := fun q => z (this.mpr q)
          omega
      refine ⟨rfl, hx.to hs1, sp, fl, fun _ => 0, [], rfl, rfl, hsp, by omega, Nat.zero_le _, ⟨fun e he => by rw [h13 e he, hzero e he], fun i x hi => by simp at hi, by rw [h5]; rfl, Nat.zero_le _⟩, fun _ _ => by decide, fun M2 hs2 _ hwt2 => ?_⟩
      have hr0 := wri_0 (D := D) (sort := sort) (fl := fl) hf11 hsp hspl
      rw [h11] at hwt2
      refine hJ 120 _ _ _ ⟨0, wpr (M.2.1 11) sp fl (fun _ => 0, []), rfl, rfl, rfl, (hs1.up (by simp)).tr (hs2.up (by simp)), hwt2, hr0, fun x hx' => ?_⟩
      rw [List.take_zero] at hx'
      exact absurd hx' List.not_mem_nil
  · exact h.elim
/-- a year's end for one cell -/
def wst (lv rate wear hg g : Nat) (pit : Bool) : Nat := if hg < lv then (if lv < hg + g * rate / 16 then lv else hg + g * rate / 16) else if pit = true then (if 0 < g then (if 200 < hg + 1 then 200 else hg + 1) else hg) else if 16 ≤ g then hg - wear else hg
theorem wst_0 {lv rate wear hg : Nat} {pit : Bool} : wst lv rate wear hg 0 pit = hg := by
  unfold wst
  simp
  omega
theorem wst_le {lv rate wear hg g : Nat} {pit : Bool} (h1 : lv ≤ 200) (h2 : hg ≤ 200) : wst lv rate wear hg g pit ≤ 200 := by
  unfold wst
  split
  · split <;> omega
  · split
    · split
      · split <;> omega
      · omega
    · split <;> omega
def zc_X5_settle (a : List Value) (M : zMm) (K : zKt) : Prop := match a with
  | [.ref k, .int x, .int y, .int z] => k = 10 ∧ zxw M ∧ ∃ (lv rate wear : Nat) (S : wST) (H : Nat → Nat) (pit : Nat → Bool), x = nI lv ∧ lv ≤ 200 ∧ y = nI rate ∧ rate ≤ 6 ∧ z = nI wear ∧ wear ≤ 1 ∧ zwt M S.1 S.2 ∧ wwf S ∧ (∀ e, S.1 e ≤ 1000) ∧ (∀ e, e < 120 → M.2.1 11 e = nI (H e) ∧ H e ≤ 200) ∧ (∀ x ∈ S.2, M.2.1 14 x = if pit x = true then 1 else 0) ∧ ∀ M', zsm [11] M M' → (∀ e, e < 120 → M'.2.1 11 e = nI (wst lv rate wear (H e) (S.1 e) (pit e))) → K none M'
  | _ => False
theorem zmin_n {a b : Nat} (ha : a < 2 ^ 31) (hb : b < 2 ^ 31) : (if nI b < nI a then nI b else nI a) = nI (if b < a then b else a) := by
  by_cases q : b < a
  · rw [if_pos ((nI_ltI hb ha).mpr q), if_pos q]
  · rw [if_neg (fun z => q ((nI_ltI hb ha).mp z)), if_neg q]
set_option maxHeartbeats 2000000 in
theorem zm_X5_settle (l : Launch) (D : va_G) (Y : Nat → ClassId) : zMt l D Y yX5_settle cX5_settle 7 none 1 21 0 0 zc_X5_settle := by
  refine zwhile1 (h0 := 3) (by decide) (fun K J _ _ => zb_X5_settle_0 K J) (fun K _ _ J => zb_X5_settle_3 K J) (fun X hR J hJ => zbs_X5_settle_0 hR J hJ) (fun X hR J hJ => zbs_X5_settle_3 hR J hJ) (fun avs M K h => ?_)
  unfold zc_X5_settle at h
  split at h
  · next k x y z =>
    obtain ⟨rfl, hx, lv, rate, wear, S, H, pit, rfl, hlv, rfl, hrt, rfl, hwr, hwt, hwf, hbd, hH, hpit, h⟩ := h
    obtain ⟨t1, t2, t3, t4⟩ := hwt
    refine ⟨by simp [zent], fun q M' ls st => ∃ i o1 o2, q = 120 - i ∧ i ≤ S.2.length ∧ ls = [some (.ref 10), some (.int (nI lv)), some (.int (nI rate)), some (.int (nI wear)), some (.int (nI i)), o1, o2] ∧ st = [] ∧ zsm [11] M M' ∧ (∀ e, e < 120 → M'.2.1 11 e = nI (if e ∈ S.2.take i then wst lv rate wear (H e) (S.1 e) (pit e) else H e)), ?_, ?_⟩
    · rintro q J hJ M' ls st ⟨i, o1, o2, rfl, hi, rfl, rfl, hs, hc⟩
      obtain ⟨x0, x1, x2, x3, x4, x5, x6, x7, x8⟩ := hx.to hs
      have h10 : M'.2.1 10 = M.2.1 10 := hs.2.2 10 (by simp)
      have h13 : M'.2.1 13 = M.2.1 13 := hs.2.2 13 (by simp)
      have h14 : M'.2.1 14 = M.2.1 14 := hs.2.2 14 (by simp)
      have h15 : M'.2.1 15 = M.2.1 15 := hs.2.2 15 (by simp)
      have hend : i = S.2.length → zb_X5_settle_135 K J M' [some (.ref 10), some (.int (nI lv)), some (.int (nI rate)), some (.int (nI wear)), some (.int (nI i)), o1, o2] [] := by
        intro e
        subst e
        simp only [zb_X5_settle_135, zT_push, zT_bin, zT_div, zT_bil, zT_shl, zT_un, zT_i2l, zT_l2i, zT_lcmp, zT_ild, zT_lld, zT_ald, zT_ist, zT_lst, zT_ast, zT_iinc, zT_dup, zT_dup2, zT_pop, zT_if1, zT_if2, zT_ifn, zT_getI, zT_getJ, zT_getR, zT_putI, zT_putZ, zT_putJ, zT_putR, zT_ald0, zT_lald, zT_aald, zT_iast, zT_zast, zT_bast, zT_last, zT_aast, zT_iret, zT_nret, zT_aret, zT_vret, zT_oi, zT_mm, zT_ialX, zT_S1, zT_S2, zT_S3, zT_V0, zT_V1, zT_V2, zT_V3, zT_V4, zT_V5, zT_V6, zT_I0, zT_I1, zT_I2, zlg, zlset, zlpr, zent, zok, va_rf, List.length_cons, List.length_nil, List.replicate, List.cons_append, List.nil_append, List.append_nil, Option.toList_some, Option.toList_none, Option.toList, Nat.reduceAdd, Nat.reduceSub, Nat.reduceLeDiff, Nat.zero_add, Nat.zero_le, true_and, and_true, Nat.le_refl, ge_iff_le, Nat.reduceEqDiff]
        refine h M' hs (fun e he => ?_)
        rw [hc e he, List.take_length]
        by_cases z : e ∈ S.2
        · rw [if_pos z]
        · rw [if_neg z]
          have := hwf.2.2 e he
          have h0 : S.1 e = 0 := by
            have : ¬ 0 < S.1 e := fun q => z (this.mpr q)
            omega
          rw [h0, wst_0]
      simp only [zb_X5_settle_3, zsh_10, zsh_11, zsh_13, zsh_14, zsh_15, x0, x2, x3, x4, h10, h13, h14, h15, t3, zT_push, zT_bin, zT_div, zT_bil, zT_shl, zT_un, zT_i2l, zT_l2i, zT_lcmp, zT_ild, zT_lld, zT_ald, zT_ist, zT_lst, zT_ast, zT_iinc, zT_dup, zT_dup2, zT_pop, zT_if1, zT_if2, zT_ifn, zT_getI, zT_getJ, zT_getR, zT_putI, zT_putZ, zT_putJ, zT_putR, zT_ald0, zT_lald, zT_aald, zT_iast, zT_zast, zT_bast, zT_last, zT_aast, zT_iret, zT_nret, zT_aret, zT_vret, zT_oi, zT_mm, zT_ialX, zT_S1, zT_S2, zT_S3, zT_V0, zT_V1, zT_V2, zT_V3, zT_V4, zT_V5, zT_V6, zT_I0, zT_I1, zT_I2, zlg, zlset, zlpr, zent, zok, va_rf, List.length_cons, List.length_nil, List.replicate, List.cons_append, List.nil_append, List.append_nil, Option.toList_some, Option.toList_none, Option.toList, Nat.reduceAdd, Nat.reduceSub, Nat.reduceLeDiff, Nat.zero_add, Nat.zero_le, true_and, and_true, Nat.le_refl, ge_iff_le, Nat.reduceEqDiff]
      refine ⟨fun h1 => hend ?_, fun h1 => ⟨fun h2 => hend ?_, fun h2 => ?_⟩⟩
      · have := zn_ge' h1 (by omega) (by omega)
        omega
      · have := zn_ge' (b := 120) h2 (by omega) (by omega)
        omega
      · have hlt := zn_ge h1 (by omega) (by omega)
        have hg := wat_get hlt
        obtain ⟨g1, g2⟩ := t2 i _ hg
        have hcm : wat S.2 i ∈ S.2 := List.mem_of_getElem? hg
        have htk : S.2.take (i + 1) = S.2.take i ++ [wat S.2 i] := by rw [List.take_succ, hg]; rfl
        have hnot : wat S.2 i ∉ S.2.take i := by
          intro z
          have hnd := hwf.1
          rw [← List.take_append_drop i S.2, List.nodup_append] at hnd
          have hm : wat S.2 i ∈ S.2.drop i := List.mem_of_getElem? (i := 0) (by rw [List.getElem?_drop]; exact hg)
          exact hnd.2.2 _ z _ hm rfl
        generalize wat S.2 i = c at hg g1 g2 hcm htk hnot
        obtain ⟨hHc, hHc2⟩ := hH c g2
        have hgc := hbd c
        have hcur : M'.2.1 11 c = nI (H c) := by rw [hc c g2, if_neg hnot]
        have hmul : S.1 c * rate ≤ 6000 := Nat.le_trans (Nat.mul_le_mul hgc hrt) (by decide)
        have hpos : 0 < S.1 c := (hwf.2.2 c g2).mp hcm
        have next : ∀ v, v = wst lv rate wear (H c) (S.1 c) (pit c) → zb_X5_settle_129 K J (zwI M' 11 c (nI v)) [some (.ref 10), some (.int (nI lv)), some (.int (nI rate)), some (.int (nI wear)), some (.int (nI i)), some (.int (nI c)), some (.int (nI (H c)))] [] := by
          intro v hv
          simp only [zb_X5_settle_129, zT_push, zT_bin, zT_div, zT_bil, zT_shl, zT_un, zT_i2l, zT_l2i, zT_lcmp, zT_ild, zT_lld, zT_ald, zT_ist, zT_lst, zT_ast, zT_iinc, zT_dup, zT_dup2, zT_pop, zT_if1, zT_if2, zT_ifn, zT_getI, zT_getJ, zT_getR, zT_putI, zT_putZ, zT_putJ, zT_putR, zT_ald0, zT_lald, zT_aald, zT_iast, zT_zast, zT_bast, zT_last, zT_aast, zT_iret, zT_nret, zT_aret, zT_vret, zT_oi, zT_mm, zT_ialX, zT_S1, zT_S2, zT_S3, zT_V0, zT_V1, zT_V2, zT_V3, zT_V4, zT_V5, zT_V6, zT_I0, zT_I1, zT_I2, zlg, zlset, zlpr, zent, zok, va_rf, List.length_cons, List.length_nil, List.replicate, List.cons_append, List.nil_append, List.append_nil, Option.toList_some, Option.toList_none, Option.toList, Nat.reduceAdd, Nat.reduceSub, Nat.reduceLeDiff, Nat.zero_add, Nat.zero_le, true_and, and_true, Nat.le_refl, ge_iff_le, Nat.reduceEqDiff]
          refine hJ (120 - (i + 1)) _ _ _ (by omega) ⟨i + 1, _, _, rfl, hlt, by rw [nI_1], rfl, hs.w (by simp), fun e he => ?_⟩
          simp only [zwI_L, zwI_I, zwI_J, zwI_R, zwJ_L, zwJ_I, zwJ_J, zwJ_R, zwR_L, zwR_I, zwR_J, zwR_R, zw2_s, zw2_n, ne_eq, not_false_eq_true, reduceCtorEq, not_true_eq_false, Nat.reduceEqDiff, zup_at]
          rw [htk]
          by_cases z : e = c
          · subst z
            rw [if_pos rfl, if_pos (List.mem_append_right _ List.mem_cons_self), hv]
          · rw [if_neg z, hc e he]
            have : (e ∈ S.2.take i ++ [c]) ↔ e ∈ S.2.take i := by simp [z]
            simp only [this]
        have keep : wst lv rate wear (H c) (S.1 c) (pit c) = H c → zb_X5_settle_129 K J M' [some (.ref 10), some (.int (nI lv)), some (.int (nI rate)), some (.int (nI wear)), some (.int (nI i)), some (.int (nI c)), some (.int (nI (H c)))] [] := by
          intro hv
          simp only [zb_X5_settle_129, zT_push, zT_bin, zT_div, zT_bil, zT_shl, zT_un, zT_i2l, zT_l2i, zT_lcmp, zT_ild, zT_lld, zT_ald, zT_ist, zT_lst, zT_ast, zT_iinc, zT_dup, zT_dup2, zT_pop, zT_if1, zT_if2, zT_ifn, zT_getI, zT_getJ, zT_getR, zT_putI, zT_putZ, zT_putJ, zT_putR, zT_ald0, zT_lald, zT_aald, zT_iast, zT_zast, zT_bast, zT_last, zT_aast, zT_iret, zT_nret, zT_aret, zT_vret, zT_oi, zT_mm, zT_ialX, zT_S1, zT_S2, zT_S3, zT_V0, zT_V1, zT_V2, zT_V3, zT_V4, zT_V5, zT_V6, zT_I0, zT_I1, zT_I2, zlg, zlset, zlpr, zent, zok, va_rf, List.length_cons, List.length_nil, List.replicate, List.cons_append, List.nil_append, List.append_nil, Option.toList_some, Option.toList_none, Option.toList, Nat.reduceAdd, Nat.reduceSub, Nat.reduceLeDiff, Nat.zero_add, Nat.zero_le, true_and, and_true, Nat.le_refl, ge_iff_le, Nat.reduceEqDiff]
          refine hJ (120 - (i + 1)) _ _ _ (by omega) ⟨i + 1, _, _, rfl, hlt, by rw [nI_1], rfl, hs, fun e he => ?_⟩
          rw [htk, hc e he]
          by_cases z : e = c
          · subst z
            rw [if_neg hnot, if_pos (List.mem_append_right _ List.mem_cons_self), hv]
          · have : (e ∈ S.2.take i ++ [c]) ↔ e ∈ S.2.take i := by simp [z]
            simp only [this]
        rw [nI_clamp (n := i) (by omega), g1, nI_clamp (n := c) (by omega), hcur, t1 c g2, pk_mul, show (16 : Int32) = nI 16 from rfl, pk_div (by omega) (by omega) (by omega), nI_add, zmin_n (by omega) (by omega), hpit c hcm, nI_1, show (200 : Int32) = nI 200 from rfl, zmin_n (by omega) (by omega)]
        refine ⟨vp_in_nI (by omega) (by decide), vp_in_nI g2 (by decide), fun h3 => ⟨vp_in_nI g2 (by decide), fun h4 => ⟨vp_in_nI g2 (by decide), fun h5 => ?_, fun h5 => ⟨vp_in_nI g2 (by decide), ?_⟩⟩, fun h4 => ⟨vp_in_nI g2 (by decide), ?_⟩⟩, fun h3 => ⟨vp_in_nI g2 (by decide), by decide, vp_in_nI g2 (by decide), ?_⟩⟩
        · have a3 := zn_ge' h3 (by omega) (by omega)
          have a4 : pit c ≠ true := fun z => by rw [if_pos z] at h4; exact absurd h4 (by decide)
          have a5 := (nI_ltI (by omega) (by omega)).mp h5
          refine keep ?_
          unfold wst
          rw [if_neg (by omega), if_neg a4, if_neg (by omega)]
        · have a3 := zn_ge' h3 (by omega) (by omega)
          have a4 : pit c ≠ true := fun z => by rw [if_pos z] at h4; exact absurd h4 (by decide)
          have a5 : ¬ S.1 c < 16 := fun z => h5 ((nI_ltI (by omega) (by omega)).mpr z)
          have ev : (if 0 < nI (H c) - nI wear then nI (H c) - nI wear else 0) = nI (H c - wear) := by
            by_cases hq : wear ≤ H c
            · rw [pk_sub hq, show (0 : Int32) = nI 0 from rfl]
              by_cases h0 : 0 < H c - wear
              · rw [if_pos ((nI_ltI (a := 0) (by omega) (by omega)).mpr h0)]
              · rw [if_neg (fun z => h0 ((nI_ltI (a := 0) (by omega) (by omega)).mp z)), show H c - wear = 0 from by omega]
            · have e1 : H c = 0 := by omega
              have e2 : wear = 1 := by omega
              rw [e1, e2]
              decide
          rw [ev]
          refine next _ ?_
          unfold wst
          rw [if_neg (by omega), if_neg a4, if_pos (by omega)]
        · have a3 := zn_ge' h3 (by omega) (by omega)
          have a4 : pit c = true := by
            cases hq : pit c with
            | true => rfl
            | false => rw [hq] at h4; exact absurd rfl h4
          refine next _ ?_
          have e : wst lv rate wear (H c) (S.1 c) (pit c) = (if 200 < H c + 1 then 200 else H c + 1) := by
            unfold wst
            rw [if_neg (by omega : ¬ H c < lv), if_pos a4, if_pos hpos]
          rw [e]
          split <;> split <;> omega
        · have a3 := zn_ge h3 (by omega) (by omega)
          refine next _ ?_
          unfold wst
          rw [if_pos a3]
          split <;> split <;> omega
    · intro J hJ
      simp only [zb_X5_settle_0, zT_push, zT_bin, zT_div, zT_bil, zT_shl, zT_un, zT_i2l, zT_l2i, zT_lcmp, zT_ild, zT_lld, zT_ald, zT_ist, zT_lst, zT_ast, zT_iinc, zT_dup, zT_dup2, zT_pop, zT_if1, zT_if2, zT_ifn, zT_getI, zT_getJ, zT_getR, zT_putI, zT_putZ, zT_putJ, zT_putR, zT_ald0, zT_lald, zT_aald, zT_iast, zT_zast, zT_bast, zT_last, zT_aast, zT_iret, zT_nret, zT_aret, zT_vret, zT_oi, zT_mm, zT_ialX, zT_S1, zT_S2, zT_S3, zT_V0, zT_V1, zT_V2, zT_V3, zT_V4, zT_V5, zT_V6, zT_I0, zT_I1, zT_I2, zlg, zlset, zlpr, zent, zok, va_rf, List.length_cons, List.length_nil, List.replicate, List.cons_append, List.nil_append, List.append_nil, Option.toList_some, Option.toList_none, Option.toList, Nat.reduceAdd, Nat.reduceSub, Nat.reduceLeDiff, Nat.zero_add, Nat.zero_le, true_and, and_true, Nat.le_refl, ge_iff_le, Nat.reduceEqDiff]
      exact hJ 120 _ _ _ ⟨0, none, none, rfl, Nat.zero_le _, rfl, rfl, zsm.rf, fun e he => by rw [(hH e he).1]; simp⟩
  · exact h.elim
