/-! DeltaRuns$Land raise -/
theorem zd_X1_raise_0 : decode cX1_raise 0 = .ok (.iconst 0, 1) := by decide +kernel
theorem zd_X1_raise_1 : decode cX1_raise 1 = .ok (.istore 6, 2) := by decide +kernel
theorem zd_X1_raise_3 : decode cX1_raise 3 = .ok (.iload_n 2, 1) := by decide +kernel
theorem zd_X1_raise_4 : decode cX1_raise 4 = .ok (.istore 7, 2) := by decide +kernel
theorem zd_X1_raise_6 : decode cX1_raise 6 = .ok (.iload 7, 2) := by decide +kernel
theorem zd_X1_raise_8 : decode cX1_raise 8 = .ok (.iload 4, 2) := by decide +kernel
theorem zd_X1_raise_10 : decode cX1_raise 10 = .ok (.if_icmp .gt 41, 3) := by decide +kernel
theorem zd_X1_raise_13 : decode cX1_raise 13 = .ok (.iload_n 1, 1) := by decide +kernel
theorem zd_X1_raise_14 : decode cX1_raise 14 = .ok (.istore 8, 2) := by decide +kernel
theorem zd_X1_raise_16 : decode cX1_raise 16 = .ok (.iload 8, 2) := by decide +kernel
theorem zd_X1_raise_18 : decode cX1_raise 18 = .ok (.iload_n 3, 1) := by decide +kernel
theorem zd_X1_raise_19 : decode cX1_raise 19 = .ok (.if_icmp .gt 26, 3) := by decide +kernel
theorem zd_X1_raise_22 : decode cX1_raise 22 = .ok (.aload_n 0, 1) := by decide +kernel
theorem zd_X1_raise_23 : decode cX1_raise 23 = .ok (.getfield 9, 3) := by decide +kernel
theorem zd_X1_raise_26 : decode cX1_raise 26 = .ok (.iload 8, 2) := by decide +kernel
theorem zd_X1_raise_28 : decode cX1_raise 28 = .ok (.iload 7, 2) := by decide +kernel
theorem zd_X1_raise_30 : decode cX1_raise 30 = .ok (.invokestatic 35, 3) := by decide +kernel
theorem zd_X1_raise_33 : decode cX1_raise 33 = .ok (.iload 5, 2) := by decide +kernel
theorem zd_X1_raise_35 : decode cX1_raise 35 = .ok (.iastore, 1) := by decide +kernel
theorem zd_X1_raise_36 : decode cX1_raise 36 = .ok (.iinc 6 1, 3) := by decide +kernel
theorem zd_X1_raise_39 : decode cX1_raise 39 = .ok (.iinc 8 1, 3) := by decide +kernel
theorem zd_X1_raise_42 : decode cX1_raise 42 = .ok (.goto (-26), 3) := by decide +kernel
theorem zd_X1_raise_45 : decode cX1_raise 45 = .ok (.iinc 7 1, 3) := by decide +kernel
theorem zd_X1_raise_48 : decode cX1_raise 48 = .ok (.goto (-42), 3) := by decide +kernel
theorem zd_X1_raise_51 : decode cX1_raise 51 = .ok (.iload 6, 2) := by decide +kernel
theorem zd_X1_raise_53 : decode cX1_raise 53 = .ok (.ireturn, 1) := by decide +kernel
def zb_X1_raise_0 (K : zKt) (J : Nat → zPP) : zPP := zT_push (.int 0) (zT_ist 6 (zT_ild 2 (zT_ist 7 (J 6))))
theorem zbs_X1_raise_0 {X : zCt} (hR : zRX X = { frames := 1, cells := 0, slots := 0, locals := 21 }) (J : Nat → zPP) (hJ : ∀ h ∈ ([6, 16] : List Nat), zSd X RX1 "raise" cX1_raise 9 (some .int) h (J h)) : zSd X RX1 "raise" cX1_raise 9 (some .int) 0 (zb_X1_raise_0 (zKX X) J) := zs_iconst zd_X1_raise_0 (by decide) (zs_istore zd_X1_raise_1 (by decide) (zs_iload_n zd_X1_raise_3 rfl (zs_istore zd_X1_raise_4 (by decide) (hJ 6 (by decide)))))
def zb_X1_raise_6 (K : zKt) (J : Nat → zPP) : zPP := zT_ild 7 (zT_ild 4 (zT_if2 (fun x y => y < x) (zT_ild 6 (zT_iret K)) (zT_ild 1 (zT_ist 8 (J 16)))))
theorem zbs_X1_raise_6 {X : zCt} (hR : zRX X = { frames := 1, cells := 0, slots := 0, locals := 21 }) (J : Nat → zPP) (hJ : ∀ h ∈ ([6, 16] : List Nat), zSd X RX1 "raise" cX1_raise 9 (some .int) h (J h)) : zSd X RX1 "raise" cX1_raise 9 (some .int) 6 (zb_X1_raise_6 (zKX X) J) := zs_iload zd_X1_raise_6 (zs_iload zd_X1_raise_8 (zs_icmp_gt (tgt := 51) zd_X1_raise_10 (by decide) (zs_iload zd_X1_raise_51 (zs_iret rfl zd_X1_raise_53)) (zs_iload_n zd_X1_raise_13 rfl (zs_istore zd_X1_raise_14 (by decide) (hJ 16 (by decide))))))
def zb_X1_raise_16 (K : zKt) (J : Nat → zPP) : zPP := zT_ild 8 (zT_ild 3 (zT_if2 (fun x y => y < x) (zT_iinc 7 1 (J 6)) (zT_ald 0 (zT_getR 1 0 6 (zT_ild 8 (zT_ild 7 (zT_S2 zok zc_X7_cellAt (zT_ild 5 (zT_iast (zT_iinc 6 1 (zT_iinc 8 1 (J 16))))))))))))
theorem zbs_X1_raise_16 {X : zCt} (hR : zRX X = { frames := 1, cells := 0, slots := 0, locals := 21 }) (J : Nat → zPP) (hJ : ∀ h ∈ ([6, 16] : List Nat), zSd X RX1 "raise" cX1_raise 9 (some .int) h (J h)) : zSd X RX1 "raise" cX1_raise 9 (some .int) 16 (zb_X1_raise_16 (zKX X) J) := zs_iload zd_X1_raise_16 (zs_iload_n zd_X1_raise_18 rfl (zs_icmp_gt (tgt := 45) zd_X1_raise_19 (by decide) (zs_iinc zd_X1_raise_45 (by decide) (by decide) (zs_goto (tgt := 6) zd_X1_raise_48 (by decide) (hJ 6 (by decide)))) (zs_aload_n zd_X1_raise_22 rfl (zs_getR (ci := 1) (j := 0) (T := TX1) rfl inX1 (by decide) gw_1_33 rfl zd_X1_raise_23 (zs_iload zd_X1_raise_26 (zs_iload zd_X1_raise_28 (zs_SN (zm_X7_cellAt _ _ _) gw_2_7 (List.mem_of_getElem? (i := 4) rfl) gw_2_6 gw_1_1 zdn_X7_cellAt (zrm hR (by decide) (by decide)) zd_X1_raise_30 (zCl_S2 zok_l) (zs_iload zd_X1_raise_33 (zs_iast zd_X1_raise_35 (zs_iinc zd_X1_raise_36 (by decide) (by decide) (zs_iinc zd_X1_raise_39 (by decide) (by decide) (zs_goto (tgt := 16) zd_X1_raise_42 (by decide) (hJ 16 (by decide))))))))))))))
def zB_X1_raise (K : zKt) (J : Nat → zPP) (h : Nat) : zPP := if h = 6 then zb_X1_raise_6 K J else if h = 16 then zb_X1_raise_16 K J else (fun _ _ _ => False)
theorem zBs_X1_raise {X : zCt} (hR : zRX X = { frames := 1, cells := 0, slots := 0, locals := 21 }) : ∀ J : Nat → zPP, (∀ h ∈ ([6, 16] : List Nat), zSd X RX1 "raise" cX1_raise 9 (some .int) h (J h)) → ∀ h ∈ ([6, 16] : List Nat), zSd X RX1 "raise" cX1_raise 9 (some .int) h (zB_X1_raise (zKX X) J h) := by
  intro J hJ h hh
  unfold zB_X1_raise
  simp only [List.mem_cons, List.not_mem_nil, or_false] at hh
  rcases hh with rfl | rfl
  · exact zbs_X1_raise_6 hR J hJ
  · exact zbs_X1_raise_16 hR J hJ
theorem zdn_X1_raise : yX1_raise.cls ≠ "java/lang/invoke/MethodHandle" ∧ yX1_raise.cls ≠ "java/lang/invoke/VarHandle" ∧ (parseMethodDescriptor yX1_raise.desc).map (fun d => d.parameters.length) = some 5 := by decide +kernel
/-! THE FULL STATE (σ, entries, tape, fault, status) and small parts -/
abbrev wFS : Type := wSP × List wEn × List Nat × Int32 × Int32
def zTp (M : zMm) (tp : List Nat) : Prop := M.2.1 3 1 = nI tp.length ∧ tp.length ≤ 300 ∧ ∀ i b, tp[i]? = some b → b < 256 ∧ M.2.1 4 i = (nI b).toInt8.toInt32
def zXF (M : zMm) (F : wFS) (pk dk p : Nat) : Prop := zXI M F.1 pk dk p ∧ zEn M F.2.1 ∧ (∀ e ∈ F.2.1, wil (sW F.1) (sH F.1) (wec e)) ∧ zTp M F.2.2.1 ∧ M.2.1 0 7 = F.2.2.2.1 ∧ M.2.1 0 8 = F.2.2.2.2
/-- the years' structure alone, whatever they hold -/
def zYT (M : zMm) : Prop := ∀ r, r < 36 → (M.2.2.2 20 r = none ∧ zyi r ∉ M.1 ∧ zyi r + 1 ∉ M.1) ∨ (M.2.2.2 20 r = some (zyi r) ∧ M.2.2.2 (zyi r) 0 = some (zyi r + 1))
theorem zYS.t {M : zMm} {σ : wSP} (h : zYS M σ) : zYT M := fun r hr => (h r hr).elim Or.inl (fun z => Or.inr ⟨z.1, z.2.1⟩)
/-- but for the kept years all of zXI -/
def zX2 (M : zMm) (σ : wSP) (pk dk p : Nat) : Prop := zXr M pk dk ∧ wsok σ ∧ M.2.1 1 1 = nI (sW σ) ∧ M.2.1 1 2 = nI (sH σ) ∧ M.2.1 1 3 = nI (sS σ) ∧ M.2.1 1 4 = nI (sF σ) ∧ M.2.1 1 5 = nI (sL σ) ∧ (∀ e, e < 120 → M.2.1 2 e = nI (sG σ e)) ∧ zpl M pk (sA σ) ∧ (∃ S : wST, zwt M S.1 S.2 ∧ wwf S) ∧ zYT M ∧ zLL M p
theorem zXI.x2 {M : zMm} {σ : wSP} {pk dk p : Nat} (h : zXI M σ pk dk p) : zX2 M σ pk dk p := by
  obtain ⟨h1, h2, h3, h4, h5, h6, h7, h8, h9, h10, h11, h12⟩ := h
  exact ⟨h1, h2, h3, h4, h5, h6, h7, h8, h9, h10, h11.t, h12⟩
/-- forgetRuns: only the latest years change -/
def zfg0 (M M' : zMm) : Prop := M'.1 = M.1 ∧ M'.2.2 = M.2.2 ∧ (∀ k, k < 100 ∨ 172 ≤ k → M'.2.1 k = M.2.1 k)
def zc_X7_forgetRuns (a : List Value) (M : zMm) (K : zKt) : Prop := match a with
  | [.ref k] => k = 0 ∧ M.2.2.2 0 4 = some 20 ∧ zYT M ∧ ∀ M', zfg0 M M' → (∀ r, r < 36 → M.2.2.2 20 r = some (zyi r) → M'.2.1 (zyi r) 1 = -1) → K none M'
  | _ => False
theorem zm_X7_forgetRuns (l : Launch) (D : va_G) (Y : Nat → ClassId) : zMt l D Y yX7_forgetRuns cX7_forgetRuns 2 none 0 0 0 0 zc_X7_forgetRuns := by
  refine zwhile1 (h0 := 2) (by decide) (fun K J _ _ => zb_X7_forgetRuns_0 K J) (fun K _ _ J => zb_X7_forgetRuns_2 K J) (fun X hR J hJ => zbs_X7_forgetRuns_0 hR J hJ) (fun X hR J hJ => zbs_X7_forgetRuns_2 hR J hJ) (fun avs M K h => ?_)
  unfold zc_X7_forgetRuns at h
  split at h
  · obtain ⟨rfl, hr4, hyt, h⟩ := h
    refine ⟨by simp [zent], fun q M' ls st => ∃ i, q = 36 - i ∧ i ≤ 36 ∧ ls = [some (.ref 0), some (.int (nI i))] ∧ st = [] ∧ zfg0 M M' ∧ (∀ r, r < i → M.2.2.2 20 r = some (zyi r) → M'.2.1 (zyi r) 1 = -1), ?_, ?_⟩
    · rintro q J hJ M' ls st ⟨i, rfl, hi, rfl, rfl, ⟨f1, f2, f3⟩, hc⟩
      have hR : M'.2.2.2 = M.2.2.2 := congrArg Prod.snd f2
      have a4 : M'.2.2.2 0 4 = some 20 := by rw [hR]; exact hr4
      simp only [zb_X7_forgetRuns_2, zsh_0, zsh_20, a4, hR, zT_push, zT_bin, zT_div, zT_bil, zT_shl, zT_un, zT_i2l, zT_l2i, zT_lcmp, zT_ild, zT_lld, zT_ald, zT_ist, zT_lst, zT_ast, zT_iinc, zT_dup, zT_dup2, zT_pop, zT_if1, zT_if2, zT_ifn, zT_getI, zT_getJ, zT_getR, zT_putI, zT_putZ, zT_putJ, zT_putR, zT_ald0, zT_lald, zT_aald, zT_iast, zT_zast, zT_bast, zT_last, zT_aast, zT_iret, zT_nret, zT_aret, zT_vret, zT_oi, zT_mm, zT_ialX, zT_S1, zT_S2, zT_S3, zT_V0, zT_V1, zT_V2, zT_V3, zT_V4, zT_V5, zT_V6, zT_I0, zT_I1, zT_I2, zlg, zlset, zlpr, zent, zok, va_rf, List.length_cons, List.length_nil, List.replicate, List.cons_append, List.nil_append, List.append_nil, Option.toList_some, Option.toList_none, Option.toList, Nat.reduceAdd, Nat.reduceSub, Nat.reduceLeDiff, Nat.zero_add, Nat.zero_le, true_and, and_true, Nat.le_refl, ge_iff_le, Nat.reduceEqDiff]
      refine ⟨fun h1 => ?_, fun h1 => ?_⟩
      · have := zn_ge' (b := 36) h1 (by omega) (by omega)
        have e : i = 36 := by omega
        subst e
        exact h M' ⟨f1, f2, f3⟩ hc
      · have hlt := zn_ge (b := 36) h1 (by omega) (by omega)
        obtain ⟨y0, y1⟩ := zyk_sh (yk := zyi i) ⟨i, hlt, rfl⟩
        rw [nI_clamp (by omega)]
        refine ⟨vp_in_nI hlt (by decide), ?_⟩
        rcases hyt i hlt with ⟨q1, -⟩ | ⟨q1, -⟩
        · rw [q1]
          dsimp only
          simp only [zb_X7_forgetRuns_27, zT_push, zT_bin, zT_div, zT_bil, zT_shl, zT_un, zT_i2l, zT_l2i, zT_lcmp, zT_ild, zT_lld, zT_ald, zT_ist, zT_lst, zT_ast, zT_iinc, zT_dup, zT_dup2, zT_pop, zT_if1, zT_if2, zT_ifn, zT_getI, zT_getJ, zT_getR, zT_putI, zT_putZ, zT_putJ, zT_putR, zT_ald0, zT_lald, zT_aald, zT_iast, zT_zast, zT_bast, zT_last, zT_aast, zT_iret, zT_nret, zT_aret, zT_vret, zT_oi, zT_mm, zT_ialX, zT_S1, zT_S2, zT_S3, zT_V0, zT_V1, zT_V2, zT_V3, zT_V4, zT_V5, zT_V6, zT_I0, zT_I1, zT_I2, zlg, zlset, zlpr, zent, zok, va_rf, List.length_cons, List.length_nil, List.replicate, List.cons_append, List.nil_append, List.append_nil, Option.toList_some, Option.toList_none, Option.toList, Nat.reduceAdd, Nat.reduceSub, Nat.reduceLeDiff, Nat.zero_add, Nat.zero_le, true_and, and_true, Nat.le_refl, ge_iff_le, Nat.reduceEqDiff]
          refine hJ (36 - (i + 1)) _ _ _ (by omega) ⟨i + 1, rfl, hlt, by rw [nI_1], rfl, ⟨f1, f2, f3⟩, fun r hr1 hr2 => ?_⟩
          by_cases e : r = i
          · subst e; rw [q1] at hr2; cases hr2
          · exact hc r (by omega) hr2
        · rw [q1]
          dsimp only
          refine ⟨vp_in_nI hlt (by decide), y0, ?_⟩
          simp only [zb_X7_forgetRuns_27, zT_push, zT_bin, zT_div, zT_bil, zT_shl, zT_un, zT_i2l, zT_l2i, zT_lcmp, zT_ild, zT_lld, zT_ald, zT_ist, zT_lst, zT_ast, zT_iinc, zT_dup, zT_dup2, zT_pop, zT_if1, zT_if2, zT_ifn, zT_getI, zT_getJ, zT_getR, zT_putI, zT_putZ, zT_putJ, zT_putR, zT_ald0, zT_lald, zT_aald, zT_iast, zT_zast, zT_bast, zT_last, zT_aast, zT_iret, zT_nret, zT_aret, zT_vret, zT_oi, zT_mm, zT_ialX, zT_S1, zT_S2, zT_S3, zT_V0, zT_V1, zT_V2, zT_V3, zT_V4, zT_V5, zT_V6, zT_I0, zT_I1, zT_I2, zlg, zlset, zlpr, zent, zok, va_rf, List.length_cons, List.length_nil, List.replicate, List.cons_append, List.nil_append, List.append_nil, Option.toList_some, Option.toList_none, Option.toList, Nat.reduceAdd, Nat.reduceSub, Nat.reduceLeDiff, Nat.zero_add, Nat.zero_le, true_and, and_true, Nat.le_refl, ge_iff_le, Nat.reduceEqDiff]
          refine hJ (36 - (i + 1)) _ _ _ (by omega) ⟨i + 1, rfl, hlt, by rw [nI_1], rfl, ⟨f1, f2, fun k hk => ?_⟩, fun r hr1 hr2 => ?_⟩
          · simp only [zwI_L, zwI_I, zwI_J, zwI_R, zwJ_L, zwJ_I, zwJ_J, zwJ_R, zwR_L, zwR_I, zwR_J, zwR_R, zw2_s, zw2_n, ne_eq, not_false_eq_true, reduceCtorEq, not_true_eq_false, Nat.reduceEqDiff]
            rw [zw2_n (by unfold zyi; omega)]
            exact f3 k hk
          · simp only [zwI_L, zwI_I, zwI_J, zwI_R, zwJ_L, zwJ_I, zwJ_J, zwJ_R, zwR_L, zwR_I, zwR_J, zwR_R, zw2_s, zw2_n, ne_eq, not_false_eq_true, reduceCtorEq, not_true_eq_false, Nat.reduceEqDiff]
            by_cases e : r = i
            · subst e; rw [zw2_s, zup_s]
            · rw [zw2_n (zyi_ne e).1]
              exact hc r (by omega) hr2
    · intro J hJ
      simp only [zb_X7_forgetRuns_0, zT_push, zT_bin, zT_div, zT_bil, zT_shl, zT_un, zT_i2l, zT_l2i, zT_lcmp, zT_ild, zT_lld, zT_ald, zT_ist, zT_lst, zT_ast, zT_iinc, zT_dup, zT_dup2, zT_pop, zT_if1, zT_if2, zT_ifn, zT_getI, zT_getJ, zT_getR, zT_putI, zT_putZ, zT_putJ, zT_putR, zT_ald0, zT_lald, zT_aald, zT_iast, zT_zast, zT_bast, zT_last, zT_aast, zT_iret, zT_nret, zT_aret, zT_vret, zT_oi, zT_mm, zT_ialX, zT_S1, zT_S2, zT_S3, zT_V0, zT_V1, zT_V2, zT_V3, zT_V4, zT_V5, zT_V6, zT_I0, zT_I1, zT_I2, zlg, zlset, zlpr, zent, zok, va_rf, List.length_cons, List.length_nil, List.replicate, List.cons_append, List.nil_append, List.append_nil, Option.toList_some, Option.toList_none, Option.toList, Nat.reduceAdd, Nat.reduceSub, Nat.reduceLeDiff, Nat.zero_add, Nat.zero_le, true_and, and_true, Nat.le_refl, ge_iff_le, Nat.reduceEqDiff]
      exact hJ 36 _ _ _ ⟨0, rfl, by omega, rfl, rfl, ⟨rfl, rfl, fun _ _ => rfl⟩, fun r hr => absurd hr (Nat.not_lt_zero _)⟩
  · exact h.elim
theorem zX2.forget {M M' : zMm} {σ : wSP} {pk dk p : Nat} (h : zX2 M σ pk dk p) (hf : zfg0 M M') (hl : ∀ r, r < 36 → M.2.2.2 20 r = some (zyi r) → M'.2.1 (zyi r) 1 = -1) : zXI M' σ pk dk p := by
  obtain ⟨h1, h2, h3, h4, h5, h6, h7, h8, h9, ⟨S, hS1, hS2⟩, h11, h12⟩ := h
  obtain ⟨f1, f2, f3⟩ := hf
  have hR : M'.2.2.2 = M.2.2.2 := congrArg Prod.snd f2
  have e : ∀ {k : Nat}, k < 100 → M'.2.1 k = M.2.1 k := fun hk => f3 _ (Or.inl hk)
  refine ⟨h1.to hR, h2, by rw [e (by decide)]; exact h3, by rw [e (by decide)]; exact h4, by rw [e (by decide)]; exact h5, by rw [e (by decide)]; exact h6, by rw [e (by decide)]; exact h7, by rw [e (by decide)]; exact h8, ?_, ⟨S, ?_, hS2⟩, fun r hr => ?_, ?_⟩
  · obtain ⟨g1, g2⟩ := h9
    refine ⟨g1, ?_⟩
    have hp : pk < 28 := by omega
    rw [hR, e (k := pk) (by omega), e (k := pk + 1) (by omega), e (k := pk + 2) (by omega), e (k := pk + 3) (by omega), e (k := pk + 4) (by omega), e (k := pk + 5) (by omega)]
    exact g2
  · unfold zwt
    rw [e (k := 13) (by decide), e (k := 15) (by decide), e (k := 10) (by decide)]
    exact hS1
  · rw [hR, f1]
    rcases h11 r hr with z | ⟨z1, z2⟩
    · exact Or.inl z
    · exact Or.inr ⟨z1, z2, Or.inl (hl r hr z1)⟩
  · have : zlv M' = zlv M := by unfold zlv; rw [hR]
    unfold zLL
    rw [this, f1]
    exact h12
/-- Land.raise -/
def zc_X1_raise (a : List Value) (M : zMm) (K : zKt) : Prop := match a with
  | [.ref k, .int x1, .int y1, .int u1, .int v1, .int g] => k = 1 ∧ M.2.2.2 1 0 = some 2 ∧ ∃ x y u v : Nat, x1 = nI x ∧ y1 = nI y ∧ u1 = nI u ∧ v1 = nI v ∧ x ≤ u ∧ y ≤ v ∧ u < 12 ∧ v < 10 ∧ ∀ M', zsm [2] M M' → (∀ e, e < 120 → M'.2.1 2 e = if x ≤ e % 12 ∧ e % 12 ≤ u ∧ y ≤ e / 12 ∧ e / 12 ≤ v then g else M.2.1 2 e) → K (some (.int (nI ((u + 1 - x) * (v + 1 - y))))) M'
  | _ => False
set_option maxHeartbeats 1000000 in
theorem zm_X1_raise (l : Launch) (D : va_G) (Y : Nat → ClassId) : zMt l D Y yX1_raise cX1_raise 9 (some .int) 1 21 0 0 zc_X1_raise := by
  refine zwhile (heads := [6, 16]) (by decide) (fun K J _ _ => zb_X1_raise_0 K J) (fun K _ _ J h => zB_X1_raise K J h) (fun X hR J hJ => zbs_X1_raise_0 hR J hJ) (fun X hR => zBs_X1_raise hR) (fun avs M K h => ?_)
  unfold zc_X1_raise at h
  split at h
  · next k x1 y1 u1 v1 g =>
    obtain ⟨rfl, hr, x, y, u, v, rfl, rfl, rfl, rfl, hxu, hyv, hu, hv, h⟩ := h
    refine ⟨by simp [zent], fun q h' M' ls st => (h' = 6 ∧ ∃ b o, q = 1000 - 20 * b ∧ y ≤ b ∧ b ≤ v + 1 ∧ ls = [some (.ref 1), some (.int (nI x)), some (.int (nI y)), some (.int (nI u)), some (.int (nI v)), some (.int g), some (.int (nI ((u + 1 - x) * (b - y)))), some (.int (nI b)), o] ∧ st = [] ∧ zsm [2] M M' ∧ (∀ e, e < 120 → M'.2.1 2 e = if x ≤ e % 12 ∧ e % 12 ≤ u ∧ y ≤ e / 12 ∧ e / 12 < b then g else M.2.1 2 e)) ∨
      (h' = 16 ∧ ∃ b a, q = 1000 - 20 * b - 1 - a ∧ y ≤ b ∧ b ≤ v ∧ x ≤ a ∧ a ≤ u + 1 ∧ ls = [some (.ref 1), some (.int (nI x)), some (.int (nI y)), some (.int (nI u)), some (.int (nI v)), some (.int g), some (.int (nI ((u + 1 - x) * (b - y) + (a - x)))), some (.int (nI b)), some (.int (nI a))] ∧ st = [] ∧ zsm [2] M M' ∧ (∀ e, e < 120 → M'.2.1 2 e = if (x ≤ e % 12 ∧ e % 12 ≤ u ∧ y ≤ e / 12 ∧ e / 12 < b) ∨ (x ≤ e % 12 ∧ e % 12 < a ∧ e / 12 = b) then g else M.2.1 2 e)), ?_, ?_⟩
    · rintro q J hJ h' - M' ls st (⟨rfl, b, o, rfl, hb1, hb2, rfl, rfl, hs, hc⟩ | ⟨rfl, b, a, rfl, hb1, hb2, ha1, ha2, rfl, rfl, hs, hc⟩)
      · simp only [zB_X1_raise, zb_X1_raise_6, ↓reduceIte, zT_push, zT_bin, zT_div, zT_bil, zT_shl, zT_un, zT_i2l, zT_l2i, zT_lcmp, zT_ild, zT_lld, zT_ald, zT_ist, zT_lst, zT_ast, zT_iinc, zT_dup, zT_dup2, zT_pop, zT_if1, zT_if2, zT_ifn, zT_getI, zT_getJ, zT_getR, zT_putI, zT_putZ, zT_putJ, zT_putR, zT_ald0, zT_lald, zT_aald, zT_iast, zT_zast, zT_bast, zT_last, zT_aast, zT_iret, zT_nret, zT_aret, zT_vret, zT_oi, zT_mm, zT_ialX, zT_S1, zT_S2, zT_S3, zT_V0, zT_V1, zT_V2, zT_V3, zT_V4, zT_V5, zT_V6, zT_I0, zT_I1, zT_I2, zlg, zlset, zlpr, zent, zok, va_rf, List.length_cons, List.length_nil, List.replicate, List.cons_append, List.nil_append, List.append_nil, Option.toList_some, Option.toList_none, Option.toList, Nat.reduceAdd, Nat.reduceSub, Nat.reduceLeDiff, Nat.zero_add, Nat.zero_le, true_and, and_true, Nat.le_refl, ge_iff_le, Nat.reduceEqDiff]
        refine ⟨fun h1 => ?_, fun h1 => ?_⟩
        · have := (nI_ltI (by omega) (by omega)).mp h1
          have e : b = v + 1 := by omega
          subst e
          refine h M' hs (fun e he => ?_)
          rw [hc e he]
          have : (x ≤ e % 12 ∧ e % 12 ≤ u ∧ y ≤ e / 12 ∧ e / 12 < v + 1) ↔ (x ≤ e % 12 ∧ e % 12 ≤ u ∧ y ≤ e / 12 ∧ e / 12 ≤ v) := by omega
          simp only [this]
        · have hle : b ≤ v := by
            rcases Nat.lt_or_ge v b with q | q
            · exact absurd ((nI_ltI (by omega) (by omega)).mpr q) h1
            · exact q
          refine hJ (1000 - 20 * b - 1 - x) (by omega) 16 (by simp) _ _ _ (Or.inr ⟨rfl, b, x, rfl, hb1, hle, Nat.le_refl _, by omega, by simp only [Nat.sub_self, Nat.add_zero], rfl, hs, fun e he => ?_⟩)
          rw [hc e he]
          have : ((x ≤ e % 12 ∧ e % 12 ≤ u ∧ y ≤ e / 12 ∧ e / 12 < b) ∨ (x ≤ e % 12 ∧ e % 12 < x ∧ e / 12 = b)) ↔ (x ≤ e % 12 ∧ e % 12 ≤ u ∧ y ≤ e / 12 ∧ e / 12 < b) := by omega
          simp only [this]
      · have hr' : M'.2.2.2 1 0 = some 2 := by rw [hs.R]; exact hr
        simp only [zB_X1_raise, zb_X1_raise_16, ↓reduceIte, Nat.reduceEqDiff, zsh_1, hr', zT_push, zT_bin, zT_div, zT_bil, zT_shl, zT_un, zT_i2l, zT_l2i, zT_lcmp, zT_ild, zT_lld, zT_ald, zT_ist, zT_lst, zT_ast, zT_iinc, zT_dup, zT_dup2, zT_pop, zT_if1, zT_if2, zT_ifn, zT_getI, zT_getJ, zT_getR, zT_putI, zT_putZ, zT_putJ, zT_putR, zT_ald0, zT_lald, zT_aald, zT_iast, zT_zast, zT_bast, zT_last, zT_aast, zT_iret, zT_nret, zT_aret, zT_vret, zT_oi, zT_mm, zT_ialX, zT_S1, zT_S2, zT_S3, zT_V0, zT_V1, zT_V2, zT_V3, zT_V4, zT_V5, zT_V6, zT_I0, zT_I1, zT_I2, zlg, zlset, zlpr, zent, zok, va_rf, List.length_cons, List.length_nil, List.replicate, List.cons_append, List.nil_append, List.append_nil, Option.toList_some, Option.toList_none, Option.toList, Nat.reduceAdd, Nat.reduceSub, Nat.reduceLeDiff, Nat.zero_add, Nat.zero_le, true_and, and_true, Nat.le_refl, ge_iff_le, Nat.reduceEqDiff]
        refine ⟨fun h1 => ?_, fun h1 => ?_⟩
        · have := (nI_ltI (by omega) (by omega)).mp h1
          have e : a = u + 1 := by omega
          subst e
          refine hJ (1000 - 20 * (b + 1)) (by omega) 6 (by simp) _ _ _ (Or.inl ⟨rfl, b + 1, some (.int (nI (u + 1))), rfl, by omega, by omega, ?_, rfl, hs, fun e he => ?_⟩)
          · rw [nI_1, show b + 1 - y = (b - y) + 1 from by omega, Nat.mul_add, Nat.mul_one]
          · rw [hc e he]
            have : ((x ≤ e % 12 ∧ e % 12 ≤ u ∧ y ≤ e / 12 ∧ e / 12 < b) ∨ (x ≤ e % 12 ∧ e % 12 < u + 1 ∧ e / 12 = b)) ↔ (x ≤ e % 12 ∧ e % 12 ≤ u ∧ y ≤ e / 12 ∧ e / 12 < b + 1) := by omega
            simp only [this]
        · have hle : a ≤ u := by
            rcases Nat.lt_or_ge u a with q | q
            · exact absurd ((nI_ltI (by omega) (by omega)).mpr q) h1
            · exact q
          unfold zc_X7_cellAt
          dsimp only
          rw [wcell]
          simp only [zsh_2, zT_push, zT_bin, zT_div, zT_bil, zT_shl, zT_un, zT_i2l, zT_l2i, zT_lcmp, zT_ild, zT_lld, zT_ald, zT_ist, zT_lst, zT_ast, zT_iinc, zT_dup, zT_dup2, zT_pop, zT_if1, zT_if2, zT_ifn, zT_getI, zT_getJ, zT_getR, zT_putI, zT_putZ, zT_putJ, zT_putR, zT_ald0, zT_lald, zT_aald, zT_iast, zT_zast, zT_bast, zT_last, zT_aast, zT_iret, zT_nret, zT_aret, zT_vret, zT_oi, zT_mm, zT_ialX, zT_S1, zT_S2, zT_S3, zT_V0, zT_V1, zT_V2, zT_V3, zT_V4, zT_V5, zT_V6, zT_I0, zT_I1, zT_I2, zlg, zlset, zlpr, zent, zok, va_rf, List.length_cons, List.length_nil, List.replicate, List.cons_append, List.nil_append, List.append_nil, Option.toList_some, Option.toList_none, Option.toList, Nat.reduceAdd, Nat.reduceSub, Nat.reduceLeDiff, Nat.zero_add, Nat.zero_le, true_and, and_true, Nat.le_refl, ge_iff_le, Nat.reduceEqDiff]
          rw [nI_clamp (by omega)]
          refine ⟨vp_in_nI (by omega) (by decide), hJ (1000 - 20 * b - 1 - (a + 1)) (by omega) 16 (by simp) _ _ _ (Or.inr ⟨rfl, b, a + 1, rfl, hb1, hb2, by omega, by omega, ?_, rfl, hs.w (by simp), fun e he => ?_⟩)⟩
          · rw [nI_1, nI_1, show a + 1 - x = a - x + 1 from by omega, Nat.add_assoc]
          · simp only [zwI_L, zwI_I, zwI_J, zwI_R, zwJ_L, zwJ_I, zwJ_J, zwJ_R, zwR_L, zwR_I, zwR_J, zwR_R, zw2_s, zw2_n, ne_eq, not_false_eq_true, reduceCtorEq, not_true_eq_false, Nat.reduceEqDiff, zup_at]
            by_cases e1 : e = b * 12 + a
            · rw [if_pos e1, if_pos (by omega)]
            · rw [if_neg e1, hc e he]
              have : ((x ≤ e % 12 ∧ e % 12 ≤ u ∧ y ≤ e / 12 ∧ e / 12 < b) ∨ (x ≤ e % 12 ∧ e % 12 < a ∧ e / 12 = b)) ↔ ((x ≤ e % 12 ∧ e % 12 ≤ u ∧ y ≤ e / 12 ∧ e / 12 < b) ∨ (x ≤ e % 12 ∧ e % 12 < a + 1 ∧ e / 12 = b)) := by omega
              simp only [this]
    · intro J hJ
      simp only [zb_X1_raise_0, zT_push, zT_bin, zT_div, zT_bil, zT_shl, zT_un, zT_i2l, zT_l2i, zT_lcmp, zT_ild, zT_lld, zT_ald, zT_ist, zT_lst, zT_ast, zT_iinc, zT_dup, zT_dup2, zT_pop, zT_if1, zT_if2, zT_ifn, zT_getI, zT_getJ, zT_getR, zT_putI, zT_putZ, zT_putJ, zT_putR, zT_ald0, zT_lald, zT_aald, zT_iast, zT_zast, zT_bast, zT_last, zT_aast, zT_iret, zT_nret, zT_aret, zT_vret, zT_oi, zT_mm, zT_ialX, zT_S1, zT_S2, zT_S3, zT_V0, zT_V1, zT_V2, zT_V3, zT_V4, zT_V5, zT_V6, zT_I0, zT_I1, zT_I2, zlg, zlset, zlpr, zent, zok, va_rf, List.length_cons, List.length_nil, List.replicate, List.cons_append, List.nil_append, List.append_nil, Option.toList_some, Option.toList_none, Option.toList, Nat.reduceAdd, Nat.reduceSub, Nat.reduceLeDiff, Nat.zero_add, Nat.zero_le, true_and, and_true, Nat.le_refl, ge_iff_le, Nat.reduceEqDiff]
      refine hJ (1000 - 20 * y) 6 (by simp) _ _ _ (Or.inl ⟨rfl, y, none, rfl, Nat.le_refl _, by omega, by rw [Nat.sub_self, Nat.mul_zero]; rfl, rfl, zsm.rf, fun e he => ?_⟩)
      rw [if_neg (by omega)]
  · exact h.elim
