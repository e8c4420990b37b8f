/-! DeltaRuns takeUp -/
theorem zd_X7_takeUp_0 : decode cX7_takeUp 0 = .ok (.iconst 0, 1) := by decide +kernel
theorem zd_X7_takeUp_1 : decode cX7_takeUp 1 = .ok (.istore_n 3, 1) := by decide +kernel
theorem zd_X7_takeUp_2 : decode cX7_takeUp 2 = .ok (.iload_n 3, 1) := by decide +kernel
theorem zd_X7_takeUp_3 : decode cX7_takeUp 3 = .ok (.bipush 120, 2) := by decide +kernel
theorem zd_X7_takeUp_5 : decode cX7_takeUp 5 = .ok (.if_icmp .ge 34, 3) := by decide +kernel
theorem zd_X7_takeUp_8 : decode cX7_takeUp 8 = .ok (.aload_n 0, 1) := by decide +kernel
theorem zd_X7_takeUp_9 : decode cX7_takeUp 9 = .ok (.getfield 33, 3) := by decide +kernel
theorem zd_X7_takeUp_12 : decode cX7_takeUp 12 = .ok (.getfield 194, 3) := by decide +kernel
theorem zd_X7_takeUp_15 : decode cX7_takeUp 15 = .ok (.iload_n 3, 1) := by decide +kernel
theorem zd_X7_takeUp_16 : decode cX7_takeUp 16 = .ok (.aload_n 1, 1) := by decide +kernel
theorem zd_X7_takeUp_17 : decode cX7_takeUp 17 = .ok (.iload_n 2, 1) := by decide +kernel
theorem zd_X7_takeUp_18 : decode cX7_takeUp 18 = .ok (.iload_n 3, 1) := by decide +kernel
theorem zd_X7_takeUp_19 : decode cX7_takeUp 19 = .ok (.invokevirtual 123, 3) := by decide +kernel
theorem zd_X7_takeUp_22 : decode cX7_takeUp 22 = .ok (.iastore, 1) := by decide +kernel
theorem zd_X7_takeUp_23 : decode cX7_takeUp 23 = .ok (.aload_n 0, 1) := by decide +kernel
theorem zd_X7_takeUp_24 : decode cX7_takeUp 24 = .ok (.getfield 33, 3) := by decide +kernel
theorem zd_X7_takeUp_27 : decode cX7_takeUp 27 = .ok (.getfield 200, 3) := by decide +kernel
theorem zd_X7_takeUp_30 : decode cX7_takeUp 30 = .ok (.iload_n 3, 1) := by decide +kernel
theorem zd_X7_takeUp_31 : decode cX7_takeUp 31 = .ok (.iconst 0, 1) := by decide +kernel
theorem zd_X7_takeUp_32 : decode cX7_takeUp 32 = .ok (.bastore, 1) := by decide +kernel
theorem zd_X7_takeUp_33 : decode cX7_takeUp 33 = .ok (.iinc 3 1, 3) := by decide +kernel
theorem zd_X7_takeUp_36 : decode cX7_takeUp 36 = .ok (.goto (-34), 3) := by decide +kernel
theorem zd_X7_takeUp_39 : decode cX7_takeUp 39 = .ok (.iconst 1, 1) := by decide +kernel
theorem zd_X7_takeUp_40 : decode cX7_takeUp 40 = .ok (.istore_n 3, 1) := by decide +kernel
theorem zd_X7_takeUp_41 : decode cX7_takeUp 41 = .ok (.iload_n 3, 1) := by decide +kernel
theorem zd_X7_takeUp_42 : decode cX7_takeUp 42 = .ok (.iload_n 2, 1) := by decide +kernel
theorem zd_X7_takeUp_43 : decode cX7_takeUp 43 = .ok (.if_icmp .gt 25, 3) := by decide +kernel
theorem zd_X7_takeUp_46 : decode cX7_takeUp 46 = .ok (.aload_n 0, 1) := by decide +kernel
theorem zd_X7_takeUp_47 : decode cX7_takeUp 47 = .ok (.getfield 46, 3) := by decide +kernel
theorem zd_X7_takeUp_50 : decode cX7_takeUp 50 = .ok (.iload_n 3, 1) := by decide +kernel
theorem zd_X7_takeUp_51 : decode cX7_takeUp 51 = .ok (.aload_n 0, 1) := by decide +kernel
theorem zd_X7_takeUp_52 : decode cX7_takeUp 52 = .ok (.getfield 10, 3) := by decide +kernel
theorem zd_X7_takeUp_55 : decode cX7_takeUp 55 = .ok (.aload_n 0, 1) := by decide +kernel
theorem zd_X7_takeUp_56 : decode cX7_takeUp 56 = .ok (.getfield 33, 3) := by decide +kernel
theorem zd_X7_takeUp_59 : decode cX7_takeUp 59 = .ok (.invokevirtual 204, 3) := by decide +kernel
theorem zd_X7_takeUp_62 : decode cX7_takeUp 62 = .ok (.iinc 3 1, 3) := by decide +kernel
theorem zd_X7_takeUp_65 : decode cX7_takeUp 65 = .ok (.goto (-24), 3) := by decide +kernel
theorem zd_X7_takeUp_68 : decode cX7_takeUp 68 = .ok (.return_, 1) := by decide +kernel
def zb_X7_takeUp_0 (K : zKt) (J : Nat → zPP) : zPP := zT_push (.int 0) (zT_ist 3 (J 2))
theorem zbs_X7_takeUp_0 {X : zCt} (hR : zRX X = { frames := 2, cells := 0, slots := 0, locals := 47 }) (J : Nat → zPP) (hJ : ∀ h ∈ ([2, 41] : List Nat), zSd X RX7 "takeUp" cX7_takeUp 4 none h (J h)) : zSd X RX7 "takeUp" cX7_takeUp 4 none 0 (zb_X7_takeUp_0 (zKX X) J) := zs_iconst zd_X7_takeUp_0 (by decide) (zs_istore_n zd_X7_takeUp_1 rfl (by decide) (hJ 2 (by decide)))
def zb_X7_takeUp_2 (K : zKt) (J : Nat → zPP) : zPP := zT_ild 3 (zT_push (.int 120) (zT_if2 (fun x y => y ≤ x) (zT_push (.int 1) (zT_ist 3 (J 41))) (zT_ald 0 (zT_getR 7 3 9 (zT_getR 5 0 11 (zT_ild 3 (zT_ald 1 (zT_ild 2 (zT_ild 3 (zT_V2 zok 6 2 zc_X6_heightOf (zT_iast (zT_ald 0 (zT_getR 7 3 9 (zT_getR 5 1 11 (zT_ild 3 (zT_push (.int 0) (zT_zast (zT_iinc 3 1 (J 2)))))))))))))))))))
theorem zbs_X7_takeUp_2 {X : zCt} (hR : zRX X = { frames := 2, cells := 0, slots := 0, locals := 47 }) (J : Nat → zPP) (hJ : ∀ h ∈ ([2, 41] : List Nat), zSd X RX7 "takeUp" cX7_takeUp 4 none h (J h)) : zSd X RX7 "takeUp" cX7_takeUp 4 none 2 (zb_X7_takeUp_2 (zKX X) J) := zs_iload_n zd_X7_takeUp_2 rfl (zs_bipush zd_X7_takeUp_3 (by decide) (zs_icmp_ge (tgt := 39) zd_X7_takeUp_5 (by decide) (zs_iconst zd_X7_takeUp_39 (by decide) (zs_istore_n zd_X7_takeUp_40 rfl (by decide) (hJ 41 (by decide)))) (zs_aload_n zd_X7_takeUp_8 rfl (zs_getR (ci := 7) (j := 3) (T := TX7) rfl inX7 (by decide) gw_1_188 rfl zd_X7_takeUp_9 (zs_getR (ci := 5) (j := 0) (T := TX5) rfl inX5 (by decide) gw_1_113 rfl zd_X7_takeUp_12 (zs_iload_n zd_X7_takeUp_15 rfl (zs_aload_n zd_X7_takeUp_16 rfl (zs_iload_n zd_X7_takeUp_17 rfl (zs_iload_n zd_X7_takeUp_18 rfl (zs_V (ci := 6) rfl rfl (zm_X6_heightOf _ _ _) gw_2_190 gw_2_187 gw_2_188 gw_2_189 gw_1_14 zdn_X6_heightOf (zrm hR (by decide) (by decide)) zd_X7_takeUp_19 (zCl_V2 zok_l) (zs_iast zd_X7_takeUp_22 (zs_aload_n zd_X7_takeUp_23 rfl (zs_getR (ci := 7) (j := 3) (T := TX7) rfl inX7 (by decide) gw_1_188 rfl zd_X7_takeUp_24 (zs_getR (ci := 5) (j := 1) (T := TX5) rfl inX5 (by decide) gw_1_116 rfl zd_X7_takeUp_27 (zs_iload_n zd_X7_takeUp_30 rfl (zs_iconst zd_X7_takeUp_31 (by decide) (zs_zast zd_X7_takeUp_32 (zs_iinc zd_X7_takeUp_33 (by decide) (by decide) (zs_goto (tgt := 2) zd_X7_takeUp_36 (by decide) (hJ 2 (by decide)))))))))))))))))))))
def zb_X7_takeUp_41 (K : zKt) (J : Nat → zPP) : zPP := zT_ild 3 (zT_ild 2 (zT_if2 (fun x y => y < x) (zT_vret K) (zT_ald 0 (zT_getR 7 5 9 (zT_ild 3 (zT_ald 0 (zT_getR 7 0 9 (zT_ald 0 (zT_getR 7 3 9 (zT_V3 zok 2 6 zc_X2_dykesIn (zT_iinc 3 1 (J 41))))))))))))
theorem zbs_X7_takeUp_41 {X : zCt} (hR : zRX X = { frames := 2, cells := 0, slots := 0, locals := 47 }) (J : Nat → zPP) (hJ : ∀ h ∈ ([2, 41] : List Nat), zSd X RX7 "takeUp" cX7_takeUp 4 none h (J h)) : zSd X RX7 "takeUp" cX7_takeUp 4 none 41 (zb_X7_takeUp_41 (zKX X) J) := zs_iload_n zd_X7_takeUp_41 rfl (zs_iload_n zd_X7_takeUp_42 rfl (zs_icmp_gt (tgt := 68) zd_X7_takeUp_43 (by decide) (zs_vret rfl zd_X7_takeUp_68) (zs_aload_n zd_X7_takeUp_46 rfl (zs_getR (ci := 7) (j := 5) (T := TX7) rfl inX7 (by decide) gw_1_190 rfl zd_X7_takeUp_47 (zs_iload_n zd_X7_takeUp_50 rfl (zs_aload_n zd_X7_takeUp_51 rfl (zs_getR (ci := 7) (j := 0) (T := TX7) rfl inX7 (by decide) gw_1_185 rfl zd_X7_takeUp_52 (zs_aload_n zd_X7_takeUp_55 rfl (zs_getR (ci := 7) (j := 3) (T := TX7) rfl inX7 (by decide) gw_1_188 rfl zd_X7_takeUp_56 (zs_V (ci := 2) rfl rfl (zm_X2_dykesIn _ _ _) gw_2_194 gw_2_191 gw_2_192 gw_2_193 gw_1_6 zdn_X2_dykesIn (zrm hR (by decide) (by decide)) zd_X7_takeUp_59 (zCl_V3 zok_l) (zs_iinc zd_X7_takeUp_62 (by decide) (by decide) (zs_goto (tgt := 41) zd_X7_takeUp_65 (by decide) (hJ 41 (by decide))))))))))))))
def zB_X7_takeUp (K : zKt) (J : Nat → zPP) (h : Nat) : zPP := if h = 2 then zb_X7_takeUp_2 K J else if h = 41 then zb_X7_takeUp_41 K J else (fun _ _ _ => False)
theorem zBs_X7_takeUp {X : zCt} (hR : zRX X = { frames := 2, cells := 0, slots := 0, locals := 47 }) : ∀ J : Nat → zPP, (∀ h ∈ ([2, 41] : List Nat), zSd X RX7 "takeUp" cX7_takeUp 4 none h (J h)) → ∀ h ∈ ([2, 41] : List Nat), zSd X RX7 "takeUp" cX7_takeUp 4 none h (zB_X7_takeUp (zKX X) J h) := by
  intro J hJ h hh
  unfold zB_X7_takeUp
  simp only [List.mem_cons, List.not_mem_nil, or_false] at hh
  rcases hh with rfl | rfl
  · exact zbs_X7_takeUp_2 hR J hJ
  · exact zbs_X7_takeUp_41 hR J hJ
theorem zdn_X7_takeUp : yX7_takeUp.cls ≠ "java/lang/invoke/MethodHandle" ∧ yX7_takeUp.cls ≠ "java/lang/invoke/VarHandle" ∧ (parseMethodDescriptor yX7_takeUp.desc).map (fun d => d.parameters.length) = some 2 := by decide +kernel
/-! DeltaRuns$Years <init> -/
theorem zd_X6_init_0 : decode cX6_init 0 = .ok (.aload_n 0, 1) := by decide +kernel
theorem zd_X6_init_1 : decode cX6_init 1 = .ok (.invokespecial 5, 3) := by decide +kernel
theorem zd_X6_init_4 : decode cX6_init 4 = .ok (.aload_n 0, 1) := by decide +kernel
theorem zd_X6_init_5 : decode cX6_init 5 = .ok (.sipush 465, 3) := by decide +kernel
theorem zd_X6_init_8 : decode cX6_init 8 = .ok (.newarray .long, 2) := by decide +kernel
theorem zd_X6_init_10 : decode cX6_init 10 = .ok (.putfield 11, 3) := by decide +kernel
theorem zd_X6_init_13 : decode cX6_init 13 = .ok (.aload_n 0, 1) := by decide +kernel
theorem zd_X6_init_14 : decode cX6_init 14 = .ok (.iconst (-1), 1) := by decide +kernel
theorem zd_X6_init_15 : decode cX6_init 15 = .ok (.putfield 15, 3) := by decide +kernel
theorem zd_X6_init_18 : decode cX6_init 18 = .ok (.return_, 1) := by decide +kernel
def zb_X6_init_0 (K : zKt) (J : Nat → zPP) (lc lz : Nat) : zPP := zT_ald 0 (zT_oi (zT_ald 0 (zT_push (.int 465) (zT_newa 3 lc lz (zT_putR 6 0 2 (zT_ald 0 (zT_push (.int (-1)) (zT_putI 6 1 2 (zT_vret K)))))))))
theorem zbs_X6_init_0 {X : zCt} (hR : zRX X = { frames := 1, cells := 1, slots := 465, locals := 20 }) (J : Nat → zPP) (hJ : ∀ h ∈ ([] : List Nat), zSd X RX6 "<init>" cX6_init 1 none h (J h)) : zSd X RX6 "<init>" cX6_init 1 none 0 (zb_X6_init_0 (zKX X) J (zlc X) (zls X)) := zs_aload_n zd_X6_init_0 rfl (zs_oi gw_2_169 gw_1_21 gw_1_22 (zrm1 hR (by decide) (by decide)) zd_X6_init_1 (zs_aload_n zd_X6_init_4 rfl (zs_sipush zd_X6_init_5 (by decide) (zs_newJ gw_2_178 rfl rfl zd_X6_init_8 (zs_putR (ci := 6) (j := 0) (T := TX6) rfl inX6 tyX6_ok nmX6 (by decide) gw_2_170 (Or.inr ⟨rfl, rfl, rfl⟩) (fun _ => ⟨rfl, rfl⟩) rfl zd_X6_init_10 (zs_aload_n zd_X6_init_13 rfl (zs_iconst zd_X6_init_14 (by decide) (zs_putI (ci := 6) (j := 1) (T := TX6) rfl inX6 tyX6_ok nmX6 (by decide) gw_2_171 rfl rfl rfl zd_X6_init_15 (zs_vret rfl zd_X6_init_18)))))))))
theorem zdn_X6_init : yX6_init.cls ≠ "java/lang/invoke/MethodHandle" ∧ yX6_init.cls ≠ "java/lang/invoke/VarHandle" ∧ (parseMethodDescriptor yX6_init.desc).map (fun d => d.parameters.length) = some 0 := by decide +kernel
/-! takeUp; a new Years -/
def wdks (w h : Nat) (acts : List wAc) : Nat → Nat → Bool
  | 0 => fun _ => false
  | n + 1 => wdk w h (n + 1) acts (wdks w h acts n)
theorem wHD_2 (σ : wSP) (r : Nat) : ∀ n, (wHD σ r n).2 = wdks (sW σ) (sH σ) (sA σ) n
  | 0 => rfl
  | n + 1 => by
    show wdk _ _ (n + 1) _ (wHD σ r n).2 = wdk _ _ (n + 1) _ _
    rw [wHD_2 σ r n]
theorem zXr.to {M M' : zMm} {pk dk : Nat} (h : zXr M pk dk) (e : M'.2.2.2 = M.2.2.2) : zXr M' pk dk := by
  unfold zXr zxw
  rw [e]
  exact h
theorem zwh.to {M M' : zMm} {w h : Nat} {ks : List Nat} (hw : zwh M w h) (hs : zsm ks M M') (h1 : 1 ∉ ks) : zwh M' w h := by
  unfold zwh
  rw [hs.2.2 1 h1]
  exact hw
def zc_X7_takeUp (a : List Value) (M : zMm) (K : zKt) : Prop := match a with
  | [.ref k, .ref yk, .int x] => k = 0 ∧ ∃ pk dk n H w h acts, zXr M pk dk ∧ zyk M yk ∧ x = nI n ∧ n ≤ 30 ∧ (∀ e, e < 120 → H e ≤ 200) ∧ (∀ i, i < 15 → M.2.2.1 (yk + 1) (n * 15 + i) = lN (wlg H i)) ∧ zwh M w h ∧ zpl M pk acts ∧ ∀ M', zsm [11, 12] M M' → zhg M' H → zdy M' (wdks w h acts n) → K none M'
  | _ => False
set_option maxHeartbeats 2000000 in
theorem zm_X7_takeUp (l : Launch) (D : va_G) (Y : Nat → ClassId) : zMt l D Y yX7_takeUp cX7_takeUp 4 none 2 47 0 0 zc_X7_takeUp := by
  refine zwhile (heads := [2, 41]) (by decide) (fun K J _ _ => zb_X7_takeUp_0 K J) (fun K _ _ J h => zB_X7_takeUp K J h) (fun X hR J hJ => zbs_X7_takeUp_0 hR J hJ) (fun X hR => zBs_X7_takeUp hR) (fun avs M K h => ?_)
  unfold zc_X7_takeUp at h
  split at h
  · next k yk x =>
    obtain ⟨rfl, pk, dk, n, H, w, h', acts, hxr, hyk, rfl, hn, hH, hlg, hwh, hpl, h⟩ := h
    obtain ⟨y0, y1⟩ := zyk_sh hyk.1
    refine ⟨by simp [zent], fun q h'' M' ls st => (h'' = 2 ∧ ∃ i, q = 1000 - i ∧ i ≤ 120 ∧ ls = [some (.ref 0), some (.ref yk), some (.int (nI n)), some (.int (nI i))] ∧ st = [] ∧ zsm [11, 12] M M' ∧ (∀ e, e < i → M'.2.1 11 e = nI (H e) ∧ M'.2.1 12 e = 0)) ∨
      (h'' = 41 ∧ ∃ m, q = 500 - m ∧ 1 ≤ m ∧ m ≤ n + 1 ∧ ls = [some (.ref 0), some (.ref yk), some (.int (nI n)), some (.int (nI m))] ∧ st = [] ∧ zsm [11, 12] M M' ∧ zhg M' H ∧ zdy M' (wdks w h' acts (m - 1))), ?_, ?_⟩
    · rintro q J hJ h'' - M' ls st (⟨rfl, i, rfl, hi, rfl, rfl, hs, hc⟩ | ⟨rfl, m, rfl, hm1, hm, rfl, rfl, hs, hhg, hdy⟩)
      · obtain ⟨a0, a1, a2, a3, a4, a5, a6, a7, a8, a9, a10, a11, a12, ⟨x0, x1, -⟩, -⟩ := hxr.to hs.R
        have hyk' : zyk M' yk := ⟨hyk.1, by rw [hs.R]; exact hyk.2⟩
        simp only [zB_X7_takeUp, zb_X7_takeUp_2, ↓reduceIte, zsh_0, zsh_10, zsh_11, zsh_12, y0, a3, x0, x1, zT_push, zT_bin, zT_div, zT_bil, zT_shl, zT_un, zT_i2l, zT_l2i, zT_lcmp, zT_ild, zT_lld, zT_ald, zT_ist, zT_lst, zT_ast, zT_iinc, zT_dup, zT_dup2, zT_pop, zT_if1, zT_if2, zT_ifn, zT_getI, zT_getJ, zT_getR, zT_putI, zT_putZ, zT_putJ, zT_putR, zT_ald0, zT_lald, zT_aald, zT_iast, zT_zast, zT_bast, zT_last, zT_aast, zT_iret, zT_nret, zT_aret, zT_vret, zT_oi, zT_mm, zT_ialX, zT_S1, zT_S2, zT_S3, zT_V0, zT_V1, zT_V2, zT_V3, zT_V4, zT_V5, zT_V6, zT_I0, zT_I1, zT_I2, zlg, zlset, zlpr, zent, zok, va_rf, List.length_cons, List.length_nil, List.replicate, List.cons_append, List.nil_append, List.append_nil, Option.toList_some, Option.toList_none, Option.toList, Nat.reduceAdd, Nat.reduceSub, Nat.reduceLeDiff, Nat.zero_add, Nat.zero_le, true_and, and_true, Nat.le_refl, ge_iff_le, Nat.reduceEqDiff]
        refine ⟨fun h1 => ?_, fun h1 => ?_⟩
        · have := zn_ge' (b := 120) h1 (by omega) (by omega)
          have e : i = 120 := by omega
          subst e
          exact hJ (500 - 1) (by omega) 41 (by simp) _ _ _ (Or.inr ⟨rfl, 1, rfl, Nat.le_refl _, by omega, rfl, rfl, hs, fun e he => ⟨(hc e he).1, hH e he⟩, fun e he => by rw [(hc e he).2]; rfl⟩)
        · have hlt := zn_ge (b := 120) h1 (by omega) (by omega)
          unfold zc_X6_heightOf
          dsimp only
          refine ⟨hyk', n, i, H, rfl, hn, rfl, hlt, hH, by rw [hs.J]; exact hlg, ?_⟩
          simp only [zsh_0, zsh_10, zsh_11, zsh_12, a3, x0, x1, zT_push, zT_bin, zT_div, zT_bil, zT_shl, zT_un, zT_i2l, zT_l2i, zT_lcmp, zT_ild, zT_lld, zT_ald, zT_ist, zT_lst, zT_ast, zT_iinc, zT_dup, zT_dup2, zT_pop, zT_if1, zT_if2, zT_ifn, zT_getI, zT_getJ, zT_getR, zT_putI, zT_putZ, zT_putJ, zT_putR, zT_ald0, zT_lald, zT_aald, zT_iast, zT_zast, zT_bast, zT_last, zT_aast, zT_iret, zT_nret, zT_aret, zT_vret, zT_oi, zT_mm, zT_ialX, zT_S1, zT_S2, zT_S3, zT_V0, zT_V1, zT_V2, zT_V3, zT_V4, zT_V5, zT_V6, zT_I0, zT_I1, zT_I2, zlg, zlset, zlpr, zent, zok, va_rf, List.length_cons, List.length_nil, List.replicate, List.cons_append, List.nil_append, List.append_nil, Option.toList_some, Option.toList_none, Option.toList, Nat.reduceAdd, Nat.reduceSub, Nat.reduceLeDiff, Nat.zero_add, Nat.zero_le, true_and, and_true, Nat.le_refl, ge_iff_le, Nat.reduceEqDiff, zwI_L, zwI_I, zwI_J, zwI_R, zwJ_L, zwJ_I, zwJ_J, zwJ_R, zwR_L, zwR_I, zwR_J, zwR_R, zw2_s, zw2_n, ne_eq, not_false_eq_true, reduceCtorEq, not_true_eq_false, Nat.reduceEqDiff]
          rw [nI_clamp (by omega)]
          refine ⟨vp_in_nI hlt (by decide), vp_in_nI hlt (by decide), by decide, hJ (1000 - (i + 1)) (by omega) 2 (by simp) _ _ _ (Or.inl ⟨rfl, i + 1, rfl, hlt, by rw [nI_1], rfl, (hs.w (by simp)).w (by simp), fun e he => ?_⟩)⟩
          simp only [zwI_L, zwI_I, zwI_J, zwI_R, zwJ_L, zwJ_I, zwJ_J, zwJ_R, zwR_L, zwR_I, zwR_J, zwR_R, zw2_s, zw2_n, ne_eq, not_false_eq_true, reduceCtorEq, not_true_eq_false, Nat.reduceEqDiff]
          by_cases q : e = i
          · subst q
            rw [zup_s, zup_s]
            exact ⟨rfl, rfl⟩
          · rw [zup_n q, zup_n q]
            exact hc e (by omega)
      · have hxr' := hxr.to hs.R
        obtain ⟨a0, a1, a2, a3, a4, a5, a6, a7, a8, a9, a10, a11, a12, hxw, -⟩ := hxr.to hs.R
        have hpl' := hpl.to hs (by simp)
        obtain ⟨p0, -⟩ := zpl_sh hpl.1
        simp only [zB_X7_takeUp, zb_X7_takeUp_41, ↓reduceIte, Nat.reduceEqDiff, zsh_0, a0, a3, a5, p0, zT_push, zT_bin, zT_div, zT_bil, zT_shl, zT_un, zT_i2l, zT_l2i, zT_lcmp, zT_ild, zT_lld, zT_ald, zT_ist, zT_lst, zT_ast, zT_iinc, zT_dup, zT_dup2, zT_pop, zT_if1, zT_if2, zT_ifn, zT_getI, zT_getJ, zT_getR, zT_putI, zT_putZ, zT_putJ, zT_putR, zT_ald0, zT_lald, zT_aald, zT_iast, zT_zast, zT_bast, zT_last, zT_aast, zT_iret, zT_nret, zT_aret, zT_vret, zT_oi, zT_mm, zT_ialX, zT_S1, zT_S2, zT_S3, zT_V0, zT_V1, zT_V2, zT_V3, zT_V4, zT_V5, zT_V6, zT_I0, zT_I1, zT_I2, zlg, zlset, zlpr, zent, zok, va_rf, List.length_cons, List.length_nil, List.replicate, List.cons_append, List.nil_append, List.append_nil, Option.toList_some, Option.toList_none, Option.toList, Nat.reduceAdd, Nat.reduceSub, Nat.reduceLeDiff, Nat.zero_add, Nat.zero_le, true_and, and_true, Nat.le_refl, ge_iff_le, Nat.reduceEqDiff]
        refine ⟨fun h1 => ?_, fun h1 => ?_⟩
        · have := (nI_ltI (by omega) (by omega)).mp h1
          have e : m = n + 1 := by omega
          subst e
          exact h M' hs hhg hdy
        · have hle : m ≤ n := by
            rcases Nat.lt_or_ge n m with q | q
            · exact absurd ((nI_ltI (by omega) (by omega)).mpr q) h1
            · exact q
          unfold zc_X2_dykesIn
          dsimp only
          refine ⟨rfl, rfl, hxw, m, w, h', acts, _, rfl, by omega, hwh.to hs (by simp), hpl', hdy, fun M2 hs2 hd2 => ?_⟩
          refine hJ (500 - (m + 1)) (by omega) 41 (by simp) _ _ _ (Or.inr ⟨rfl, m + 1, rfl, by omega, by omega, by rw [nI_1], rfl, hs.tr (hs2.up (by simp)), ?_, ?_⟩)
          · intro e he
            rw [hs2.2.2 11 (by simp)]
            exact hhg e he
          · obtain ⟨m', rfl⟩ : ∃ m', m = m' + 1 := ⟨m - 1, by omega⟩
            exact hd2
    · intro J hJ
      simp only [zb_X7_takeUp_0, zT_push, zT_bin, zT_div, zT_bil, zT_shl, zT_un, zT_i2l, zT_l2i, zT_lcmp, zT_ild, zT_lld, zT_ald, zT_ist, zT_lst, zT_ast, zT_iinc, zT_dup, zT_dup2, zT_pop, zT_if1, zT_if2, zT_ifn, zT_getI, zT_getJ, zT_getR, zT_putI, zT_putZ, zT_putJ, zT_putR, zT_ald0, zT_lald, zT_aald, zT_iast, zT_zast, zT_bast, zT_last, zT_aast, zT_iret, zT_nret, zT_aret, zT_vret, zT_oi, zT_mm, zT_ialX, zT_S1, zT_S2, zT_S3, zT_V0, zT_V1, zT_V2, zT_V3, zT_V4, zT_V5, zT_V6, zT_I0, zT_I1, zT_I2, zlg, zlset, zlpr, zent, zok, va_rf, List.length_cons, List.length_nil, List.replicate, List.cons_append, List.nil_append, List.append_nil, Option.toList_some, Option.toList_none, Option.toList, Nat.reduceAdd, Nat.reduceSub, Nat.reduceLeDiff, Nat.zero_add, Nat.zero_le, true_and, and_true, Nat.le_refl, ge_iff_le, Nat.reduceEqDiff]
      exact hJ 1000 2 (by simp) _ _ _ (Or.inl ⟨rfl, 0, rfl, by omega, rfl, rfl, zsm.rf, fun e he => absurd he (Nat.not_lt_zero _)⟩)
  · exact h.elim
def zc_X6_init (a : List Value) (M : zMm) (K : zKt) : Prop := match a with
  | [.ref yk] => (∃ r : Nat, r < 36 ∧ yk = 100 + 2 * r) ∧ yk + 1 ∉ M.1 ∧ ∀ M', M' = zwI (zwR (znw M (yk + 1)) yk 0 (some (yk + 1))) yk 1 (-1) → K none M'
  | _ => False
theorem zm_X6_init (l : Launch) (D : va_G) (Y : Nat → ClassId) : zMt l D Y yX6_init cX6_init 1 none 1 20 1 465 zc_X6_init := by
  refine zflat (by decide) (fun K J lc lz => zb_X6_init_0 K J lc lz) (fun X hR => zbs_X6_init_0 hR zJ0 zJ0_ok) (fun avs M K h => ?_)
  unfold zc_X6_init at h
  split at h
  · next yk =>
    obtain ⟨hyk, hnl, h⟩ := h
    obtain ⟨y0, y1⟩ := zyk_sh hyk
    obtain ⟨r, hr, rfl⟩ := hyk
    refine ⟨by simp [zent], ?_⟩
    simp only [zb_X6_init_0, zT_newa, zT_push, zT_bin, zT_div, zT_bil, zT_shl, zT_un, zT_i2l, zT_l2i, zT_lcmp, zT_ild, zT_lld, zT_ald, zT_ist, zT_lst, zT_ast, zT_iinc, zT_dup, zT_dup2, zT_pop, zT_if1, zT_if2, zT_ifn, zT_getI, zT_getJ, zT_getR, zT_putI, zT_putZ, zT_putJ, zT_putR, zT_ald0, zT_lald, zT_aald, zT_iast, zT_zast, zT_bast, zT_last, zT_aast, zT_iret, zT_nret, zT_aret, zT_vret, zT_oi, zT_mm, zT_ialX, zT_S1, zT_S2, zT_S3, zT_V0, zT_V1, zT_V2, zT_V3, zT_V4, zT_V5, zT_V6, zT_I0, zT_I1, zT_I2, zlg, zlset, zlpr, zent, zok, va_rf, List.length_cons, List.length_nil, List.replicate, List.cons_append, List.nil_append, List.append_nil, Option.toList_some, Option.toList_none, Option.toList, Nat.reduceAdd, Nat.reduceSub, Nat.reduceLeDiff, Nat.zero_add, Nat.zero_le, true_and, and_true, Nat.le_refl, ge_iff_le, Nat.reduceEqDiff]
    have h465 : (465 : Int32).toNatClampNeg = 465 := by decide
    refine ⟨100 + 2 * r + 1, hnl, y1, by decide, by decide, ?_, y0, ?_, y0, h _ rfl⟩
    · rw [h465]
      exact Nat.le_refl _
    · exact (by omega : (100 + 2 * r + 1 : Nat) < 2000)
  · exact h.elim
