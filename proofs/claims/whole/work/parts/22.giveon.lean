/-! DeltaRuns$Water giveOn -/
theorem zd_X5_giveOn_0 : decode cX5_giveOn 0 = .ok (.aload_n 0, 1) := by decide +kernel
theorem zd_X5_giveOn_1 : decode cX5_giveOn 1 = .ok (.aload_n 1, 1) := by decide +kernel
theorem zd_X5_giveOn_2 : decode cX5_giveOn 2 = .ok (.iload_n 2, 1) := by decide +kernel
theorem zd_X5_giveOn_3 : decode cX5_giveOn 3 = .ok (.invokevirtual 72, 3) := by decide +kernel
theorem zd_X5_giveOn_6 : decode cX5_giveOn 6 = .ok (.aload_n 0, 1) := by decide +kernel
theorem zd_X5_giveOn_7 : decode cX5_giveOn 7 = .ok (.getfield 22, 3) := by decide +kernel
theorem zd_X5_giveOn_10 : decode cX5_giveOn 10 = .ok (.iload_n 2, 1) := by decide +kernel
theorem zd_X5_giveOn_11 : decode cX5_giveOn 11 = .ok (.aload_n 0, 1) := by decide +kernel
theorem zd_X5_giveOn_12 : decode cX5_giveOn 12 = .ok (.getfield 76, 3) := by decide +kernel
theorem zd_X5_giveOn_15 : decode cX5_giveOn 15 = .ok (.ifCond .ne 7, 3) := by decide +kernel
theorem zd_X5_giveOn_18 : decode cX5_giveOn 18 = .ok (.iconst 1, 1) := by decide +kernel
theorem zd_X5_giveOn_19 : decode cX5_giveOn 19 = .ok (.goto 4, 3) := by decide +kernel
theorem zd_X5_giveOn_22 : decode cX5_giveOn 22 = .ok (.iconst 0, 1) := by decide +kernel
theorem zd_X5_giveOn_23 : decode cX5_giveOn 23 = .ok (.bastore, 1) := by decide +kernel
theorem zd_X5_giveOn_24 : decode cX5_giveOn 24 = .ok (.iload_n 3, 1) := by decide +kernel
theorem zd_X5_giveOn_25 : decode cX5_giveOn 25 = .ok (.ifCond .ne 16, 3) := by decide +kernel
theorem zd_X5_giveOn_28 : decode cX5_giveOn 28 = .ok (.aload_n 0, 1) := by decide +kernel
theorem zd_X5_giveOn_29 : decode cX5_giveOn 29 = .ok (.aload_n 0, 1) := by decide +kernel
theorem zd_X5_giveOn_30 : decode cX5_giveOn 30 = .ok (.getfield 19, 3) := by decide +kernel
theorem zd_X5_giveOn_33 : decode cX5_giveOn 33 = .ok (.iload_n 2, 1) := by decide +kernel
theorem zd_X5_giveOn_34 : decode cX5_giveOn 34 = .ok (.iaload, 1) := by decide +kernel
theorem zd_X5_giveOn_35 : decode cX5_giveOn 35 = .ok (.invokevirtual 79, 3) := by decide +kernel
theorem zd_X5_giveOn_38 : decode cX5_giveOn 38 = .ok (.goto 31, 3) := by decide +kernel
theorem zd_X5_giveOn_41 : decode cX5_giveOn 41 = .ok (.iload_n 3, 1) := by decide +kernel
theorem zd_X5_giveOn_42 : decode cX5_giveOn 42 = .ok (.iconst 1, 1) := by decide +kernel
theorem zd_X5_giveOn_43 : decode cX5_giveOn 43 = .ok (.if_icmp .ne 16, 3) := by decide +kernel
theorem zd_X5_giveOn_46 : decode cX5_giveOn 46 = .ok (.aload_n 0, 1) := by decide +kernel
theorem zd_X5_giveOn_47 : decode cX5_giveOn 47 = .ok (.aload_n 0, 1) := by decide +kernel
theorem zd_X5_giveOn_48 : decode cX5_giveOn 48 = .ok (.getfield 19, 3) := by decide +kernel
theorem zd_X5_giveOn_51 : decode cX5_giveOn 51 = .ok (.iload_n 2, 1) := by decide +kernel
theorem zd_X5_giveOn_52 : decode cX5_giveOn 52 = .ok (.iaload, 1) := by decide +kernel
theorem zd_X5_giveOn_53 : decode cX5_giveOn 53 = .ok (.invokevirtual 83, 3) := by decide +kernel
theorem zd_X5_giveOn_56 : decode cX5_giveOn 56 = .ok (.goto 13, 3) := by decide +kernel
theorem zd_X5_giveOn_59 : decode cX5_giveOn 59 = .ok (.aload_n 0, 1) := by decide +kernel
theorem zd_X5_giveOn_60 : decode cX5_giveOn 60 = .ok (.aload_n 0, 1) := by decide +kernel
theorem zd_X5_giveOn_61 : decode cX5_giveOn 61 = .ok (.getfield 19, 3) := by decide +kernel
theorem zd_X5_giveOn_64 : decode cX5_giveOn 64 = .ok (.iload_n 2, 1) := by decide +kernel
theorem zd_X5_giveOn_65 : decode cX5_giveOn 65 = .ok (.iaload, 1) := by decide +kernel
theorem zd_X5_giveOn_66 : decode cX5_giveOn 66 = .ok (.invokevirtual 86, 3) := by decide +kernel
theorem zd_X5_giveOn_69 : decode cX5_giveOn 69 = .ok (.iconst 0, 1) := by decide +kernel
theorem zd_X5_giveOn_70 : decode cX5_giveOn 70 = .ok (.istore 4, 2) := by decide +kernel
theorem zd_X5_giveOn_72 : decode cX5_giveOn 72 = .ok (.iload 4, 2) := by decide +kernel
theorem zd_X5_giveOn_74 : decode cX5_giveOn 74 = .ok (.aload_n 0, 1) := by decide +kernel
theorem zd_X5_giveOn_75 : decode cX5_giveOn 75 = .ok (.getfield 76, 3) := by decide +kernel
theorem zd_X5_giveOn_78 : decode cX5_giveOn 78 = .ok (.if_icmp .ge 27, 3) := by decide +kernel
theorem zd_X5_giveOn_81 : decode cX5_giveOn 81 = .ok (.aload_n 0, 1) := by decide +kernel
theorem zd_X5_giveOn_82 : decode cX5_giveOn 82 = .ok (.aload_n 0, 1) := by decide +kernel
theorem zd_X5_giveOn_83 : decode cX5_giveOn 83 = .ok (.getfield 28, 3) := by decide +kernel
theorem zd_X5_giveOn_86 : decode cX5_giveOn 86 = .ok (.iload 4, 2) := by decide +kernel
theorem zd_X5_giveOn_88 : decode cX5_giveOn 88 = .ok (.iaload, 1) := by decide +kernel
theorem zd_X5_giveOn_89 : decode cX5_giveOn 89 = .ok (.aload_n 0, 1) := by decide +kernel
theorem zd_X5_giveOn_90 : decode cX5_giveOn 90 = .ok (.getfield 34, 3) := by decide +kernel
theorem zd_X5_giveOn_93 : decode cX5_giveOn 93 = .ok (.iload 4, 2) := by decide +kernel
theorem zd_X5_giveOn_95 : decode cX5_giveOn 95 = .ok (.iaload, 1) := by decide +kernel
theorem zd_X5_giveOn_96 : decode cX5_giveOn 96 = .ok (.invokevirtual 52, 3) := by decide +kernel
theorem zd_X5_giveOn_99 : decode cX5_giveOn 99 = .ok (.iinc 4 1, 3) := by decide +kernel
theorem zd_X5_giveOn_102 : decode cX5_giveOn 102 = .ok (.goto (-30), 3) := by decide +kernel
theorem zd_X5_giveOn_105 : decode cX5_giveOn 105 = .ok (.return_, 1) := by decide +kernel
def zb_X5_giveOn_69 (K : zKt) (J : Nat → zPP) : zPP := zT_push (.int 0) (zT_ist 4 (J 72))
theorem zbs_X5_giveOn_69 {X : zCt} (hR : zRX X = { frames := 2, cells := 0, slots := 0, locals := 48 }) (J : Nat → zPP) (hJ : ∀ h ∈ ([72] : List Nat), zSd X RX5 "giveOn" cX5_giveOn 5 none h (J h)) : zSd X RX5 "giveOn" cX5_giveOn 5 none 69 (zb_X5_giveOn_69 (zKX X) J) := zs_iconst zd_X5_giveOn_69 (by decide) (zs_istore zd_X5_giveOn_70 (by decide) (hJ 72 (by decide)))
def zb_X5_giveOn_23 (K : zKt) (J : Nat → zPP) : zPP := zT_zast (zT_ild 3 (zT_if1 (fun x => x = 0) (zT_ald 0 (zT_ald 0 (zT_getR 5 2 11 (zT_ild 2 (zT_ald0 0 (zT_V1 zok 5 11 zc_X5_shareToLowest (zb_X5_giveOn_69 K J))))))) (zT_ild 3 (zT_push (.int 1) (zT_if2 (fun x y => x = y) (zT_ald 0 (zT_ald 0 (zT_getR 5 2 11 (zT_ild 2 (zT_ald0 0 (zT_V1 zok 5 11 zc_X5_shareEvenly (zb_X5_giveOn_69 K J))))))) (zT_ald 0 (zT_ald 0 (zT_getR 5 2 11 (zT_ild 2 (zT_ald0 0 (zT_V1 zok 5 11 zc_X5_shareByDrops (zb_X5_giveOn_69 K J))))))))))))
theorem zbs_X5_giveOn_23 {X : zCt} (hR : zRX X = { frames := 2, cells := 0, slots := 0, locals := 48 }) (J : Nat → zPP) (hJ : ∀ h ∈ ([72] : List Nat), zSd X RX5 "giveOn" cX5_giveOn 5 none h (J h)) : zSd X RX5 "giveOn" cX5_giveOn 5 none 23 (zb_X5_giveOn_23 (zKX X) J) := zs_zast zd_X5_giveOn_23 (zs_iload_n zd_X5_giveOn_24 rfl (zs_if_ne (tgt := 41) zd_X5_giveOn_25 (by decide) (zs_iload_n zd_X5_giveOn_41 rfl (zs_iconst zd_X5_giveOn_42 (by decide) (zs_icmp_ne (tgt := 59) zd_X5_giveOn_43 (by decide) (zs_aload_n zd_X5_giveOn_59 rfl (zs_aload_n zd_X5_giveOn_60 rfl (zs_getR (ci := 5) (j := 2) (T := TX5) rfl inX5 (by decide) gw_1_117 rfl zd_X5_giveOn_61 (zs_iload_n zd_X5_giveOn_64 rfl (zs_iald zd_X5_giveOn_65 (zs_V (ci := 5) rfl rfl (zm_X5_shareByDrops _ _ _) gw_3_14 gw_3_11 gw_3_13 gw_0_20 gw_1_5 zdn_X5_shareByDrops (zrm hR (by decide) (by decide)) zd_X5_giveOn_66 (zCl_V1 zok_l) (zbs_X5_giveOn_69 hR J hJ))))))) (zs_aload_n zd_X5_giveOn_46 rfl (zs_aload_n zd_X5_giveOn_47 rfl (zs_getR (ci := 5) (j := 2) (T := TX5) rfl inX5 (by decide) gw_1_117 rfl zd_X5_giveOn_48 (zs_iload_n zd_X5_giveOn_51 rfl (zs_iald zd_X5_giveOn_52 (zs_V (ci := 5) rfl rfl (zm_X5_shareEvenly _ _ _) gw_3_10 gw_3_7 gw_3_9 gw_0_19 gw_1_5 zdn_X5_shareEvenly (zrm hR (by decide) (by decide)) zd_X5_giveOn_53 (zCl_V1 zok_l) (zs_goto (tgt := 69) zd_X5_giveOn_56 (by decide) (zbs_X5_giveOn_69 hR J hJ))))))))))) (zs_aload_n zd_X5_giveOn_28 rfl (zs_aload_n zd_X5_giveOn_29 rfl (zs_getR (ci := 5) (j := 2) (T := TX5) rfl inX5 (by decide) gw_1_117 rfl zd_X5_giveOn_30 (zs_iload_n zd_X5_giveOn_33 rfl (zs_iald zd_X5_giveOn_34 (zs_V (ci := 5) rfl rfl (zm_X5_shareToLowest _ _ _) gw_3_2 gw_2_239 gw_3_1 gw_0_17 gw_1_5 zdn_X5_shareToLowest (zrm hR (by decide) (by decide)) zd_X5_giveOn_35 (zCl_V1 zok_l) (zs_goto (tgt := 69) zd_X5_giveOn_38 (by decide) (zbs_X5_giveOn_69 hR J hJ))))))))))
def zb_X5_giveOn_0 (K : zKt) (J : Nat → zPP) : zPP := zT_ald 0 (zT_ald 1 (zT_ild 2 (zT_V2 zok 5 11 zc_X5_findWays (zT_ald 0 (zT_getR 5 3 11 (zT_ild 2 (zT_ald 0 (zT_getI 5 10 11 (zT_if1 (fun x => x = 0) (zT_push (.int 1) (zb_X5_giveOn_23 K J)) (zT_push (.int 0) (zb_X5_giveOn_23 K J)))))))))))
theorem zbs_X5_giveOn_0 {X : zCt} (hR : zRX X = { frames := 2, cells := 0, slots := 0, locals := 48 }) (J : Nat → zPP) (hJ : ∀ h ∈ ([72] : List Nat), zSd X RX5 "giveOn" cX5_giveOn 5 none h (J h)) : zSd X RX5 "giveOn" cX5_giveOn 5 none 0 (zb_X5_giveOn_0 (zKX X) J) := zs_aload_n zd_X5_giveOn_0 rfl (zs_aload_n zd_X5_giveOn_1 rfl (zs_iload_n zd_X5_giveOn_2 rfl (zs_V (ci := 5) rfl rfl (zm_X5_findWays _ _ _) gw_2_232 gw_2_229 gw_2_231 gw_0_16 gw_1_5 zdn_X5_findWays (zrm hR (by decide) (by decide)) zd_X5_giveOn_3 (zCl_V2 zok_l) (zs_aload_n zd_X5_giveOn_6 rfl (zs_getR (ci := 5) (j := 3) (T := TX5) rfl inX5 (by decide) gw_1_119 rfl zd_X5_giveOn_7 (zs_iload_n zd_X5_giveOn_10 rfl (zs_aload_n zd_X5_giveOn_11 rfl (zs_getI (ci := 5) (j := 10) (T := TX5) rfl inX5 (by decide) gw_1_126 rfl zd_X5_giveOn_12 (zs_if_ne (tgt := 22) zd_X5_giveOn_15 (by decide) (zs_iconst zd_X5_giveOn_22 (by decide) (zbs_X5_giveOn_23 hR J hJ)) (zs_iconst zd_X5_giveOn_18 (by decide) (zs_goto (tgt := 23) zd_X5_giveOn_19 (by decide) (zbs_X5_giveOn_23 hR J hJ))))))))))))
def zb_X5_giveOn_72 (K : zKt) (J : Nat → zPP) : zPP := zT_ild 4 (zT_ald 0 (zT_getI 5 10 11 (zT_if2 (fun x y => y ≤ x) (zT_vret K) (zT_ald 0 (zT_ald 0 (zT_getR 5 6 11 (zT_ild 4 (zT_ald0 0 (zT_ald 0 (zT_getR 5 8 11 (zT_ild 4 (zT_ald0 0 (zT_V2 zok 5 11 zc_X5_pour (zT_iinc 4 1 (J 72)))))))))))))))
theorem zbs_X5_giveOn_72 {X : zCt} (hR : zRX X = { frames := 2, cells := 0, slots := 0, locals := 48 }) (J : Nat → zPP) (hJ : ∀ h ∈ ([72] : List Nat), zSd X RX5 "giveOn" cX5_giveOn 5 none h (J h)) : zSd X RX5 "giveOn" cX5_giveOn 5 none 72 (zb_X5_giveOn_72 (zKX X) J) := zs_iload zd_X5_giveOn_72 (zs_aload_n zd_X5_giveOn_74 rfl (zs_getI (ci := 5) (j := 10) (T := TX5) rfl inX5 (by decide) gw_1_126 rfl zd_X5_giveOn_75 (zs_icmp_ge (tgt := 105) zd_X5_giveOn_78 (by decide) (zs_vret rfl zd_X5_giveOn_105) (zs_aload_n zd_X5_giveOn_81 rfl (zs_aload_n zd_X5_giveOn_82 rfl (zs_getR (ci := 5) (j := 6) (T := TX5) rfl inX5 (by decide) gw_1_122 rfl zd_X5_giveOn_83 (zs_iload zd_X5_giveOn_86 (zs_iald zd_X5_giveOn_88 (zs_aload_n zd_X5_giveOn_89 rfl (zs_getR (ci := 5) (j := 8) (T := TX5) rfl inX5 (by decide) gw_1_124 rfl zd_X5_giveOn_90 (zs_iload zd_X5_giveOn_93 (zs_iald zd_X5_giveOn_95 (zs_V (ci := 5) rfl rfl (zm_X5_pour _ _ _) gw_2_220 gw_2_217 gw_2_219 gw_0_13 gw_1_5 zdn_X5_pour (zrm hR (by decide) (by decide)) zd_X5_giveOn_96 (zCl_V2 zok_l) (zs_iinc zd_X5_giveOn_99 (by decide) (by decide) (zs_goto (tgt := 72) zd_X5_giveOn_102 (by decide) (hJ 72 (by decide)))))))))))))))))
def zB_X5_giveOn (K : zKt) (J : Nat → zPP) (h : Nat) : zPP := if h = 72 then zb_X5_giveOn_72 K J else (fun _ _ _ => False)
theorem zBs_X5_giveOn {X : zCt} (hR : zRX X = { frames := 2, cells := 0, slots := 0, locals := 48 }) : ∀ J : Nat → zPP, (∀ h ∈ ([72] : List Nat), zSd X RX5 "giveOn" cX5_giveOn 5 none h (J h)) → ∀ h ∈ ([72] : List Nat), zSd X RX5 "giveOn" cX5_giveOn 5 none h (zB_X5_giveOn (zKX X) J h) := by
  intro J hJ h hh
  unfold zB_X5_giveOn
  simp only [List.mem_cons, List.not_mem_nil, or_false] at hh
  subst hh
  exact zbs_X5_giveOn_72 hR J hJ
theorem zdn_X5_giveOn : yX5_giveOn.cls ≠ "java/lang/invoke/MethodHandle" ∧ yX5_giveOn.cls ≠ "java/lang/invoke/VarHandle" ∧ (parseMethodDescriptor yX5_giveOn.desc).map (fun d => d.parameters.length) = some 3 := by decide +kernel
/-! WATER: giveOn -/
def wnx (w h c d : Nat) : Nat := (wnb w h c d).getD 0
def wgs (f11 : Nat → Int32) (w h : Nat) (H : Nat → Nat) (D : Nat → Bool) (sort c : Nat) (ds : List Nat) (S : wST) (f : Nat) : wST := wgo f11 (wnx w h c) (wgv sort f (wdr w h H D c)) ds S
theorem wdr_le {w h : Nat} {H : Nat → Nat} {D : Nat → Bool} {c d : Nat} (hc : H c ≤ 200) : wdr w h H D c d ≤ 200 := by
  unfold wdr
  split
  · split <;> omega
  · omega
theorem wgo_snoc {f11 : Nat → Int32} {nb gv : Nat → Nat} {ds : List Nat} {d : Nat} {S : wST} : wgo f11 nb gv (ds ++ [d]) S = wpr f11 (nb d) (gv d) (wgo f11 nb gv ds S) := by
  unfold wgo
  rw [List.foldl_append]
  rfl
def zc_X5_giveOn (a : List Value) (M : zMm) (K : zKt) : Prop := match a with
  | [.ref k, .ref k', .int x, .int y] => k = 10 ∧ k' = 1 ∧ zxw M ∧ ∃ w h H D c sort S, zld M w h H D ∧ x = nI c ∧ c < 120 ∧ wil w h c ∧ y = nI sort ∧ sort < 3 ∧ zwt M S.1 S.2 ∧ wwf S ∧ (∀ e, S.1 e ≤ 4000) ∧ S.1 c ≤ 1000 ∧ ∀ M', zsm [10, 13, 14, 15, 16, 17, 18, 19] M M' → M'.2.1 14 = va_up (M.2.1 14) c (if wct (wpo (wdr w h H D c)) 4 = 0 then 1 else 0) →
      zwt M' (wgs (M.2.1 11) w h H D sort c (wds (wdr w h H D c) 4) S (S.1 c)).1 (wgs (M.2.1 11) w h H D sort c (wds (wdr w h H D c) 4) S (S.1 c)).2 → K none M'
  | _ => False
set_option maxHeartbeats 2000000 in
theorem zm_X5_giveOn (l : Launch) (D : va_G) (Y : Nat → ClassId) : zMt l D Y yX5_giveOn cX5_giveOn 5 none 2 48 0 0 zc_X5_giveOn := by
  refine zwhile1 (h0 := 72) (by decide) (fun K J _ _ => zb_X5_giveOn_0 K J) (fun K _ _ J => zb_X5_giveOn_72 K J) (fun X hR J hJ => zbs_X5_giveOn_0 hR J hJ) (fun X hR J hJ => zbs_X5_giveOn_72 hR J hJ) (fun avs M K h => ?_)
  unfold zc_X5_giveOn at h
  split at h
  · next k k' x y =>
    obtain ⟨rfl, rfl, hx, w, h', H, D, c, sort, S, hld, rfl, hc, hil, rfl, hso, hwt, hwf, hbd, hAc, h⟩ := h
    have hH : H c ≤ 200 := (hld.2.2.2.2.1 c hc).2
    have hr200 : ∀ d, wdr w h' H D c d ≤ 200 := fun d => wdr_le hH
    have hwf' : ∀ ds, (∀ d ∈ ds, d < 4 ∧ wpo (wdr w h' H D c) d = true) → wwf (wgs (M.2.1 11) w h' H D sort c ds S (S.1 c)) := by
      intro ds hds
      refine wgo_wf hwf (fun d hd => ?_)
      obtain ⟨h1, h2⟩ := hds d hd
      have ws := wside hld.2.2.1 hld.2.2.2.1 hil h1
      have hp := wpo_t.mp h2
      unfold wdr at hp
      unfold wnx
      cases hnb : wnb w h' c d with
      | none => rw [hnb] at hp; exact absurd hp (Nat.lt_irrefl _)
      | some e => rw [hnb] at ws; exact ws.2.2.1
    generalize hr : wdr w h' H D c = r at h hr200 hwf'
    have hnl : wct (wpo r) 4 ≤ 4 := wct_le _ 4
    have hlen := wds_len r 4
    refine ⟨by simp [zent], fun q M' ls st => ∃ i, q = 4 - i ∧ i ≤ wct (wpo r) 4 ∧ ls = [some (.ref 10), some (.ref 1), some (.int (nI c)), some (.int (nI sort)), some (.int (nI i))] ∧ st = [] ∧ zsm [10, 13, 14, 15, 16, 17, 18, 19] M M' ∧ M'.2.1 14 = va_up (M.2.1 14) c (if wct (wpo r) 4 = 0 then 1 else 0) ∧
      zwt M' (wgs (M.2.1 11) w h' H D sort c ((wds r 4).take i) S (S.1 c)).1 (wgs (M.2.1 11) w h' H D sort c ((wds r 4).take i) S (S.1 c)).2 ∧ M'.2.1 10 10 = nI (wct (wpo r) 4) ∧ (∀ i d, (wds r 4)[i]? = some d → M'.2.1 16 i = nI (wnx w h' c d) ∧ wnx w h' c d < 120 ∧ M'.2.1 18 i = nI (wgv sort (S.1 c) r d)), ?_, ?_⟩
    · rintro q J hJ M' ls st ⟨i, rfl, hi, rfl, rfl, hs, h14, hw, hn, hws⟩
      obtain ⟨x0, x1, x2, x3, x4, x5, x6, x7, x8⟩ := hx.to hs
      simp only [zb_X5_giveOn_72, zsh_10, zsh_16, zsh_18, x5, x7, hn, zT_push, zT_bin, zT_div, zT_bil, zT_shl, zT_un, zT_i2l, zT_l2i, zT_lcmp, zT_ild, zT_lld, zT_ald, zT_ist, zT_lst, zT_ast, zT_iinc, zT_dup, zT_dup2, zT_pop, zT_if1, zT_if2, zT_ifn, zT_getI, zT_getJ, zT_getR, zT_putI, zT_putZ, zT_putJ, zT_putR, zT_ald0, zT_lald, zT_aald, zT_iast, zT_zast, zT_bast, zT_last, zT_aast, zT_iret, zT_nret, zT_aret, zT_vret, zT_oi, zT_mm, zT_ialX, zT_S1, zT_S2, zT_S3, zT_V0, zT_V1, zT_V2, zT_V3, zT_V4, zT_V5, zT_V6, zT_I0, zT_I1, zT_I2, zlg, zlset, zlpr, zent, zok, va_rf, List.length_cons, List.length_nil, List.replicate, List.cons_append, List.nil_append, List.append_nil, Option.toList_some, Option.toList_none, Option.toList, Nat.reduceAdd, Nat.reduceSub, Nat.reduceLeDiff, Nat.zero_add, Nat.zero_le, true_and, and_true, Nat.le_refl, ge_iff_le, Nat.reduceEqDiff]
      refine ⟨fun h1 => ?_, fun h1 => ?_⟩
      · have := zn_ge' h1 (by omega) (by omega)
        have e : i = (wds r 4).length := by omega
        subst e
        rw [List.take_length] at hw
        exact h M' hs h14 hw
      · have hlt := zn_ge h1 (by omega) (by omega)
        have hg := wat_get (L := wds r 4) (i := i) (by omega)
        obtain ⟨w1, w2, w3⟩ := hws i _ hg
        obtain ⟨d1, d2, d3⟩ := wds_get r 4 i _ hg
        have htk : (wds r 4).take (i + 1) = (wds r 4).take i ++ [wat (wds r 4) i] := by rw [List.take_succ, hg]; rfl
        generalize wat (wds r 4) i = d at hg w1 w2 w3 d1 d2 d3 htk
        have hwfi := hwf' ((wds r 4).take i) (fun d' hd' => by
          obtain ⟨j, hj⟩ := List.getElem?_of_mem (List.mem_of_mem_take hd')
          exact ⟨(wds_get r 4 j d' hj).1, (wds_get r 4 j d' hj).2.1⟩)
        have hgl : ∀ d', d' < 4 → wgv sort (S.1 c) r d' ≤ 1001 := fun d' hd' => by
          have := wgv_le (sort := sort) (f := S.1 c) (r := r) hd'
          omega
        have hbi : ∀ e, (wgs (M.2.1 11) w h' H D sort c ((wds r 4).take i) S (S.1 c)).1 e ≤ 8004 := by
          intro e
          have h2 := wgo_bd (f11 := M.2.1 11) (nb := wnx w h' c) (gv := wgv sort (S.1 c) (wdr w h' H D c)) (B := 1001) (ds := (wds r 4).take i) (S := S) (fun d' hd' => by
            obtain ⟨j, hj⟩ := List.getElem?_of_mem (List.mem_of_mem_take hd')
            rw [hr]
            exact hgl d' (wds_get r 4 j d' hj).1) e
          have h3 := hbd e
          have h4 : ((wds r 4).take i).length ≤ 4 := by rw [List.length_take]; omega
          have h5 := Nat.mul_le_mul_right 1001 h4
          unfold wgs
          omega
        rw [nI_clamp (by omega), w1, w3]
        refine ⟨vp_in_nI (by omega) (by decide), vp_in_nI (by omega) (by decide), ?_⟩
        unfold zc_X5_pour
        dsimp only
        refine ⟨rfl, hx.to hs, wnx w h' c d, wgv sort (S.1 c) r d, _, _, rfl, rfl, w2, by have := hgl d d1; omega, by have := hbi (wnx w h' c d); omega, hw, fun _ h0 => wwf_room hwfi w2 h0, fun M2 hs2 h102 hw2 => ?_⟩
        try simp only [zT_push, zT_bin, zT_div, zT_bil, zT_shl, zT_un, zT_i2l, zT_l2i, zT_lcmp, zT_ild, zT_lld, zT_ald, zT_ist, zT_lst, zT_ast, zT_iinc, zT_dup, zT_dup2, zT_pop, zT_if1, zT_if2, zT_ifn, zT_getI, zT_getJ, zT_getR, zT_putI, zT_putZ, zT_putJ, zT_putR, zT_ald0, zT_lald, zT_aald, zT_iast, zT_zast, zT_bast, zT_last, zT_aast, zT_iret, zT_nret, zT_aret, zT_vret, zT_oi, zT_mm, zT_ialX, zT_S1, zT_S2, zT_S3, zT_V0, zT_V1, zT_V2, zT_V3, zT_V4, zT_V5, zT_V6, zT_I0, zT_I1, zT_I2, zlg, zlset, zlpr, zent, zok, va_rf, List.length_cons, List.length_nil, List.replicate, List.cons_append, List.nil_append, List.append_nil, Option.toList_some, Option.toList_none, Option.toList, Nat.reduceAdd, Nat.reduceSub, Nat.reduceLeDiff, Nat.zero_add, Nat.zero_le, true_and, and_true, Nat.le_refl, ge_iff_le, Nat.reduceEqDiff]
        refine hJ (4 - (i + 1)) _ _ _ (by omega) ⟨i + 1, rfl, hlt, by rw [nI_1], rfl, hs.tr (hs2.up (by simp)), ?_, ?_, ?_, fun j e hj => ?_⟩
        · rw [hs2.2.2 14 (by simp)]; exact h14
        · rw [htk]
          unfold wgs
          rw [wgo_snoc]
          have h11 : M'.2.1 11 = M.2.1 11 := hs.2.2 11 (by simp)
          rw [h11] at hw2
          unfold wgs at hw2
          rw [hr] at hw2 ⊢
          exact hw2
        · rw [h102 10 (by decide)]; exact hn
        · rw [hs2.2.2 16 (by simp), hs2.2.2 18 (by simp)]
          exact hws j e hj
    · intro J hJ
      simp only [zb_X5_giveOn_0, zsh_10, zT_push, zT_bin, zT_div, zT_bil, zT_shl, zT_un, zT_i2l, zT_l2i, zT_lcmp, zT_ild, zT_lld, zT_ald, zT_ist, zT_lst, zT_ast, zT_iinc, zT_dup, zT_dup2, zT_pop, zT_if1, zT_if2, zT_ifn, zT_getI, zT_getJ, zT_getR, zT_putI, zT_putZ, zT_putJ, zT_putR, zT_ald0, zT_lald, zT_aald, zT_iast, zT_zast, zT_bast, zT_last, zT_aast, zT_iret, zT_nret, zT_aret, zT_vret, zT_oi, zT_mm, zT_ialX, zT_S1, zT_S2, zT_S3, zT_V0, zT_V1, zT_V2, zT_V3, zT_V4, zT_V5, zT_V6, zT_I0, zT_I1, zT_I2, zlg, zlset, zlpr, zent, zok, va_rf, List.length_cons, List.length_nil, List.replicate, List.cons_append, List.nil_append, List.append_nil, Option.toList_some, Option.toList_none, Option.toList, Nat.reduceAdd, Nat.reduceSub, Nat.reduceLeDiff, Nat.zero_add, Nat.zero_le, true_and, and_true, Nat.le_refl, ge_iff_le, Nat.reduceEqDiff]
      unfold zc_X5_findWays
      dsimp only
      refine ⟨rfl, rfl, hx, w, h', H, D, c, hld, rfl, hc, hil, fun M1 hs1 h101 hn1 hw1 => ?_⟩
      obtain ⟨x0, x1, x2, x3, x4, x5, x6, x7, x8⟩ := hx.to hs1
      rw [hr] at hn1 hw1
      -- the end of the three roads
      have fin : ∀ M2 o, zsm [10, 13, 14, 15, 16, 17, 18, 19] M M2 → M2.2.1 14 = va_up (M.2.1 14) c (if wct (wpo r) 4 = 0 then 1 else 0) → zwt M2 S.1 S.2 → M2.2.1 10 10 = nI (wct (wpo r) 4) → M2.2.1 16 = M1.2.1 16 → (∀ i d, (wds r 4)[i]? = some d → M2.2.1 18 i = nI (wgv sort (S.1 c) r d)) → zb_X5_giveOn_69 K J M2 [some (.ref 10), some (.ref 1), some (.int (nI c)), some (.int (nI sort)), o] [] := by
        intro M2 o hs2 h14 hw2 hn2 h16 h18
        simp only [zb_X5_giveOn_69, zT_push, zT_bin, zT_div, zT_bil, zT_shl, zT_un, zT_i2l, zT_l2i, zT_lcmp, zT_ild, zT_lld, zT_ald, zT_ist, zT_lst, zT_ast, zT_iinc, zT_dup, zT_dup2, zT_pop, zT_if1, zT_if2, zT_ifn, zT_getI, zT_getJ, zT_getR, zT_putI, zT_putZ, zT_putJ, zT_putR, zT_ald0, zT_lald, zT_aald, zT_iast, zT_zast, zT_bast, zT_last, zT_aast, zT_iret, zT_nret, zT_aret, zT_vret, zT_oi, zT_mm, zT_ialX, zT_S1, zT_S2, zT_S3, zT_V0, zT_V1, zT_V2, zT_V3, zT_V4, zT_V5, zT_V6, zT_I0, zT_I1, zT_I2, zlg, zlset, zlpr, zent, zok, va_rf, List.length_cons, List.length_nil, List.replicate, List.cons_append, List.nil_append, List.append_nil, Option.toList_some, Option.toList_none, Option.toList, Nat.reduceAdd, Nat.reduceSub, Nat.reduceLeDiff, Nat.zero_add, Nat.zero_le, true_and, and_true, Nat.le_refl, ge_iff_le, Nat.reduceEqDiff]
        refine hJ 4 _ _ _ ⟨0, rfl, Nat.zero_le _, rfl, rfl, hs2, h14, ?_, hn2, fun i d hi => ⟨?_, ?_, h18 i d hi⟩⟩
        · rw [List.take_zero]; exact hw2
        · obtain ⟨⟨e, he, h3⟩, -⟩ := hw1 i d hi
          rw [h16, h3]
          unfold wnx
          rw [he]
          rfl
        · obtain ⟨⟨e, he, -⟩, -⟩ := hw1 i d hi
          have ws := wside hld.2.2.1 hld.2.2.2.1 hil (wds_get r 4 i d hi).1
          rw [he] at ws
          unfold wnx
          rw [he]
          exact ws.2.2.1
      have mid : ∀ v, v = (if wct (wpo r) 4 = 0 then 1 else 0 : Int32) → zb_X5_giveOn_23 K J M1 [some (.ref 10), some (.ref 1), some (.int (nI c)), some (.int (nI sort)), none] [.int v, .int (nI c), .ref 14] := by
        intro v hv
        simp only [zb_X5_giveOn_23, zsh_10, zsh_13, zsh_14, x2, zT_push, zT_bin, zT_div, zT_bil, zT_shl, zT_un, zT_i2l, zT_l2i, zT_lcmp, zT_ild, zT_lld, zT_ald, zT_ist, zT_lst, zT_ast, zT_iinc, zT_dup, zT_dup2, zT_pop, zT_if1, zT_if2, zT_ifn, zT_getI, zT_getJ, zT_getR, zT_putI, zT_putZ, zT_putJ, zT_putR, zT_ald0, zT_lald, zT_aald, zT_iast, zT_zast, zT_bast, zT_last, zT_aast, zT_iret, zT_nret, zT_aret, zT_vret, zT_oi, zT_mm, zT_ialX, zT_S1, zT_S2, zT_S3, zT_V0, zT_V1, zT_V2, zT_V3, zT_V4, zT_V5, zT_V6, zT_I0, zT_I1, zT_I2, zlg, zlset, zlpr, zent, zok, va_rf, List.length_cons, List.length_nil, List.replicate, List.cons_append, List.nil_append, List.append_nil, Option.toList_some, Option.toList_none, Option.toList, Nat.reduceAdd, Nat.reduceSub, Nat.reduceLeDiff, Nat.zero_add, Nat.zero_le, true_and, and_true, Nat.le_refl, ge_iff_le, Nat.reduceEqDiff, zwI_L, zwI_I, zwI_J, zwI_R, zwJ_L, zwJ_I, zwJ_J, zwJ_R, zwR_L, zwR_I, zwR_J, zwR_R, zw2_s, zw2_n, ne_eq, not_false_eq_true, reduceCtorEq, not_true_eq_false, Nat.reduceEqDiff]
        rw [nI_clamp (by omega)]
        have hv01 : v = 0 ∨ v = 1 := by rw [hv]; split <;> simp
        have h13 : M1.2.1 13 = M.2.1 13 := hs1.2.2 13 (by simp)
        have hsm : zsm [10, 13, 14, 15, 16, 17, 18, 19] M (zwI M1 14 c v) := (hs1.up (by simp)).w (by simp)
        have h14 : (zwI M1 14 c v).2.1 14 = va_up (M.2.1 14) c (if wct (wpo r) 4 = 0 then 1 else 0) := by
          simp only [zwI_L, zwI_I, zwI_J, zwI_R, zwJ_L, zwJ_I, zwJ_J, zwJ_R, zwR_L, zwR_I, zwR_J, zwR_R, zw2_s, zw2_n, ne_eq, not_false_eq_true, reduceCtorEq, not_true_eq_false, Nat.reduceEqDiff]
          rw [hs1.2.2 14 (by simp), hv]
        have hx1 : zxw (zwI M1 14 c v) := hx.to hsm
        have hw2 : zwt (zwI M1 14 c v) S.1 S.2 := by
          obtain ⟨a1, a2, a3, a4⟩ := hwt
          refine ⟨fun e he => ?_, fun i x hi => ?_, ?_, a4⟩
          · simp only [zwI_L, zwI_I, zwI_J, zwI_R, zwJ_L, zwJ_I, zwJ_J, zwJ_R, zwR_L, zwR_I, zwR_J, zwR_R, zw2_s, zw2_n, ne_eq, not_false_eq_true, reduceCtorEq, not_true_eq_false, Nat.reduceEqDiff]; rw [h13]; exact a1 e he
          · simp only [zwI_L, zwI_I, zwI_J, zwI_R, zwJ_L, zwJ_I, zwJ_J, zwJ_R, zwR_L, zwR_I, zwR_J, zwR_R, zw2_s, zw2_n, ne_eq, not_false_eq_true, reduceCtorEq, not_true_eq_false, Nat.reduceEqDiff]; rw [hs1.2.2 15 (by simp)]; exact a2 i x hi
          · simp only [zwI_L, zwI_I, zwI_J, zwI_R, zwJ_L, zwJ_I, zwJ_J, zwJ_R, zwR_L, zwR_I, zwR_J, zwR_R, zw2_s, zw2_n, ne_eq, not_false_eq_true, reduceCtorEq, not_true_eq_false, Nat.reduceEqDiff]; rw [h101 5 (by decide)]; exact a3
        have hn2 : (zwI M1 14 c v).2.1 10 10 = nI (wct (wpo r) 4) := by simp only [zwI_L, zwI_I, zwI_J, zwI_R, zwJ_L, zwJ_I, zwJ_J, zwJ_R, zwR_L, zwR_I, zwR_J, zwR_R, zw2_s, zw2_n, ne_eq, not_false_eq_true, reduceCtorEq, not_true_eq_false, Nat.reduceEqDiff]; exact hn1
        have hflow : (zwI M1 14 c v).2.1 13 c = nI (S.1 c) := hw2.1 c hc
        have hw17 : ∀ i d, (wds r 4)[i]? = some d → (zwI M1 14 c v).2.1 17 i = nI (r d) := fun i d hi => by
          simp only [zwI_L, zwI_I, zwI_J, zwI_R, zwJ_L, zwJ_I, zwJ_J, zwJ_R, zwR_L, zwR_I, zwR_J, zwR_R, zw2_s, zw2_n, ne_eq, not_false_eq_true, reduceCtorEq, not_true_eq_false, Nat.reduceEqDiff]; exact (hw1 i d hi).2
        have h16 : (zwI M1 14 c v).2.1 16 = M1.2.1 16 := by simp only [zwI_L, zwI_I, zwI_J, zwI_R, zwJ_L, zwJ_I, zwJ_J, zwJ_R, zwR_L, zwR_I, zwR_J, zwR_R, zw2_s, zw2_n, ne_eq, not_false_eq_true, reduceCtorEq, not_true_eq_false, Nat.reduceEqDiff]
        have hflow' : M1.2.1 13 c = nI (S.1 c) := by rw [h13]; exact hwt.1 c hc
        rw [hflow']
        generalize zwI M1 14 c v = M3 at hsm h14 hx1 hw2 hn2 hflow hw17 h16 ⊢
        have wt18 : ∀ M2, zsm [18, 19] M3 M2 → zwt M2 S.1 S.2 := by
          intro M2 hq
          obtain ⟨a1, a2, a3, a4⟩ := hw2
          exact ⟨by rw [hq.2.2 13 (by simp)]; exact a1, by rw [hq.2.2 15 (by simp)]; exact a2, by rw [hq.2.2 10 (by simp)]; exact a3, a4⟩
        have fin2 : ∀ M2, zsm [18, 19] M3 M2 → (∀ i d, (wds r 4)[i]? = some d → M2.2.1 18 i = nI (wgv sort (S.1 c) r d)) → zb_X5_giveOn_69 K J M2 [some (.ref 10), some (.ref 1), some (.int (nI c)), some (.int (nI sort)), none] [] := fun M2 hq h18 =>
          fin M2 none (hsm.tr (hq.up (by simp))) (by rw [hq.2.2 14 (by simp)]; exact h14) (wt18 M2 hq) (by rw [hq.2.2 10 (by simp)]; exact hn2) (by rw [hq.2.2 16 (by simp)]; exact h16) h18
        refine ⟨vp_in_nI hc (by decide), hv01, fun h1 => ⟨vp_in_nI hc (by decide), ?_⟩, fun h1 => ⟨fun h2 => ⟨vp_in_nI hc (by decide), ?_⟩, fun h2 => ⟨vp_in_nI hc (by decide), ?_⟩⟩⟩
        · have e0 : sort = 0 := (nI_eq (b := 0) (by omega) (by omega)).mp h1
          subst e0
          unfold zc_X5_shareToLowest
          dsimp only
          refine ⟨rfl, hx1, _, hnl, hn2, fun M2 hq h18 => ?_⟩
          refine fin2 M2 (hq.up (by simp)) (fun i d hi => ?_)
          have hi' : i < wct (wpo r) 4 := by
            have := (List.getElem?_eq_some_iff.mp hi).1
            omega
          rw [h18 i hi', ← wshare0 (f := S.1 c) (fun d _ => hr200 d) hw17 hi]
          split <;> rfl
        · have e0 : sort = 1 := (nI_eq (b := 1) (by omega) (by omega)).mp h2
          subst e0
          unfold zc_X5_shareEvenly
          dsimp only
          refine ⟨rfl, hx1, _, _, hnl, hn2, rfl, by omega, fun M2 hq h18 => ?_⟩
          refine fin2 M2 (hq.up (by simp)) (fun i d hi => ?_)
          have hi' : i < wct (wpo r) 4 := by
            have := (List.getElem?_eq_some_iff.mp hi).1
            omega
          rw [h18 i hi', wshare1 hi]
        · have e0 : sort = 2 := by
            have a1 : sort ≠ 0 := fun e => h1 (by rw [e]; rfl)
            have a2 : sort ≠ 1 := fun e => h2 (by rw [e]; rfl)
            omega
          subst e0
          unfold zc_X5_shareByDrops
          dsimp only
          refine ⟨rfl, hx1, _, _, (fun i => r (wat (wds r 4) i)), hnl, hn2, rfl, by omega, fun i hi => ?_, fun M2 hq h18 => ?_⟩
          · have hg := wat_get (L := wds r 4) (i := i) (by omega)
            refine ⟨hw17 i _ hg, wpo_t.mp (wds_get r 4 i _ hg).2.1, hr200 _⟩
          · refine fin2 M2 hq (fun i d hi => ?_)
            have hi' : i < wct (wpo r) 4 := by
              have := (List.getElem?_eq_some_iff.mp hi).1
              omega
            rw [h18 i hi', wshare2 hi]
      simp only [x3, hn1, zT_push, zT_bin, zT_div, zT_bil, zT_shl, zT_un, zT_i2l, zT_l2i, zT_lcmp, zT_ild, zT_lld, zT_ald, zT_ist, zT_lst, zT_ast, zT_iinc, zT_dup, zT_dup2, zT_pop, zT_if1, zT_if2, zT_ifn, zT_getI, zT_getJ, zT_getR, zT_putI, zT_putZ, zT_putJ, zT_putR, zT_ald0, zT_lald, zT_aald, zT_iast, zT_zast, zT_bast, zT_last, zT_aast, zT_iret, zT_nret, zT_aret, zT_vret, zT_oi, zT_mm, zT_ialX, zT_S1, zT_S2, zT_S3, zT_V0, zT_V1, zT_V2, zT_V3, zT_V4, zT_V5, zT_V6, zT_I0, zT_I1, zT_I2, zlg, zlset, zlpr, zent, zok, va_rf, List.length_cons, List.length_nil, List.replicate, List.cons_append, List.nil_append, List.append_nil, Option.toList_some, Option.toList_none, Option.toList, Nat.reduceAdd, Nat.reduceSub, Nat.reduceLeDiff, Nat.zero_add, Nat.zero_le, true_and, and_true, Nat.le_refl, ge_iff_le, Nat.reduceEqDiff]
      refine ⟨fun h1 => mid _ ?_, fun h1 => mid _ ?_⟩
      · rw [if_pos ((nI_eq (b := 0) (by omega) (by omega)).mp h1)]
      · rw [if_neg (fun e => h1 (by rw [e]; rfl))]
  · exact h.elim
