/-! DeltaRuns runTo -/
theorem zd_X7_runTo_0 : decode cX7_runTo 0 = .ok (.aload_n 0, 1) := by decide +kernel
theorem zd_X7_runTo_1 : decode cX7_runTo 1 = .ok (.iload_n 1, 1) := by decide +kernel
theorem zd_X7_runTo_2 : decode cX7_runTo 2 = .ok (.invokevirtual 180, 3) := by decide +kernel
theorem zd_X7_runTo_5 : decode cX7_runTo 5 = .ok (.astore_n 3, 1) := by decide +kernel
theorem zd_X7_runTo_6 : decode cX7_runTo 6 = .ok (.aload_n 3, 1) := by decide +kernel
theorem zd_X7_runTo_7 : decode cX7_runTo 7 = .ok (.getfield 177, 3) := by decide +kernel
theorem zd_X7_runTo_10 : decode cX7_runTo 10 = .ok (.iload_n 2, 1) := by decide +kernel
theorem zd_X7_runTo_11 : decode cX7_runTo 11 = .ok (.if_icmp .lt 5, 3) := by decide +kernel
theorem zd_X7_runTo_14 : decode cX7_runTo 14 = .ok (.aload_n 3, 1) := by decide +kernel
theorem zd_X7_runTo_15 : decode cX7_runTo 15 = .ok (.areturn, 1) := by decide +kernel
theorem zd_X7_runTo_16 : decode cX7_runTo 16 = .ok (.aload_n 0, 1) := by decide +kernel
theorem zd_X7_runTo_17 : decode cX7_runTo 17 = .ok (.aload_n 3, 1) := by decide +kernel
theorem zd_X7_runTo_18 : decode cX7_runTo 18 = .ok (.aload_n 3, 1) := by decide +kernel
theorem zd_X7_runTo_19 : decode cX7_runTo 19 = .ok (.getfield 177, 3) := by decide +kernel
theorem zd_X7_runTo_22 : decode cX7_runTo 22 = .ok (.invokevirtual 126, 3) := by decide +kernel
theorem zd_X7_runTo_25 : decode cX7_runTo 25 = .ok (.aload_n 3, 1) := by decide +kernel
theorem zd_X7_runTo_26 : decode cX7_runTo 26 = .ok (.getfield 177, 3) := by decide +kernel
theorem zd_X7_runTo_29 : decode cX7_runTo 29 = .ok (.iconst 1, 1) := by decide +kernel
theorem zd_X7_runTo_30 : decode cX7_runTo 30 = .ok (.iadd, 1) := by decide +kernel
theorem zd_X7_runTo_31 : decode cX7_runTo 31 = .ok (.istore 4, 2) := by decide +kernel
theorem zd_X7_runTo_33 : decode cX7_runTo 33 = .ok (.iload 4, 2) := by decide +kernel
theorem zd_X7_runTo_35 : decode cX7_runTo 35 = .ok (.iload_n 2, 1) := by decide +kernel
theorem zd_X7_runTo_36 : decode cX7_runTo 36 = .ok (.if_icmp .gt 76, 3) := by decide +kernel
theorem zd_X7_runTo_39 : decode cX7_runTo 39 = .ok (.aload_n 0, 1) := by decide +kernel
theorem zd_X7_runTo_40 : decode cX7_runTo 40 = .ok (.getfield 46, 3) := by decide +kernel
theorem zd_X7_runTo_43 : decode cX7_runTo 43 = .ok (.iload 4, 2) := by decide +kernel
theorem zd_X7_runTo_45 : decode cX7_runTo 45 = .ok (.aload_n 0, 1) := by decide +kernel
theorem zd_X7_runTo_46 : decode cX7_runTo 46 = .ok (.getfield 10, 3) := by decide +kernel
theorem zd_X7_runTo_49 : decode cX7_runTo 49 = .ok (.aload_n 0, 1) := by decide +kernel
theorem zd_X7_runTo_50 : decode cX7_runTo 50 = .ok (.getfield 33, 3) := by decide +kernel
theorem zd_X7_runTo_53 : decode cX7_runTo 53 = .ok (.invokevirtual 130, 3) := by decide +kernel
theorem zd_X7_runTo_56 : decode cX7_runTo 56 = .ok (.aload_n 0, 1) := by decide +kernel
theorem zd_X7_runTo_57 : decode cX7_runTo 57 = .ok (.getfield 33, 3) := by decide +kernel
theorem zd_X7_runTo_60 : decode cX7_runTo 60 = .ok (.aload_n 0, 1) := by decide +kernel
theorem zd_X7_runTo_61 : decode cX7_runTo 61 = .ok (.getfield 10, 3) := by decide +kernel
theorem zd_X7_runTo_64 : decode cX7_runTo 64 = .ok (.iload_n 1, 1) := by decide +kernel
theorem zd_X7_runTo_65 : decode cX7_runTo 65 = .ok (.invokestatic 134, 3) := by decide +kernel
theorem zd_X7_runTo_68 : decode cX7_runTo 68 = .ok (.invokevirtual 137, 3) := by decide +kernel
theorem zd_X7_runTo_71 : decode cX7_runTo 71 = .ok (.aload_n 0, 1) := by decide +kernel
theorem zd_X7_runTo_72 : decode cX7_runTo 72 = .ok (.getfield 33, 3) := by decide +kernel
theorem zd_X7_runTo_75 : decode cX7_runTo 75 = .ok (.aload_n 0, 1) := by decide +kernel
theorem zd_X7_runTo_76 : decode cX7_runTo 76 = .ok (.getfield 10, 3) := by decide +kernel
theorem zd_X7_runTo_79 : decode cX7_runTo 79 = .ok (.getfield 89, 3) := by decide +kernel
theorem zd_X7_runTo_82 : decode cX7_runTo 82 = .ok (.iload_n 1, 1) := by decide +kernel
theorem zd_X7_runTo_83 : decode cX7_runTo 83 = .ok (.invokestatic 184, 3) := by decide +kernel
theorem zd_X7_runTo_86 : decode cX7_runTo 86 = .ok (.iload_n 1, 1) := by decide +kernel
theorem zd_X7_runTo_87 : decode cX7_runTo 87 = .ok (.invokestatic 187, 3) := by decide +kernel
theorem zd_X7_runTo_90 : decode cX7_runTo 90 = .ok (.invokevirtual 190, 3) := by decide +kernel
theorem zd_X7_runTo_93 : decode cX7_runTo 93 = .ok (.aload_n 3, 1) := by decide +kernel
theorem zd_X7_runTo_94 : decode cX7_runTo 94 = .ok (.iload 4, 2) := by decide +kernel
theorem zd_X7_runTo_96 : decode cX7_runTo 96 = .ok (.aload_n 0, 1) := by decide +kernel
theorem zd_X7_runTo_97 : decode cX7_runTo 97 = .ok (.getfield 33, 3) := by decide +kernel
theorem zd_X7_runTo_100 : decode cX7_runTo 100 = .ok (.getfield 194, 3) := by decide +kernel
theorem zd_X7_runTo_103 : decode cX7_runTo 103 = .ok (.invokevirtual 195, 3) := by decide +kernel
theorem zd_X7_runTo_106 : decode cX7_runTo 106 = .ok (.iinc 4 1, 3) := by decide +kernel
theorem zd_X7_runTo_109 : decode cX7_runTo 109 = .ok (.goto (-76), 3) := by decide +kernel
theorem zd_X7_runTo_112 : decode cX7_runTo 112 = .ok (.aload_n 3, 1) := by decide +kernel
theorem zd_X7_runTo_113 : decode cX7_runTo 113 = .ok (.areturn, 1) := by decide +kernel
def zb_X7_runTo_0 (K : zKt) (J : Nat → zPP) (lc lz : Nat) : zPP := zT_ald 0 (zT_ild 1 (zT_V1 (zlm 2 467 lc lz) 7 9 zc_X7_startedYears (zT_ast 3 (zT_ald 3 (zT_getI 6 1 2 (zT_ild 2 (zT_if2 (fun x y => x < y) (zT_ald 0 (zT_ald 3 (zT_ald 3 (zT_getI 6 1 2 (zT_V2 zok 7 9 zc_X7_takeUp (zT_ald 3 (zT_getI 6 1 2 (zT_push (.int 1) (zT_bin (fun x y => x + y) (zT_ist 4 (J 33))))))))))) (zT_ald 3 (zT_aret K)))))))))
theorem zbs_X7_runTo_0 {X : zCt} (hR : zRX X = { frames := 4, cells := 2, slots := 467, locals := 95 }) (J : Nat → zPP) (hJ : ∀ h ∈ ([33] : List Nat), zSd X RX7 "runTo" cX7_runTo 5 (some (.object "DeltaRuns$Years")) h (J h)) : zSd X RX7 "runTo" cX7_runTo 5 (some (.object "DeltaRuns$Years")) 0 (zb_X7_runTo_0 (zKX X) J (zlc X) (zls X)) := zs_aload_n zd_X7_runTo_0 rfl (zs_iload_n zd_X7_runTo_1 rfl (zs_V (ci := 7) rfl rfl (zm_X7_startedYears _ _ _) gw_2_164 gw_2_161 gw_2_163 gw_0_10 gw_1_1 zdn_X7_startedYears (zrm hR (by decide) (by decide)) zd_X7_runTo_2 (zCl_V1 zlm_l) (zs_astore_n zd_X7_runTo_5 rfl (by decide) (zs_aload_n zd_X7_runTo_6 rfl (zs_getI (ci := 6) (j := 1) (T := TX6) rfl inX6 (by decide) gw_2_172 rfl zd_X7_runTo_7 (zs_iload_n zd_X7_runTo_10 rfl (zs_icmp_lt (tgt := 16) zd_X7_runTo_11 (by decide) (zs_aload_n zd_X7_runTo_16 rfl (zs_aload_n zd_X7_runTo_17 rfl (zs_aload_n zd_X7_runTo_18 rfl (zs_getI (ci := 6) (j := 1) (T := TX6) rfl inX6 (by decide) gw_2_172 rfl zd_X7_runTo_19 (zs_V (ci := 7) rfl rfl (zm_X7_takeUp _ _ _) gw_2_186 gw_2_183 gw_2_185 gw_0_11 gw_1_1 zdn_X7_takeUp (zrm hR (by decide) (by decide)) zd_X7_runTo_22 (zCl_V2 zok_l) (zs_aload_n zd_X7_runTo_25 rfl (zs_getI (ci := 6) (j := 1) (T := TX6) rfl inX6 (by decide) gw_2_172 rfl zd_X7_runTo_26 (zs_iconst zd_X7_runTo_29 (by decide) (zs_iadd zd_X7_runTo_30 (zs_istore zd_X7_runTo_31 (by decide) (hJ 33 (by decide)))))))))))) (zs_aload_n zd_X7_runTo_14 rfl (zs_aret rfl zd_X7_runTo_15)))))))))
def zb_X7_runTo_33 (K : zKt) (J : Nat → zPP) (lc lz : Nat) : zPP := zT_ild 4 (zT_ild 2 (zT_if2 (fun x y => y < x) (zT_ald 3 (zT_aret K)) (zT_ald 0 (zT_getR 7 5 9 (zT_ild 4 (zT_ald 0 (zT_getR 7 0 9 (zT_ald 0 (zT_getR 7 3 9 (zT_V3 zok 2 6 zc_X2_workIn (zT_ald 0 (zT_getR 7 3 9 (zT_ald 0 (zT_getR 7 0 9 (zT_ild 1 (zT_S1 zok zc_X7_sortOf (zT_V2 zok 5 11 zc_X5_run (zT_ald 0 (zT_getR 7 3 9 (zT_ald 0 (zT_getR 7 0 9 (zT_getI 1 5 6 (zT_ild 1 (zT_S1 zok zc_X7_rateOf (zT_ild 1 (zT_S1 zok zc_X7_wearOf (zT_V3 zok 5 11 zc_X5_settle (zT_ald 3 (zT_ild 4 (zT_ald 0 (zT_getR 7 3 9 (zT_getR 5 0 11 (zT_V2 zok 6 2 zc_X6_keep (zT_iinc 4 1 (J 33)))))))))))))))))))))))))))))))))))
theorem zbs_X7_runTo_33 {X : zCt} (hR : zRX X = { frames := 4, cells := 2, slots := 467, locals := 95 }) (J : Nat → zPP) (hJ : ∀ h ∈ ([33] : List Nat), zSd X RX7 "runTo" cX7_runTo 5 (some (.object "DeltaRuns$Years")) h (J h)) : zSd X RX7 "runTo" cX7_runTo 5 (some (.object "DeltaRuns$Years")) 33 (zb_X7_runTo_33 (zKX X) J (zlc X) (zls X)) := zs_iload zd_X7_runTo_33 (zs_iload_n zd_X7_runTo_35 rfl (zs_icmp_gt (tgt := 112) zd_X7_runTo_36 (by decide) (zs_aload_n zd_X7_runTo_112 rfl (zs_aret rfl zd_X7_runTo_113)) (zs_aload_n zd_X7_runTo_39 rfl (zs_getR (ci := 7) (j := 5) (T := TX7) rfl inX7 (by decide) gw_1_190 rfl zd_X7_runTo_40 (zs_iload zd_X7_runTo_43 (zs_aload_n zd_X7_runTo_45 rfl (zs_getR (ci := 7) (j := 0) (T := TX7) rfl inX7 (by decide) gw_1_185 rfl zd_X7_runTo_46 (zs_aload_n zd_X7_runTo_49 rfl (zs_getR (ci := 7) (j := 3) (T := TX7) rfl inX7 (by decide) gw_1_188 rfl zd_X7_runTo_50 (zs_V (ci := 2) rfl rfl (zm_X2_workIn _ _ _) gw_2_200 gw_2_197 gw_2_198 gw_2_199 gw_1_6 zdn_X2_workIn (zrm hR (by decide) (by decide)) zd_X7_runTo_53 (zCl_V3 zok_l) (zs_aload_n zd_X7_runTo_56 rfl (zs_getR (ci := 7) (j := 3) (T := TX7) rfl inX7 (by decide) gw_1_188 rfl zd_X7_runTo_57 (zs_aload_n zd_X7_runTo_60 rfl (zs_getR (ci := 7) (j := 0) (T := TX7) rfl inX7 (by decide) gw_1_185 rfl zd_X7_runTo_61 (zs_iload_n zd_X7_runTo_64 rfl (zs_S (zm_X7_sortOf _ _ _) gw_2_208 gw_2_206 gw_2_207 gw_1_1 zdn_X7_sortOf (zrm hR (by decide) (by decide)) zd_X7_runTo_65 (zCl_S1 zok_l) (zs_V (ci := 5) rfl rfl (zm_X5_run _ _ _) gw_2_212 gw_2_209 gw_2_210 gw_2_211 gw_1_5 zdn_X5_run (zrm hR (by decide) (by decide)) zd_X7_runTo_68 (zCl_V2 zok_l) (zs_aload_n zd_X7_runTo_71 rfl (zs_getR (ci := 7) (j := 3) (T := TX7) rfl inX7 (by decide) gw_1_188 rfl zd_X7_runTo_72 (zs_aload_n zd_X7_runTo_75 rfl (zs_getR (ci := 7) (j := 0) (T := TX7) rfl inX7 (by decide) gw_1_185 rfl zd_X7_runTo_76 (zs_getI (ci := 1) (j := 5) (T := TX1) rfl inX1 (by decide) gw_1_46 rfl zd_X7_runTo_79 (zs_iload_n zd_X7_runTo_82 rfl (zs_S (zm_X7_rateOf _ _ _) gw_3_17 gw_3_15 gw_3_16 gw_1_1 zdn_X7_rateOf (zrm hR (by decide) (by decide)) zd_X7_runTo_83 (zCl_S1 zok_l) (zs_iload_n zd_X7_runTo_86 rfl (zs_S (zm_X7_wearOf _ _ _) gw_3_20 gw_3_18 gw_3_19 gw_1_1 zdn_X7_wearOf (zrm hR (by decide) (by decide)) zd_X7_runTo_87 (zCl_S1 zok_l) (zs_V (ci := 5) rfl rfl (zm_X5_settle _ _ _) gw_3_24 gw_3_21 gw_3_22 gw_3_23 gw_1_5 zdn_X5_settle (zrm hR (by decide) (by decide)) zd_X7_runTo_90 (zCl_V3 zok_l) (zs_aload_n zd_X7_runTo_93 rfl (zs_iload zd_X7_runTo_94 (zs_aload_n zd_X7_runTo_96 rfl (zs_getR (ci := 7) (j := 3) (T := TX7) rfl inX7 (by decide) gw_1_188 rfl zd_X7_runTo_97 (zs_getR (ci := 5) (j := 0) (T := TX5) rfl inX5 (by decide) gw_1_113 rfl zd_X7_runTo_100 (zs_V (ci := 6) rfl rfl (zm_X6_keep _ _ _) gw_2_182 gw_2_179 gw_2_180 gw_2_181 gw_1_14 zdn_X6_keep (zrm hR (by decide) (by decide)) zd_X7_runTo_103 (zCl_V2 zok_l) (zs_iinc zd_X7_runTo_106 (by decide) (by decide) (zs_goto (tgt := 33) zd_X7_runTo_109 (by decide) (hJ 33 (by decide)))))))))))))))))))))))))))))))))))))
def zB_X7_runTo (K : zKt) (lc lz : Nat) (J : Nat → zPP) (h : Nat) : zPP := if h = 33 then zb_X7_runTo_33 K J lc lz else (fun _ _ _ => False)
theorem zBs_X7_runTo {X : zCt} (hR : zRX X = { frames := 4, cells := 2, slots := 467, locals := 95 }) : ∀ J : Nat → zPP, (∀ h ∈ ([33] : List Nat), zSd X RX7 "runTo" cX7_runTo 5 (some (.object "DeltaRuns$Years")) h (J h)) → ∀ h ∈ ([33] : List Nat), zSd X RX7 "runTo" cX7_runTo 5 (some (.object "DeltaRuns$Years")) h (zB_X7_runTo (zKX X) (zlc X) (zls X) J h) := by
  intro J hJ h hh
  unfold zB_X7_runTo
  simp only [List.mem_cons, List.not_mem_nil, or_false] at hh
  subst hh
  exact zbs_X7_runTo_33 hR J hJ
theorem zdn_X7_runTo : yX7_runTo.cls ≠ "java/lang/invoke/MethodHandle" ∧ yX7_runTo.cls ≠ "java/lang/invoke/VarHandle" ∧ (parseMethodDescriptor yX7_runTo.desc).map (fun d => d.parameters.length) = some 2 := by decide +kernel
/-! runTo -/
theorem wG_run {w h : Nat} {H : Nat → Nat} {D : Nat → Bool} {sort sp fl : Nat} {S : wST} (hw : w ≤ 12) (hh : h ≤ 10) (hH : ∀ x, x < 120 → H x ≤ 200) (hwf : wwf S) (hin : ∀ x ∈ S.2, wil w h x) (hfl : wfl w h H D sort sp fl S.1) : ∀ x, x < 120 → wG w h H D sort sp fl x = S.1 x :=
  wG_eq hw hh hfl hH (fun x hx hxl => by
    have := hwf.2.2 x hx
    have : ¬ 0 < S.1 x := fun z => hxl (hin x (this.mpr z))
    omega)
def zc_X7_runTo (a : List Value) (M : zMm) (K : zKt) : Prop := match a with
  | [.ref k, .int x, .int y] => k = 0 ∧ ∃ r yr σ pk dk p, x = nI r ∧ r < 36 ∧ y = nI yr ∧ yr ≤ 30 ∧ zXI M σ pk dk p ∧ ∀ M' m, zrn M M' r → zXI M' σ pk dk p → yr ≤ m → m ≤ 30 → M'.2.2.2 20 r = some (zyi r) → M'.2.2.2 (zyi r) 0 = some (zyi r + 1) → M'.2.1 (zyi r) 1 = nI m → zys M' (zyi r) m (fun n => (wHD σ r n).1) → K (some (.ref (zyi r))) M'
  | _ => False
set_option maxHeartbeats 4000000 in
theorem zm_X7_runTo (l : Launch) (D : va_G) (Y : Nat → ClassId) : zMt l D Y yX7_runTo cX7_runTo 5 (some (.object "DeltaRuns$Years")) 4 95 2 467 zc_X7_runTo := by
  refine zwhile1 (h0 := 33) (by decide) (fun K J lc lz => zb_X7_runTo_0 K J lc lz) (fun K lc lz J => zb_X7_runTo_33 K J lc lz) (fun X hR J hJ => zbs_X7_runTo_0 hR J hJ) (fun X hR J hJ => zbs_X7_runTo_33 hR J hJ) (fun avs M K h => ?_)
  unfold zc_X7_runTo at h
  split at h
  · next k x y =>
    obtain ⟨rfl, r, yr, σ, pk, dk, p, rfl, hr, rfl, hyr, hXI, h⟩ := h
    obtain ⟨y0, y1⟩ := zyk_sh (yk := zyi r) ⟨r, hr, rfl⟩
    have hrne : zyi r = 100 + 2 * r := rfl
    refine ⟨by simp [zent], fun q M' ls st => ∃ n, q = 40 - n ∧ 1 ≤ n ∧ n ≤ yr + 1 ∧ ls = [some (.ref 0), some (.int (nI r)), some (.int (nI yr)), some (.ref (zyi r)), some (.int (nI n))] ∧ st = [] ∧ zrn M M' r ∧ zXI M' σ pk dk p ∧ M'.2.2.2 20 r = some (zyi r) ∧ M'.2.2.2 (zyi r) 0 = some (zyi r + 1) ∧ M'.2.1 (zyi r) 1 = nI (n - 1) ∧ zys M' (zyi r) (n - 1) (fun n => (wHD σ r n).1) ∧ zhg M' (wHD σ r (n - 1)).1 ∧ zdy M' (wHD σ r (n - 1)).2, ?_, ?_⟩
    · rintro q J hJ M' ls st ⟨n, rfl, hn1, hn, rfl, rfl, hrn, hxi, r1, r2, hlat, hzy, hhg, hdy⟩
      obtain ⟨hxr, hok, w1, w2, w3, w4, w5, hg, hpl, ⟨S, hS1, hS2⟩, hYS, hLL⟩ := id hxi
      obtain ⟨k1, k2, k3, k4, k5, k6, k7, k8, k9⟩ := id hok
      obtain ⟨a0, a1, a2, a3, a4, a5, a6, a7, a8, a9, a10, a11, a12, hxw, -⟩ := id hxr
      obtain ⟨p0, -⟩ := zpl_sh hpl.1
      obtain ⟨m, rfl⟩ : ∃ m, n = m + 1 := ⟨n - 1, by omega⟩
      rw [show m + 1 - 1 = m from rfl] at hlat hzy hhg hdy
      simp only [zb_X7_runTo_33, zsh_0, a0, a3, a5, p0, zT_push, zT_bin, zT_div, zT_bil, zT_shl, zT_un, zT_i2l, zT_l2i, zT_lcmp, zT_ild, zT_lld, zT_ald, zT_ist, zT_lst, zT_ast, zT_iinc, zT_dup, zT_dup2, zT_pop, zT_if1, zT_if2, zT_ifn, zT_getI, zT_getJ, zT_getR, zT_putI, zT_putZ, zT_putJ, zT_putR, zT_ald0, zT_lald, zT_aald, zT_iast, zT_zast, zT_bast, zT_last, zT_aast, zT_iret, zT_nret, zT_aret, zT_vret, zT_oi, zT_mm, zT_ialX, zT_S1, zT_S2, zT_S3, zT_V0, zT_V1, zT_V2, zT_V3, zT_V4, zT_V5, zT_V6, zT_I0, zT_I1, zT_I2, zlg, zlset, zlpr, zent, zok, va_rf, List.length_cons, List.length_nil, List.replicate, List.cons_append, List.nil_append, List.append_nil, Option.toList_some, Option.toList_none, Option.toList, Nat.reduceAdd, Nat.reduceSub, Nat.reduceLeDiff, Nat.zero_add, Nat.zero_le, true_and, and_true, Nat.le_refl, ge_iff_le, Nat.reduceEqDiff]
      refine ⟨fun h1 => ?_, fun h1 => ?_⟩
      · have := (nI_ltI (by omega) (by omega)).mp h1
        exact h M' m hrn hxi (by omega) (by omega) r1 r2 hlat hzy
      · have hle : m + 1 ≤ yr := by
          rcases Nat.lt_or_ge yr (m + 1) with q | q
          · exact absurd ((nI_ltI (by omega) (by omega)).mpr q) h1
          · exact q
        unfold zc_X2_workIn
        dsimp only
        refine ⟨rfl, rfl, hxw, m + 1, sW σ, sH σ, sA σ, _, _, rfl, by omega, ⟨w1, w2, k2, k4⟩, hpl, hdy, hhg, fun M1 hs1 hd1 hh1 => ?_⟩
        have hxr1 := hxr.to hs1.R
        obtain ⟨b0, b1, b2, b3, b4, b5, b6, b7, b8, b9, b10, b11, b12, hxw1, -⟩ := id hxr1
        simp only [zsh_0, b0, b3, zT_push, zT_bin, zT_div, zT_bil, zT_shl, zT_un, zT_i2l, zT_l2i, zT_lcmp, zT_ild, zT_lld, zT_ald, zT_ist, zT_lst, zT_ast, zT_iinc, zT_dup, zT_dup2, zT_pop, zT_if1, zT_if2, zT_ifn, zT_getI, zT_getJ, zT_getR, zT_putI, zT_putZ, zT_putJ, zT_putR, zT_ald0, zT_lald, zT_aald, zT_iast, zT_zast, zT_bast, zT_last, zT_aast, zT_iret, zT_nret, zT_aret, zT_vret, zT_oi, zT_mm, zT_ialX, zT_S1, zT_S2, zT_S3, zT_V0, zT_V1, zT_V2, zT_V3, zT_V4, zT_V5, zT_V6, zT_I0, zT_I1, zT_I2, zlg, zlset, zlpr, zent, zok, va_rf, List.length_cons, List.length_nil, List.replicate, List.cons_append, List.nil_append, List.append_nil, Option.toList_some, Option.toList_none, Option.toList, Nat.reduceAdd, Nat.reduceSub, Nat.reduceLeDiff, Nat.zero_add, Nat.zero_le, true_and, and_true, Nat.le_refl, ge_iff_le, Nat.reduceEqDiff]
        unfold zc_X7_sortOf
        dsimp only
        rw [show (12 : Int32) = nI 12 from rfl, pk_div (by omega) (by omega) (by omega)]
        simp only [zsh_0, zsh_1, zsh_10, b0, b3, zT_push, zT_bin, zT_div, zT_bil, zT_shl, zT_un, zT_i2l, zT_l2i, zT_lcmp, zT_ild, zT_lld, zT_ald, zT_ist, zT_lst, zT_ast, zT_iinc, zT_dup, zT_dup2, zT_pop, zT_if1, zT_if2, zT_ifn, zT_getI, zT_getJ, zT_getR, zT_putI, zT_putZ, zT_putJ, zT_putR, zT_ald0, zT_lald, zT_aald, zT_iast, zT_zast, zT_bast, zT_last, zT_aast, zT_iret, zT_nret, zT_aret, zT_vret, zT_oi, zT_mm, zT_ialX, zT_S1, zT_S2, zT_S3, zT_V0, zT_V1, zT_V2, zT_V3, zT_V4, zT_V5, zT_V6, zT_I0, zT_I1, zT_I2, zlg, zlset, zlpr, zent, zok, va_rf, List.length_cons, List.length_nil, List.replicate, List.cons_append, List.nil_append, List.append_nil, Option.toList_some, Option.toList_none, Option.toList, Nat.reduceAdd, Nat.reduceSub, Nat.reduceLeDiff, Nat.zero_add, Nat.zero_le, true_and, and_true, Nat.le_refl, ge_iff_le, Nat.reduceEqDiff]
        unfold zc_X5_run
        dsimp only
        have e1 : M1.2.1 1 = M'.2.1 1 := hs1.2.2 1 (by simp)
        have hS1' : zwt M1 S.1 S.2 := by
          unfold zwt
          rw [hs1.2.2 13 (by simp), hs1.2.2 15 (by simp), hs1.2.2 10 (by simp)]
          exact hS1
        have hld1 : zld M1 (sW σ) (sH σ) (whk (sW σ) (sH σ) (m + 1) (sA σ) (wHD σ r m).1) (wdk (sW σ) (sH σ) (m + 1) (sA σ) (wHD σ r m).2) := ⟨by rw [e1]; exact w1, by rw [e1]; exact w2, k2, k4, hh1, hd1⟩
        refine ⟨rfl, rfl, hxw1, sW σ, sH σ, _, _, r / 12, sS σ, sF σ, S, hld1, rfl, by omega, by rw [e1]; exact w3, k6, k7, by rw [e1]; exact w4, k8, hS1', hS2, fun M2 S2 hs2 hwt2 hwf2 hin2 hbd2 hfl2 hpt2 => ?_⟩
        have hH200 : ∀ x, x < 120 → whk (sW σ) (sH σ) (m + 1) (sA σ) (wHD σ r m).1 x ≤ 200 := fun x hx => (hh1 x hx).2
        have hGeq := wG_run k2 k4 hH200 hwf2 hin2 hfl2
        have hxr2 := hxr1.to hs2.R
        obtain ⟨c0, c1, c2, c3, c4, c5, c6, c7, c8, c9, c10, c11, c12, hxw2, -⟩ := id hxr2
        have e2 : M2.2.1 1 = M'.2.1 1 := by rw [hs2.2.2 1 (by simp)]; exact e1
        simp only [zsh_0, zsh_1, c0, c3, e2, w5, zT_push, zT_bin, zT_div, zT_bil, zT_shl, zT_un, zT_i2l, zT_l2i, zT_lcmp, zT_ild, zT_lld, zT_ald, zT_ist, zT_lst, zT_ast, zT_iinc, zT_dup, zT_dup2, zT_pop, zT_if1, zT_if2, zT_ifn, zT_getI, zT_getJ, zT_getR, zT_putI, zT_putZ, zT_putJ, zT_putR, zT_ald0, zT_lald, zT_aald, zT_iast, zT_zast, zT_bast, zT_last, zT_aast, zT_iret, zT_nret, zT_aret, zT_vret, zT_oi, zT_mm, zT_ialX, zT_S1, zT_S2, zT_S3, zT_V0, zT_V1, zT_V2, zT_V3, zT_V4, zT_V5, zT_V6, zT_I0, zT_I1, zT_I2, zlg, zlset, zlpr, zent, zok, va_rf, List.length_cons, List.length_nil, List.replicate, List.cons_append, List.nil_append, List.append_nil, Option.toList_some, Option.toList_none, Option.toList, Nat.reduceAdd, Nat.reduceSub, Nat.reduceLeDiff, Nat.zero_add, Nat.zero_le, true_and, and_true, Nat.le_refl, ge_iff_le, Nat.reduceEqDiff]
        unfold zc_X7_rateOf
        dsimp only
        have hrate : (1 : Int32) + (nI r / 2 - nI r / 2 / 6 * 6) = nI (wrt r) := by
          rw [show (2 : Int32) = nI 2 from rfl, show (6 : Int32) = nI 6 from rfl, show (1 : Int32) = nI 1 from rfl, pk_div (by omega) (by omega) (by omega), pk_rem (by omega) (by omega) (by omega), nI_add]
          rfl
        rw [hrate]
        simp only [zT_push, zT_bin, zT_div, zT_bil, zT_shl, zT_un, zT_i2l, zT_l2i, zT_lcmp, zT_ild, zT_lld, zT_ald, zT_ist, zT_lst, zT_ast, zT_iinc, zT_dup, zT_dup2, zT_pop, zT_if1, zT_if2, zT_ifn, zT_getI, zT_getJ, zT_getR, zT_putI, zT_putZ, zT_putJ, zT_putR, zT_ald0, zT_lald, zT_aald, zT_iast, zT_zast, zT_bast, zT_last, zT_aast, zT_iret, zT_nret, zT_aret, zT_vret, zT_oi, zT_mm, zT_ialX, zT_S1, zT_S2, zT_S3, zT_V0, zT_V1, zT_V2, zT_V3, zT_V4, zT_V5, zT_V6, zT_I0, zT_I1, zT_I2, zlg, zlset, zlpr, zent, zok, va_rf, List.length_cons, List.length_nil, List.replicate, List.cons_append, List.nil_append, List.append_nil, Option.toList_some, Option.toList_none, Option.toList, Nat.reduceAdd, Nat.reduceSub, Nat.reduceLeDiff, Nat.zero_add, Nat.zero_le, true_and, and_true, Nat.le_refl, ge_iff_le, Nat.reduceEqDiff]
        unfold zc_X7_wearOf
        dsimp only
        have hwear : nI r - nI r / 2 * 2 = nI (wwr r) := by
          rw [show (2 : Int32) = nI 2 from rfl, pk_rem (by omega) (by omega) (by omega)]
          rfl
        rw [hwear]
        simp only [zsh_0, zsh_10, c0, c3, zT_push, zT_bin, zT_div, zT_bil, zT_shl, zT_un, zT_i2l, zT_l2i, zT_lcmp, zT_ild, zT_lld, zT_ald, zT_ist, zT_lst, zT_ast, zT_iinc, zT_dup, zT_dup2, zT_pop, zT_if1, zT_if2, zT_ifn, zT_getI, zT_getJ, zT_getR, zT_putI, zT_putZ, zT_putJ, zT_putR, zT_ald0, zT_lald, zT_aald, zT_iast, zT_zast, zT_bast, zT_last, zT_aast, zT_iret, zT_nret, zT_aret, zT_vret, zT_oi, zT_mm, zT_ialX, zT_S1, zT_S2, zT_S3, zT_V0, zT_V1, zT_V2, zT_V3, zT_V4, zT_V5, zT_V6, zT_I0, zT_I1, zT_I2, zlg, zlset, zlpr, zent, zok, va_rf, List.length_cons, List.length_nil, List.replicate, List.cons_append, List.nil_append, List.append_nil, Option.toList_some, Option.toList_none, Option.toList, Nat.reduceAdd, Nat.reduceSub, Nat.reduceLeDiff, Nat.zero_add, Nat.zero_le, true_and, and_true, Nat.le_refl, ge_iff_le, Nat.reduceEqDiff]
        unfold zc_X5_settle
        dsimp only
        have h11 : M2.2.1 11 = M1.2.1 11 := hs2.2.2 11 (by simp)
        refine ⟨rfl, hxw2, sL σ, wrt r, wwr r, S2, whk (sW σ) (sH σ) (m + 1) (sA σ) (wHD σ r m).1, wpt (sW σ) (sH σ) (whk (sW σ) (sH σ) (m + 1) (sA σ) (wHD σ r m).1) (wdk (sW σ) (sH σ) (m + 1) (sA σ) (wHD σ r m).2), rfl, k5, rfl, by unfold wrt; omega, rfl, by unfold wwr; omega, hwt2, hwf2, fun e => by have := hbd2 e; omega, by rw [h11]; exact hh1, hpt2, fun M3 hs3 hset => ?_⟩
        have hxr3 := hxr2.to hs3.R
        obtain ⟨d0, d1, d2, d3, d4, d5, d6, d7, d8, d9, d10, d11, d12, hxw3, -⟩ := id hxr3
        obtain ⟨x0, -⟩ := id hxw3
        have hnew : ∀ e, e < 120 → M3.2.1 11 e = nI ((wHD σ r (m + 1)).1 e) ∧ (wHD σ r (m + 1)).1 e ≤ 200 := by
          intro e he
          refine ⟨?_, wHD_le hok r (m + 1) e⟩
          rw [hset e he, ← hGeq e he]
          rfl
        simp only [zsh_0, zsh_10, y0, d3, x0, zT_push, zT_bin, zT_div, zT_bil, zT_shl, zT_un, zT_i2l, zT_l2i, zT_lcmp, zT_ild, zT_lld, zT_ald, zT_ist, zT_lst, zT_ast, zT_iinc, zT_dup, zT_dup2, zT_pop, zT_if1, zT_if2, zT_ifn, zT_getI, zT_getJ, zT_getR, zT_putI, zT_putZ, zT_putJ, zT_putR, zT_ald0, zT_lald, zT_aald, zT_iast, zT_zast, zT_bast, zT_last, zT_aast, zT_iret, zT_nret, zT_aret, zT_vret, zT_oi, zT_mm, zT_ialX, zT_S1, zT_S2, zT_S3, zT_V0, zT_V1, zT_V2, zT_V3, zT_V4, zT_V5, zT_V6, zT_I0, zT_I1, zT_I2, zlg, zlset, zlpr, zent, zok, va_rf, List.length_cons, List.length_nil, List.replicate, List.cons_append, List.nil_append, List.append_nil, Option.toList_some, Option.toList_none, Option.toList, Nat.reduceAdd, Nat.reduceSub, Nat.reduceLeDiff, Nat.zero_add, Nat.zero_le, true_and, and_true, Nat.le_refl, ge_iff_le, Nat.reduceEqDiff]
        unfold zc_X6_keep
        dsimp only
        have hR3 : M3.2.2.2 = M'.2.2.2 := by rw [hs3.R, hs2.R, hs1.R]
        have hL3 : M3.1 = M'.1 := by rw [hs3.1, hs2.1, hs1.1]
        have hJ3 : M3.2.2.1 = M'.2.2.1 := by rw [hs3.J, hs2.J, hs1.J]
        have hI3 : ∀ k, k < 10 ∨ 20 ≤ k → M3.2.1 k = M'.2.1 k := fun k hk => by
          rw [hs3.2.2 k (by simp; omega), hs2.2.2 k (by simp; omega), hs1.2.2 k (by simp; omega)]
        refine ⟨⟨⟨r, hr, rfl⟩, by rw [hR3]; exact r2⟩, Or.inr rfl, m + 1, (wHD σ r (m + 1)).1, rfl, by omega, hnew, fun M4 f1 f2 f3 f4 f5 f6 f7 => ?_⟩
        have hrn4 : zrn M' M4 r := ⟨Or.inl ⟨by rw [f1, hL3], by rw [f2, hR3]⟩, fun k q1 q2 q3 => by rw [f6 k q2]; exact hI3 k q1, fun k q1 q2 => by rw [f3 k q2, hJ3]⟩
        have hw4 : ∀ k, k < 20 → M4.2.1 k = M3.2.1 k := fun k hk => f6 k (by omega)
        have hwt4 : zwt M4 S2.1 S2.2 := by
          unfold zwt
          rw [hw4 13 (by decide), hw4 15 (by decide), hw4 10 (by decide), hs3.2.2 13 (by simp), hs3.2.2 15 (by simp), hs3.2.2 10 (by simp)]
          exact hwt2
        have r14 : M4.2.2.2 20 r = some (zyi r) := by rw [f2, hR3]; exact r1
        have r24 : M4.2.2.2 (zyi r) 0 = some (zyi r + 1) := by rw [f2, hR3]; exact r2
        have hzy4 : zys M4 (zyi r) (m + 1) (fun n => (wHD σ r n).1) := by
          intro n' hn' i hi
          by_cases e : n' = m + 1
          · subst e
            exact f5 i hi
          · rw [f4 _ (Or.inl (by omega)), hJ3]
            exact hzy n' (by omega) i hi
        have hxi4 := hxi.run hr hrn4 ⟨S2, hwt4, hwf2⟩ ⟨r14, r24, Or.inr ⟨m + 1, by omega, f7, hzy4⟩⟩
        refine hJ (40 - (m + 1 + 1)) _ _ _ (by omega) ⟨m + 1 + 1, rfl, by omega, by omega, by rw [nI_1], rfl, hrn.tr hrn4, hxi4, r14, r24, f7, hzy4, ?_, ?_⟩
        · intro e he
          rw [hw4 11 (by decide)]
          exact hnew e he
        · intro e he
          rw [hw4 12 (by decide), hs3.2.2 12 (by simp), hs2.2.2 12 (by simp)]
          exact hd1 e he
    · intro J hJ
      simp only [zb_X7_runTo_0, zsh_0, zT_push, zT_bin, zT_div, zT_bil, zT_shl, zT_un, zT_i2l, zT_l2i, zT_lcmp, zT_ild, zT_lld, zT_ald, zT_ist, zT_lst, zT_ast, zT_iinc, zT_dup, zT_dup2, zT_pop, zT_if1, zT_if2, zT_ifn, zT_getI, zT_getJ, zT_getR, zT_putI, zT_putZ, zT_putJ, zT_putR, zT_ald0, zT_lald, zT_aald, zT_iast, zT_zast, zT_bast, zT_last, zT_aast, zT_iret, zT_nret, zT_aret, zT_vret, zT_oi, zT_mm, zT_ialX, zT_S1, zT_S2, zT_S3, zT_V0, zT_V1, zT_V2, zT_V3, zT_V4, zT_V5, zT_V6, zT_I0, zT_I1, zT_I2, zlg, zlset, zlpr, zent, zok, va_rf, List.length_cons, List.length_nil, List.replicate, List.cons_append, List.nil_append, List.append_nil, Option.toList_some, Option.toList_none, Option.toList, Nat.reduceAdd, Nat.reduceSub, Nat.reduceLeDiff, Nat.zero_add, Nat.zero_le, true_and, and_true, Nat.le_refl, ge_iff_le, Nat.reduceEqDiff]
      refine ⟨⟨Nat.le_refl _, Nat.le_refl _⟩, ?_⟩
      unfold zc_X7_startedYears
      dsimp only
      refine ⟨rfl, r, σ, pk, dk, p, rfl, hr, hXI, fun M1 m hrn1 hxi1 hw1 r1 r2 hm hlat hzy => ?_⟩
      simp only [zsh_0, y0, hlat, zT_push, zT_bin, zT_div, zT_bil, zT_shl, zT_un, zT_i2l, zT_l2i, zT_lcmp, zT_ild, zT_lld, zT_ald, zT_ist, zT_lst, zT_ast, zT_iinc, zT_dup, zT_dup2, zT_pop, zT_if1, zT_if2, zT_ifn, zT_getI, zT_getJ, zT_getR, zT_putI, zT_putZ, zT_putJ, zT_putR, zT_ald0, zT_lald, zT_aald, zT_iast, zT_zast, zT_bast, zT_last, zT_aast, zT_iret, zT_nret, zT_aret, zT_vret, zT_oi, zT_mm, zT_ialX, zT_S1, zT_S2, zT_S3, zT_V0, zT_V1, zT_V2, zT_V3, zT_V4, zT_V5, zT_V6, zT_I0, zT_I1, zT_I2, zlg, zlset, zlpr, zent, zok, va_rf, List.length_cons, List.length_nil, List.replicate, List.cons_append, List.nil_append, List.append_nil, Option.toList_some, Option.toList_none, Option.toList, Nat.reduceAdd, Nat.reduceSub, Nat.reduceLeDiff, Nat.zero_add, Nat.zero_le, true_and, and_true, Nat.le_refl, ge_iff_le, Nat.reduceEqDiff]
      refine ⟨fun h1 => ?_, fun h1 => ?_⟩
      · have hlt := (nI_ltI (by omega) (by omega)).mp h1
        obtain ⟨hxr, hok, w1, w2, w3, w4, w5, hg, hpl, ⟨S, hS1, hS2⟩, hYS, hLL⟩ := id hxi1
        obtain ⟨k1, k2, k3, k4, k5, k6, k7, k8, k9⟩ := id hok
        unfold zc_X7_takeUp
        dsimp only
        refine ⟨rfl, pk, dk, m, (wHD σ r m).1, sW σ, sH σ, sA σ, hxr, ⟨⟨r, hr, rfl⟩, r2⟩, rfl, hm, fun e _ => wHD_le hok r m e, fun i hi => hzy m (Nat.le_refl _) i hi, ⟨w1, w2, k2, k4⟩, hpl, fun M2 hs2 hh2 hd2 => ?_⟩
        have hlat2 : M2.2.1 (zyi r) = M1.2.1 (zyi r) := hs2.2.2 _ (by simp; omega)
        simp only [y0, hlat2, hlat, zT_push, zT_bin, zT_div, zT_bil, zT_shl, zT_un, zT_i2l, zT_l2i, zT_lcmp, zT_ild, zT_lld, zT_ald, zT_ist, zT_lst, zT_ast, zT_iinc, zT_dup, zT_dup2, zT_pop, zT_if1, zT_if2, zT_ifn, zT_getI, zT_getJ, zT_getR, zT_putI, zT_putZ, zT_putJ, zT_putR, zT_ald0, zT_lald, zT_aald, zT_iast, zT_zast, zT_bast, zT_last, zT_aast, zT_iret, zT_nret, zT_aret, zT_vret, zT_oi, zT_mm, zT_ialX, zT_S1, zT_S2, zT_S3, zT_V0, zT_V1, zT_V2, zT_V3, zT_V4, zT_V5, zT_V6, zT_I0, zT_I1, zT_I2, zlg, zlset, zlpr, zent, zok, va_rf, List.length_cons, List.length_nil, List.replicate, List.cons_append, List.nil_append, List.append_nil, Option.toList_some, Option.toList_none, Option.toList, Nat.reduceAdd, Nat.reduceSub, Nat.reduceLeDiff, Nat.zero_add, Nat.zero_le, true_and, and_true, Nat.le_refl, ge_iff_le, Nat.reduceEqDiff]
        have hrn2 : zrn M1 M2 r := ⟨Or.inl ⟨hs2.1, hs2.R⟩, fun k q1 q2 q3 => hs2.2.2 k (by simp; omega), fun k q1 q2 => by rw [hs2.J]⟩
        have hwt2 : zwt M2 S.1 S.2 := by
          unfold zwt
          rw [hs2.2.2 13 (by simp), hs2.2.2 15 (by simp), hs2.2.2 10 (by simp)]
          exact hS1
        have r12 : M2.2.2.2 20 r = some (zyi r) := by rw [hs2.R]; exact r1
        have r22 : M2.2.2.2 (zyi r) 0 = some (zyi r + 1) := by rw [hs2.R]; exact r2
        have hzy2 : zys M2 (zyi r) m (fun n => (wHD σ r n).1) := by
          unfold zys
          rw [hs2.J]
          exact hzy
        have hxi2 := hxi1.run hr hrn2 ⟨S, hwt2, hS2⟩ ⟨r12, r22, Or.inr ⟨m, hm, by rw [hlat2]; exact hlat, hzy2⟩⟩
        refine hJ (40 - (m + 1)) _ _ _ ⟨m + 1, rfl, by omega, by omega, by rw [nI_1], rfl, hrn1.tr hrn2, hxi2, r12, r22, by rw [hlat2]; exact hlat, hzy2, hh2, ?_⟩
        rw [show m + 1 - 1 = m from rfl, wHD_2]
        exact hd2
      · have hle : yr ≤ m := by
          rcases Nat.lt_or_ge m yr with q | q
          · exact absurd ((nI_ltI (by omega) (by omega)).mpr q) h1
          · exact q
        exact h M1 m hrn1 hxi1 hle hm r1 r2 hlat hzy
  · exact h.elim
