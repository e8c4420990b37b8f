/-! DeltaRuns$Plan workIn -/
theorem zd_X2_workIn_0 : decode cX2_workIn 0 = .ok (.aload_n 0, 1) := by decide +kernel
theorem zd_X2_workIn_1 : decode cX2_workIn 1 = .ok (.iload_n 1, 1) := by decide +kernel
theorem zd_X2_workIn_2 : decode cX2_workIn 2 = .ok (.aload_n 2, 1) := by decide +kernel
theorem zd_X2_workIn_3 : decode cX2_workIn 3 = .ok (.aload_n 3, 1) := by decide +kernel
theorem zd_X2_workIn_4 : decode cX2_workIn 4 = .ok (.invokevirtual 27, 3) := by decide +kernel
theorem zd_X2_workIn_7 : decode cX2_workIn 7 = .ok (.iconst 0, 1) := by decide +kernel
theorem zd_X2_workIn_8 : decode cX2_workIn 8 = .ok (.istore 4, 2) := by decide +kernel
theorem zd_X2_workIn_10 : decode cX2_workIn 10 = .ok (.iload 4, 2) := by decide +kernel
theorem zd_X2_workIn_12 : decode cX2_workIn 12 = .ok (.aload_n 0, 1) := by decide +kernel
theorem zd_X2_workIn_13 : decode cX2_workIn 13 = .ok (.getfield 31, 3) := by decide +kernel
theorem zd_X2_workIn_16 : decode cX2_workIn 16 = .ok (.if_icmp .ge 134, 3) := by decide +kernel
theorem zd_X2_workIn_19 : decode cX2_workIn 19 = .ok (.aload_n 0, 1) := by decide +kernel
theorem zd_X2_workIn_20 : decode cX2_workIn 20 = .ok (.getfield 9, 3) := by decide +kernel
theorem zd_X2_workIn_23 : decode cX2_workIn 23 = .ok (.iload 4, 2) := by decide +kernel
theorem zd_X2_workIn_25 : decode cX2_workIn 25 = .ok (.iaload, 1) := by decide +kernel
theorem zd_X2_workIn_26 : decode cX2_workIn 26 = .ok (.iload_n 1, 1) := by decide +kernel
theorem zd_X2_workIn_27 : decode cX2_workIn 27 = .ok (.if_icmp .ne 117, 3) := by decide +kernel
theorem zd_X2_workIn_30 : decode cX2_workIn 30 = .ok (.aload_n 2, 1) := by decide +kernel
theorem zd_X2_workIn_31 : decode cX2_workIn 31 = .ok (.aload_n 0, 1) := by decide +kernel
theorem zd_X2_workIn_32 : decode cX2_workIn 32 = .ok (.getfield 18, 3) := by decide +kernel
theorem zd_X2_workIn_35 : decode cX2_workIn 35 = .ok (.iload 4, 2) := by decide +kernel
theorem zd_X2_workIn_37 : decode cX2_workIn 37 = .ok (.iaload, 1) := by decide +kernel
theorem zd_X2_workIn_38 : decode cX2_workIn 38 = .ok (.aload_n 0, 1) := by decide +kernel
theorem zd_X2_workIn_39 : decode cX2_workIn 39 = .ok (.getfield 21, 3) := by decide +kernel
theorem zd_X2_workIn_42 : decode cX2_workIn 42 = .ok (.iload 4, 2) := by decide +kernel
theorem zd_X2_workIn_44 : decode cX2_workIn 44 = .ok (.iaload, 1) := by decide +kernel
theorem zd_X2_workIn_45 : decode cX2_workIn 45 = .ok (.invokevirtual 35, 3) := by decide +kernel
theorem zd_X2_workIn_48 : decode cX2_workIn 48 = .ok (.ifCond .eq 96, 3) := by decide +kernel
theorem zd_X2_workIn_51 : decode cX2_workIn 51 = .ok (.aload_n 0, 1) := by decide +kernel
theorem zd_X2_workIn_52 : decode cX2_workIn 52 = .ok (.getfield 18, 3) := by decide +kernel
theorem zd_X2_workIn_55 : decode cX2_workIn 55 = .ok (.iload 4, 2) := by decide +kernel
theorem zd_X2_workIn_57 : decode cX2_workIn 57 = .ok (.iaload, 1) := by decide +kernel
theorem zd_X2_workIn_58 : decode cX2_workIn 58 = .ok (.aload_n 0, 1) := by decide +kernel
theorem zd_X2_workIn_59 : decode cX2_workIn 59 = .ok (.getfield 21, 3) := by decide +kernel
theorem zd_X2_workIn_62 : decode cX2_workIn 62 = .ok (.iload 4, 2) := by decide +kernel
theorem zd_X2_workIn_64 : decode cX2_workIn 64 = .ok (.iaload, 1) := by decide +kernel
theorem zd_X2_workIn_65 : decode cX2_workIn 65 = .ok (.invokestatic 41, 3) := by decide +kernel
theorem zd_X2_workIn_68 : decode cX2_workIn 68 = .ok (.istore 5, 2) := by decide +kernel
theorem zd_X2_workIn_70 : decode cX2_workIn 70 = .ok (.aload_n 3, 1) := by decide +kernel
theorem zd_X2_workIn_71 : decode cX2_workIn 71 = .ok (.getfield 45, 3) := by decide +kernel
theorem zd_X2_workIn_74 : decode cX2_workIn 74 = .ok (.iload 5, 2) := by decide +kernel
theorem zd_X2_workIn_76 : decode cX2_workIn 76 = .ok (.iaload, 1) := by decide +kernel
theorem zd_X2_workIn_77 : decode cX2_workIn 77 = .ok (.istore 6, 2) := by decide +kernel
theorem zd_X2_workIn_79 : decode cX2_workIn 79 = .ok (.aload_n 0, 1) := by decide +kernel
theorem zd_X2_workIn_80 : decode cX2_workIn 80 = .ok (.getfield 15, 3) := by decide +kernel
theorem zd_X2_workIn_83 : decode cX2_workIn 83 = .ok (.iload 4, 2) := by decide +kernel
theorem zd_X2_workIn_85 : decode cX2_workIn 85 = .ok (.iaload, 1) := by decide +kernel
theorem zd_X2_workIn_86 : decode cX2_workIn 86 = .ok (.iconst 2, 1) := by decide +kernel
theorem zd_X2_workIn_87 : decode cX2_workIn 87 = .ok (.if_icmp .ne 27, 3) := by decide +kernel
theorem zd_X2_workIn_90 : decode cX2_workIn 90 = .ok (.aload_n 3, 1) := by decide +kernel
theorem zd_X2_workIn_91 : decode cX2_workIn 91 = .ok (.getfield 45, 3) := by decide +kernel
theorem zd_X2_workIn_94 : decode cX2_workIn 94 = .ok (.iload 5, 2) := by decide +kernel
theorem zd_X2_workIn_96 : decode cX2_workIn 96 = .ok (.iconst 0, 1) := by decide +kernel
theorem zd_X2_workIn_97 : decode cX2_workIn 97 = .ok (.iload 6, 2) := by decide +kernel
theorem zd_X2_workIn_99 : decode cX2_workIn 99 = .ok (.aload_n 0, 1) := by decide +kernel
theorem zd_X2_workIn_100 : decode cX2_workIn 100 = .ok (.getfield 24, 3) := by decide +kernel
theorem zd_X2_workIn_103 : decode cX2_workIn 103 = .ok (.iload 4, 2) := by decide +kernel
theorem zd_X2_workIn_105 : decode cX2_workIn 105 = .ok (.iaload, 1) := by decide +kernel
theorem zd_X2_workIn_106 : decode cX2_workIn 106 = .ok (.isub, 1) := by decide +kernel
theorem zd_X2_workIn_107 : decode cX2_workIn 107 = .ok (.invokestatic 50, 3) := by decide +kernel
theorem zd_X2_workIn_110 : decode cX2_workIn 110 = .ok (.iastore, 1) := by decide +kernel
theorem zd_X2_workIn_111 : decode cX2_workIn 111 = .ok (.goto 33, 3) := by decide +kernel
theorem zd_X2_workIn_114 : decode cX2_workIn 114 = .ok (.aload_n 0, 1) := by decide +kernel
theorem zd_X2_workIn_115 : decode cX2_workIn 115 = .ok (.getfield 15, 3) := by decide +kernel
theorem zd_X2_workIn_118 : decode cX2_workIn 118 = .ok (.iload 4, 2) := by decide +kernel
theorem zd_X2_workIn_120 : decode cX2_workIn 120 = .ok (.iaload, 1) := by decide +kernel
theorem zd_X2_workIn_121 : decode cX2_workIn 121 = .ok (.iconst 3, 1) := by decide +kernel
theorem zd_X2_workIn_122 : decode cX2_workIn 122 = .ok (.if_icmp .ne 22, 3) := by decide +kernel
theorem zd_X2_workIn_125 : decode cX2_workIn 125 = .ok (.aload_n 3, 1) := by decide +kernel
theorem zd_X2_workIn_126 : decode cX2_workIn 126 = .ok (.getfield 45, 3) := by decide +kernel
theorem zd_X2_workIn_129 : decode cX2_workIn 129 = .ok (.iload 5, 2) := by decide +kernel
theorem zd_X2_workIn_131 : decode cX2_workIn 131 = .ok (.iload 6, 2) := by decide +kernel
theorem zd_X2_workIn_133 : decode cX2_workIn 133 = .ok (.aload_n 0, 1) := by decide +kernel
theorem zd_X2_workIn_134 : decode cX2_workIn 134 = .ok (.getfield 24, 3) := by decide +kernel
theorem zd_X2_workIn_137 : decode cX2_workIn 137 = .ok (.iload 4, 2) := by decide +kernel
theorem zd_X2_workIn_139 : decode cX2_workIn 139 = .ok (.iaload, 1) := by decide +kernel
theorem zd_X2_workIn_140 : decode cX2_workIn 140 = .ok (.invokestatic 55, 3) := by decide +kernel
theorem zd_X2_workIn_143 : decode cX2_workIn 143 = .ok (.iastore, 1) := by decide +kernel
theorem zd_X2_workIn_144 : decode cX2_workIn 144 = .ok (.iinc 4 1, 3) := by decide +kernel
theorem zd_X2_workIn_147 : decode cX2_workIn 147 = .ok (.goto (-137), 3) := by decide +kernel
theorem zd_X2_workIn_150 : decode cX2_workIn 150 = .ok (.return_, 1) := by decide +kernel
def zb_X2_workIn_0 (K : zKt) (J : Nat → zPP) : zPP := zT_ald 0 (zT_ild 1 (zT_ald 2 (zT_ald 3 (zT_V3 zok 2 6 zc_X2_dykesIn (zT_push (.int 0) (zT_ist 4 (J 10)))))))
theorem zbs_X2_workIn_0 {X : zCt} (hR : zRX X = { frames := 2, cells := 0, slots := 0, locals := 47 }) (J : Nat → zPP) (hJ : ∀ h ∈ ([10] : List Nat), zSd X RX2 "workIn" cX2_workIn 7 none h (J h)) : zSd X RX2 "workIn" cX2_workIn 7 none 0 (zb_X2_workIn_0 (zKX X) J) := zs_aload_n zd_X2_workIn_0 rfl (zs_iload_n zd_X2_workIn_1 rfl (zs_aload_n zd_X2_workIn_2 rfl (zs_aload_n zd_X2_workIn_3 rfl (zs_V (ci := 2) rfl rfl (zm_X2_dykesIn _ _ _) gw_2_194 gw_2_201 gw_2_192 gw_2_193 gw_1_6 zdn_X2_dykesIn (zrm hR (by decide) (by decide)) zd_X2_workIn_4 (zCl_V3 zok_l) (zs_iconst zd_X2_workIn_7 (by decide) (zs_istore zd_X2_workIn_8 (by decide) (hJ 10 (by decide))))))))
def zb_X2_workIn_144 (K : zKt) (J : Nat → zPP) : zPP := zT_iinc 4 1 (J 10)
theorem zbs_X2_workIn_144 {X : zCt} (hR : zRX X = { frames := 2, cells := 0, slots := 0, locals := 47 }) (J : Nat → zPP) (hJ : ∀ h ∈ ([10] : List Nat), zSd X RX2 "workIn" cX2_workIn 7 none h (J h)) : zSd X RX2 "workIn" cX2_workIn 7 none 144 (zb_X2_workIn_144 (zKX X) J) := zs_iinc zd_X2_workIn_144 (by decide) (by decide) (zs_goto (tgt := 10) zd_X2_workIn_147 (by decide) (hJ 10 (by decide)))
def zb_X2_workIn_10 (K : zKt) (J : Nat → zPP) : zPP := zT_ild 4 (zT_ald 0 (zT_getI 2 5 6 (zT_if2 (fun x y => y ≤ x) (zT_vret K) (zT_ald 0 (zT_getR 2 0 6 (zT_ild 4 (zT_ald0 0 (zT_ild 1 (zT_if2 (fun x y => x = y) (zT_ald 2 (zT_ald 0 (zT_getR 2 2 6 (zT_ild 4 (zT_ald0 0 (zT_ald 0 (zT_getR 2 3 6 (zT_ild 4 (zT_ald0 0 (zT_V2 zok 1 6 zc_X1_has (zT_if1 (fun x => x = 0) (zb_X2_workIn_144 K J) (zT_ald 0 (zT_getR 2 2 6 (zT_ild 4 (zT_ald0 0 (zT_ald 0 (zT_getR 2 3 6 (zT_ild 4 (zT_ald0 0 (zT_S2 zok zc_X7_cellAt (zT_ist 5 (zT_ald 3 (zT_getR 5 0 11 (zT_ild 5 (zT_ald0 0 (zT_ist 6 (zT_ald 0 (zT_getR 2 1 6 (zT_ild 4 (zT_ald0 0 (zT_push (.int 2) (zT_if2 (fun x y => x = y) (zT_ald 3 (zT_getR 5 0 11 (zT_ild 5 (zT_push (.int 0) (zT_ild 6 (zT_ald 0 (zT_getR 2 4 6 (zT_ild 4 (zT_ald0 0 (zT_bin (fun x y => x - y) (zT_mm (fun x y => if x < y then y else x) (zT_iast (zb_X2_workIn_144 K J))))))))))))) (zT_ald 0 (zT_getR 2 1 6 (zT_ild 4 (zT_ald0 0 (zT_push (.int 3) (zT_if2 (fun x y => x = y) (zT_ald 3 (zT_getR 5 0 11 (zT_ild 5 (zT_ild 6 (zT_ald 0 (zT_getR 2 4 6 (zT_ild 4 (zT_ald0 0 (zT_mm (fun x y => if y < x then y else x) (zT_iast (zb_X2_workIn_144 K J))))))))))) (zb_X2_workIn_144 K J))))))))))))))))))))))))))))))))))))))) (zb_X2_workIn_144 K J))))))))))
theorem zbs_X2_workIn_10 {X : zCt} (hR : zRX X = { frames := 2, cells := 0, slots := 0, locals := 47 }) (J : Nat → zPP) (hJ : ∀ h ∈ ([10] : List Nat), zSd X RX2 "workIn" cX2_workIn 7 none h (J h)) : zSd X RX2 "workIn" cX2_workIn 7 none 10 (zb_X2_workIn_10 (zKX X) J) := zs_iload zd_X2_workIn_10 (zs_aload_n zd_X2_workIn_12 rfl (zs_getI (ci := 2) (j := 5) (T := TX2) rfl inX2 (by decide) gw_1_170 rfl zd_X2_workIn_13 (zs_icmp_ge (tgt := 150) zd_X2_workIn_16 (by decide) (zs_vret rfl zd_X2_workIn_150) (zs_aload_n zd_X2_workIn_19 rfl (zs_getR (ci := 2) (j := 0) (T := TX2) rfl inX2 (by decide) gw_1_159 rfl zd_X2_workIn_20 (zs_iload zd_X2_workIn_23 (zs_iald zd_X2_workIn_25 (zs_iload_n zd_X2_workIn_26 rfl (zs_icmp_ne (tgt := 144) zd_X2_workIn_27 (by decide) (zbs_X2_workIn_144 hR J hJ) (zs_aload_n zd_X2_workIn_30 rfl (zs_aload_n zd_X2_workIn_31 rfl (zs_getR (ci := 2) (j := 2) (T := TX2) rfl inX2 (by decide) gw_1_163 rfl zd_X2_workIn_32 (zs_iload zd_X2_workIn_35 (zs_iald zd_X2_workIn_37 (zs_aload_n zd_X2_workIn_38 rfl (zs_getR (ci := 2) (j := 3) (T := TX2) rfl inX2 (by decide) gw_1_165 rfl zd_X2_workIn_39 (zs_iload zd_X2_workIn_42 (zs_iald zd_X2_workIn_44 (zs_V (ci := 1) rfl rfl (zm_X1_has _ _ _) gw_2_0 gw_2_195 gw_1_238 gw_1_239 gw_1_2 zdn_X1_has (zrm hR (by decide) (by decide)) zd_X2_workIn_45 (zCl_V2 zok_l) (zs_if_eq (tgt := 144) zd_X2_workIn_48 (by decide) (zbs_X2_workIn_144 hR J hJ) (zs_aload_n zd_X2_workIn_51 rfl (zs_getR (ci := 2) (j := 2) (T := TX2) rfl inX2 (by decide) gw_1_163 rfl zd_X2_workIn_52 (zs_iload zd_X2_workIn_55 (zs_iald zd_X2_workIn_57 (zs_aload_n zd_X2_workIn_58 rfl (zs_getR (ci := 2) (j := 3) (T := TX2) rfl inX2 (by decide) gw_1_165 rfl zd_X2_workIn_59 (zs_iload zd_X2_workIn_62 (zs_iald zd_X2_workIn_64 (zs_SN (zm_X7_cellAt _ _ _) gw_2_7 (List.mem_of_getElem? (i := 7) rfl) gw_2_6 gw_1_1 zdn_X7_cellAt (zrm hR (by decide) (by decide)) zd_X2_workIn_65 (zCl_S2 zok_l) (zs_istore zd_X2_workIn_68 (by decide) (zs_aload_n zd_X2_workIn_70 rfl (zs_getR (ci := 5) (j := 0) (T := TX5) rfl inX5 (by decide) gw_1_112 rfl zd_X2_workIn_71 (zs_iload zd_X2_workIn_74 (zs_iald zd_X2_workIn_76 (zs_istore zd_X2_workIn_77 (by decide) (zs_aload_n zd_X2_workIn_79 rfl (zs_getR (ci := 2) (j := 1) (T := TX2) rfl inX2 (by decide) gw_1_161 rfl zd_X2_workIn_80 (zs_iload zd_X2_workIn_83 (zs_iald zd_X2_workIn_85 (zs_iconst zd_X2_workIn_86 (by decide) (zs_icmp_ne (tgt := 114) zd_X2_workIn_87 (by decide) (zs_aload_n zd_X2_workIn_114 rfl (zs_getR (ci := 2) (j := 1) (T := TX2) rfl inX2 (by decide) gw_1_161 rfl zd_X2_workIn_115 (zs_iload zd_X2_workIn_118 (zs_iald zd_X2_workIn_120 (zs_iconst zd_X2_workIn_121 (by decide) (zs_icmp_ne (tgt := 144) zd_X2_workIn_122 (by decide) (zbs_X2_workIn_144 hR J hJ) (zs_aload_n zd_X2_workIn_125 rfl (zs_getR (ci := 5) (j := 0) (T := TX5) rfl inX5 (by decide) gw_1_112 rfl zd_X2_workIn_126 (zs_iload zd_X2_workIn_129 (zs_iload zd_X2_workIn_131 (zs_aload_n zd_X2_workIn_133 rfl (zs_getR (ci := 2) (j := 4) (T := TX2) rfl inX2 (by decide) gw_1_167 rfl zd_X2_workIn_134 (zs_iload zd_X2_workIn_137 (zs_iald zd_X2_workIn_139 (zs_min gw_2_205 gw_2_135 gw_1_13 gw_2_136 (zrm1 hR (by decide) (by decide)) zd_X2_workIn_140 (zs_iast zd_X2_workIn_143 (zbs_X2_workIn_144 hR J hJ))))))))))))))))) (zs_aload_n zd_X2_workIn_90 rfl (zs_getR (ci := 5) (j := 0) (T := TX5) rfl inX5 (by decide) gw_1_112 rfl zd_X2_workIn_91 (zs_iload zd_X2_workIn_94 (zs_iconst zd_X2_workIn_96 (by decide) (zs_iload zd_X2_workIn_97 (zs_aload_n zd_X2_workIn_99 rfl (zs_getR (ci := 2) (j := 4) (T := TX2) rfl inX2 (by decide) gw_1_167 rfl zd_X2_workIn_100 (zs_iload zd_X2_workIn_103 (zs_iald zd_X2_workIn_105 (zs_isub zd_X2_workIn_106 (zs_max gw_2_202 gw_2_203 gw_1_13 gw_2_204 (zrm1 hR (by decide) (by decide)) zd_X2_workIn_107 (zs_iast zd_X2_workIn_110 (zs_goto (tgt := 144) zd_X2_workIn_111 (by decide) (zbs_X2_workIn_144 hR J hJ)))))))))))))))))))))))))))))))))))))))))))))))))))))))
def zB_X2_workIn (K : zKt) (J : Nat → zPP) (h : Nat) : zPP := if h = 10 then zb_X2_workIn_10 K J else (fun _ _ _ => False)
theorem zBs_X2_workIn {X : zCt} (hR : zRX X = { frames := 2, cells := 0, slots := 0, locals := 47 }) : ∀ J : Nat → zPP, (∀ h ∈ ([10] : List Nat), zSd X RX2 "workIn" cX2_workIn 7 none h (J h)) → ∀ h ∈ ([10] : List Nat), zSd X RX2 "workIn" cX2_workIn 7 none h (zB_X2_workIn (zKX X) J h) := by
  intro J hJ h hh
  unfold zB_X2_workIn
  simp only [List.mem_cons, List.not_mem_nil, or_false] at hh
  subst hh
  exact zbs_X2_workIn_10 hR J hJ
theorem zdn_X2_workIn : yX2_workIn.cls ≠ "java/lang/invoke/MethodHandle" ∧ yX2_workIn.cls ≠ "java/lang/invoke/VarHandle" ∧ (parseMethodDescriptor yX2_workIn.desc).map (fun d => d.parameters.length) = some 3 := by decide +kernel
theorem whk_le {w h n : Nat} : ∀ {acts : List wAc} {H : Nat → Nat}, (∀ e, H e ≤ 200) → ∀ e, whk w h n acts H e ≤ 200
  | [], H, hH, e => hH e
  | a :: l, H, hH, e => by
    refine whk_le (acts := l) (fun e => ?_) e
    unfold whk1
    split
    · split
      · rw [zup_at]; have := hH (wao a * 12 + wax a); have := hH e; split <;> omega
      · split
        · rw [zup_at]; have := hH (wao a * 12 + wax a); have := hH e; split
          · split <;> omega
          · omega
        · exact hH e
    · exact hH e
def zc_X2_workIn (a : List Value) (M : zMm) (K : zKt) : Prop := match a with
  | [.ref pk, .int x, .ref k, .ref k'] => k = 1 ∧ k' = 10 ∧ zxw M ∧ ∃ n w h acts D H, x = nI n ∧ n ≤ 30 ∧ zwh M w h ∧ zpl M pk acts ∧ zdy M D ∧ zhg M H ∧ ∀ M', zsm [11, 12] M M' → zdy M' (wdk w h n acts D) → zhg M' (whk w h n acts H) → K none M'
  | _ => False
set_option maxHeartbeats 2000000 in
theorem zm_X2_workIn (l : Launch) (D : va_G) (Y : Nat → ClassId) : zMt l D Y yX2_workIn cX2_workIn 7 none 2 47 0 0 zc_X2_workIn := by
  refine zwhile1 (h0 := 10) (by decide) (fun K J _ _ => zb_X2_workIn_0 K J) (fun K _ _ J => zb_X2_workIn_10 K J) (fun X hR J hJ => zbs_X2_workIn_0 hR J hJ) (fun X hR J hJ => zbs_X2_workIn_10 hR J hJ) (fun avs M K h => ?_)
  unfold zc_X2_workIn at h
  split at h
  · next pk x k k' =>
    obtain ⟨rfl, rfl, hx, n, w, h', acts, D, H, rfl, hn, hwh, hpl, hdy, hhg, h⟩ := h
    obtain ⟨s0, s1, s2, s3, s4, s5⟩ := zpl_sh hpl.1
    have hl20 := hpl.2.2.2.2.2.2.2.1
    refine ⟨by simp [zent], fun q M' ls st => ∃ i o1 o2, q = 20 - i ∧ i ≤ acts.length ∧ ls = [some (.ref pk), some (.int (nI n)), some (.ref 1), some (.ref 10), some (.int (nI i)), o1, o2] ∧ st = [] ∧ zsm [11, 12] M M' ∧ zdy M' (wdk w h' n acts D) ∧ zhg M' (whk w h' n (acts.take i) H), ?_, ?_⟩
    · rintro q J hJ M' ls st ⟨i, o1, o2, rfl, hi, rfl, rfl, hs, hd, hhi⟩
      obtain ⟨x0, x1, x2, x3, x4, x5, x6, x7, x8⟩ := hx.to hs
      obtain ⟨hp0, r0, r1, r2, r3, r4, ht, -, hacts⟩ := hpl.to hs (by simp)
      have h1 : M'.2.1 1 = M.2.1 1 := hs.2.2 1 (by simp)
      obtain ⟨w1, w2, w3, w4⟩ := hwh
      simp only [zb_X2_workIn_10, s0, s1, s2, s3, s4, s5, r0, r1, r2, r3, r4, ht, x0, zsh_10, zsh_11, zT_push, zT_bin, zT_div, zT_bil, zT_shl, zT_un, zT_i2l, zT_l2i, zT_lcmp, zT_ild, zT_lld, zT_ald, zT_ist, zT_lst, zT_ast, zT_iinc, zT_dup, zT_dup2, zT_pop, zT_if1, zT_if2, zT_ifn, zT_getI, zT_getJ, zT_getR, zT_putI, zT_putZ, zT_putJ, zT_putR, zT_ald0, zT_lald, zT_aald, zT_iast, zT_zast, zT_bast, zT_last, zT_aast, zT_iret, zT_nret, zT_aret, zT_vret, zT_oi, zT_mm, zT_ialX, zT_S1, zT_S2, zT_S3, zT_V0, zT_V1, zT_V2, zT_V3, zT_V4, zT_V5, zT_V6, zT_I0, zT_I1, zT_I2, zlg, zlset, zlpr, zent, zok, va_rf, List.length_cons, List.length_nil, List.replicate, List.cons_append, List.nil_append, List.append_nil, Option.toList_some, Option.toList_none, Option.toList, Nat.reduceAdd, Nat.reduceSub, Nat.reduceLeDiff, Nat.zero_add, Nat.zero_le, true_and, and_true, Nat.le_refl, ge_iff_le, Nat.reduceEqDiff]
      refine ⟨fun h2 => ?_, fun h2 => ?_⟩
      · have := zn_ge' h2 (by omega) (by omega)
        have e : i = acts.length := by omega
        subst e
        rw [List.take_length] at hhi
        exact h M' hs hd hhi
      · have hlt := zn_ge h2 (by omega) (by omega)
        obtain ⟨a, ha, htk⟩ := wab_get hlt
        obtain ⟨⟨k1, k2, k3, k4, k5⟩, a1, a2, a3, a4, a5⟩ := hacts i a ha
        have hnext : whk w h' n (acts.take (i + 1)) H = whk1 w h' n (whk w h' n (acts.take i) H) a := by
          unfold whk
          rw [htk, List.foldl_append]
          rfl
        have skip : ∀ M2 o1 o2, zsm [11, 12] M M2 → zdy M2 (wdk w h' n acts D) → zhg M2 (whk1 w h' n (whk w h' n (acts.take i) H) a) → zb_X2_workIn_144 K J M2 [some (.ref pk), some (.int (nI n)), some (.ref 1), some (.ref 10), some (.int (nI i)), o1, o2] [] := by
          intro M2 o1 o2 hs2 hd2 hh2
          simp only [zb_X2_workIn_144, zT_push, zT_bin, zT_div, zT_bil, zT_shl, zT_un, zT_i2l, zT_l2i, zT_lcmp, zT_ild, zT_lld, zT_ald, zT_ist, zT_lst, zT_ast, zT_iinc, zT_dup, zT_dup2, zT_pop, zT_if1, zT_if2, zT_ifn, zT_getI, zT_getJ, zT_getR, zT_putI, zT_putZ, zT_putJ, zT_putR, zT_ald0, zT_lald, zT_aald, zT_iast, zT_zast, zT_bast, zT_last, zT_aast, zT_iret, zT_nret, zT_aret, zT_vret, zT_oi, zT_mm, zT_ialX, zT_S1, zT_S2, zT_S3, zT_V0, zT_V1, zT_V2, zT_V3, zT_V4, zT_V5, zT_V6, zT_I0, zT_I1, zT_I2, zlg, zlset, zlpr, zent, zok, va_rf, List.length_cons, List.length_nil, List.replicate, List.cons_append, List.nil_append, List.append_nil, Option.toList_some, Option.toList_none, Option.toList, Nat.reduceAdd, Nat.reduceSub, Nat.reduceLeDiff, Nat.zero_add, Nat.zero_le, true_and, and_true, Nat.le_refl, ge_iff_le, Nat.reduceEqDiff]
          exact hJ (20 - (i + 1)) _ _ _ (by omega) ⟨i + 1, o1, o2, rfl, hlt, by rw [nI_1], rfl, hs2, hd2, by rw [hnext]; exact hh2⟩
        have hin : vp_in (nI i) 20 := vp_in_nI (by omega) (by decide)
        rw [nI_clamp (by omega), a1, a3, a4]
        unfold zc_X1_has
        dsimp only
        rw [h1, w1, w2]
        refine ⟨hin, fun h3 => ⟨hin, hin, rfl, ?_⟩, fun h3 => ?_⟩
        · have e3 := (nI_eq (by omega) (by omega)).mp h3
          simp only [zbI_0, whas w3 w4 k3 k4, s0, s1, s2, s3, s4, s5, r0, r1, r2, r3, r4, x0, zsh_10, zsh_11, zT_push, zT_bin, zT_div, zT_bil, zT_shl, zT_un, zT_i2l, zT_l2i, zT_lcmp, zT_ild, zT_lld, zT_ald, zT_ist, zT_lst, zT_ast, zT_iinc, zT_dup, zT_dup2, zT_pop, zT_if1, zT_if2, zT_ifn, zT_getI, zT_getJ, zT_getR, zT_putI, zT_putZ, zT_putJ, zT_putR, zT_ald0, zT_lald, zT_aald, zT_iast, zT_zast, zT_bast, zT_last, zT_aast, zT_iret, zT_nret, zT_aret, zT_vret, zT_oi, zT_mm, zT_ialX, zT_S1, zT_S2, zT_S3, zT_V0, zT_V1, zT_V2, zT_V3, zT_V4, zT_V5, zT_V6, zT_I0, zT_I1, zT_I2, zlg, zlset, zlpr, zent, zok, va_rf, List.length_cons, List.length_nil, List.replicate, List.cons_append, List.nil_append, List.append_nil, Option.toList_some, Option.toList_none, Option.toList, Nat.reduceAdd, Nat.reduceSub, Nat.reduceLeDiff, Nat.zero_add, Nat.zero_le, true_and, and_true, Nat.le_refl, ge_iff_le, Nat.reduceEqDiff]
          rw [nI_clamp (by omega), a3, a4]
          refine ⟨fun h4 => skip M' _ _ hs hd ?_, fun h4 => ⟨hin, hin, ?_⟩⟩
          · unfold whk1 wao?
            rw [if_neg (by simp only [decide_eq_true_eq]; exact fun z => h4 z.2)]
            exact hhi
          · have h5 := Classical.not_not.mp h4
            have hon : wao? w h' n a = true := by
              unfold wao?
              rw [decide_eq_true_eq]
              exact ⟨e3, h5⟩
            have hc : wao a * 12 + wax a < 120 := by omega
            unfold zc_X7_cellAt
            dsimp only
            simp only [s0, s2, s5, r1, r4, x0, zsh_10, zsh_11, wcell, zT_push, zT_bin, zT_div, zT_bil, zT_shl, zT_un, zT_i2l, zT_l2i, zT_lcmp, zT_ild, zT_lld, zT_ald, zT_ist, zT_lst, zT_ast, zT_iinc, zT_dup, zT_dup2, zT_pop, zT_if1, zT_if2, zT_ifn, zT_getI, zT_getJ, zT_getR, zT_putI, zT_putZ, zT_putJ, zT_putR, zT_ald0, zT_lald, zT_aald, zT_iast, zT_zast, zT_bast, zT_last, zT_aast, zT_iret, zT_nret, zT_aret, zT_vret, zT_oi, zT_mm, zT_ialX, zT_S1, zT_S2, zT_S3, zT_V0, zT_V1, zT_V2, zT_V3, zT_V4, zT_V5, zT_V6, zT_I0, zT_I1, zT_I2, zlg, zlset, zlpr, zent, zok, va_rf, List.length_cons, List.length_nil, List.replicate, List.cons_append, List.nil_append, List.append_nil, Option.toList_some, Option.toList_none, Option.toList, Nat.reduceAdd, Nat.reduceSub, Nat.reduceLeDiff, Nat.zero_add, Nat.zero_le, true_and, and_true, Nat.le_refl, ge_iff_le, Nat.reduceEqDiff]
            obtain ⟨hcur, hcur2⟩ := hhi _ hc
            rw [nI_clamp (n := wao a * 12 + wax a) (by omega), nI_clamp (n := i) (by omega), a2, hcur]
            have hst : ∀ v g, v = nI g → g ≤ 200 → zhg (zwI M' 11 (wao a * 12 + wax a) v) (va_up (whk w h' n (acts.take i) H) (wao a * 12 + wax a) g) := by
              intro v g hv hg e he
              simp only [zwI_L, zwI_I, zwI_J, zwI_R, zwJ_L, zwJ_I, zwJ_J, zwJ_R, zwR_L, zwR_I, zwR_J, zwR_R, zw2_s, zw2_n, ne_eq, not_false_eq_true, reduceCtorEq, not_true_eq_false, Nat.reduceEqDiff]
              by_cases q : e = wao a * 12 + wax a
              · rw [q, zup_s, zup_s, hv]; exact ⟨rfl, hg⟩
              · rw [zup_n q, zup_n q]; exact hhi e he
            have hdw : ∀ v, zdy (zwI M' 11 (wao a * 12 + wax a) v) (wdk w h' n acts D) := by
              intro v e he
              simp only [zwI_L, zwI_I, zwI_J, zwI_R, zwJ_L, zwJ_I, zwJ_J, zwJ_R, zwR_L, zwR_I, zwR_J, zwR_R, zw2_s, zw2_n, ne_eq, not_false_eq_true, reduceCtorEq, not_true_eq_false, Nat.reduceEqDiff]
              exact hd e he
            have hinc : vp_in (nI (wao a * 12 + wax a)) 120 := vp_in_nI hc (by decide)
            refine ⟨hinc, hin, fun h6 => ⟨hin, hinc, ?_⟩, fun h6 => ⟨hin, fun h7 => ⟨hin, hinc, ?_⟩, fun h7 => skip M' _ _ hs hd ?_⟩⟩
            · have e6 := (nI_eq (b := 2) (by omega) (by omega)).mp h6
              rw [a5 (by omega)]
              refine skip _ _ _ (hs.w (by simp)) (hdw _) ?_
              unfold whk1
              rw [if_pos hon, if_pos e6]
              refine hst _ _ ?_ (by omega)
              generalize whk w h' n (acts.take i) H (wao a * 12 + wax a) = g at hcur hcur2
              by_cases hq : wab a ≤ g
              · rw [pk_sub hq, show (0 : Int32) = nI 0 from rfl]
                by_cases h0 : 0 < g - wab a
                · rw [if_pos ((nI_ltI (a := 0) (by omega) (by omega)).mpr h0)]
                · rw [if_neg (fun z => h0 ((nI_ltI (a := 0) (by omega) (by omega)).mp z)), show g - wab a = 0 from by omega]
              · rw [if_neg (fun z => ?_), show g - wab a = 0 from by omega]
                · rfl
                · have := pk_sneg (a := g) (b := wab a) (by omega) (by omega)
                  exact Int32.lt_irrefl (Int32.lt_trans this z)
            · have e6 : ¬ wak a = 2 := fun z => h6 (by rw [z]; rfl)
              have e7 := (nI_eq (b := 3) (by omega) (by omega)).mp h7
              rw [a5 (by omega)]
              refine skip _ _ _ (hs.w (by simp)) (hdw _) ?_
              unfold whk1
              rw [if_pos hon, if_neg e6, if_pos e7]
              refine hst _ _ (zmin_n (by omega) (by omega)) (by split <;> omega)
            · have e6 : ¬ wak a = 2 := fun z => h6 (by rw [z]; rfl)
              have e7 : ¬ wak a = 3 := fun z => h7 (by rw [z]; rfl)
              unfold whk1
              rw [if_pos hon, if_neg e6, if_neg e7]
              exact hhi
        · refine skip M' _ _ hs hd ?_
          unfold whk1 wao?
          rw [if_neg (by simp only [decide_eq_true_eq]; exact fun z => h3 (by rw [z.1]))]
          exact hhi
    · intro J hJ
      simp only [zb_X2_workIn_0, s0, zT_push, zT_bin, zT_div, zT_bil, zT_shl, zT_un, zT_i2l, zT_l2i, zT_lcmp, zT_ild, zT_lld, zT_ald, zT_ist, zT_lst, zT_ast, zT_iinc, zT_dup, zT_dup2, zT_pop, zT_if1, zT_if2, zT_ifn, zT_getI, zT_getJ, zT_getR, zT_putI, zT_putZ, zT_putJ, zT_putR, zT_ald0, zT_lald, zT_aald, zT_iast, zT_zast, zT_bast, zT_last, zT_aast, zT_iret, zT_nret, zT_aret, zT_vret, zT_oi, zT_mm, zT_ialX, zT_S1, zT_S2, zT_S3, zT_V0, zT_V1, zT_V2, zT_V3, zT_V4, zT_V5, zT_V6, zT_I0, zT_I1, zT_I2, zlg, zlset, zlpr, zent, zok, va_rf, List.length_cons, List.length_nil, List.replicate, List.cons_append, List.nil_append, List.append_nil, Option.toList_some, Option.toList_none, Option.toList, Nat.reduceAdd, Nat.reduceSub, Nat.reduceLeDiff, Nat.zero_add, Nat.zero_le, true_and, and_true, Nat.le_refl, ge_iff_le, Nat.reduceEqDiff]
      unfold zc_X2_dykesIn
      dsimp only
      refine ⟨rfl, rfl, hx, n, w, h', acts, D, rfl, hn, hwh, hpl, hdy, fun M1 hs1 hd1 => ?_⟩
      refine hJ 20 _ _ _ ⟨0, none, none, rfl, Nat.zero_le _, rfl, rfl, hs1.up (by simp), hd1, ?_⟩
      intro e he
      rw [hs1.2.2 11 (by simp)]
      exact hhg e he
  · exact h.elim
