/-! DeltaRunsModel isWord -/
theorem zd_X8_isWord_0 : decode cX8_isWord 0 = .ok (.iload_n 1, 1) := by decide +kernel
theorem zd_X8_isWord_1 : decode cX8_isWord 1 = .ok (.i2l, 1) := by decide +kernel
theorem zd_X8_isWord_2 : decode cX8_isWord 2 = .ok (.ldc2_w 156, 3) := by decide +kernel
theorem zd_X8_isWord_5 : decode cX8_isWord 5 = .ok (.lsub, 1) := by decide +kernel
theorem zd_X8_isWord_6 : decode cX8_isWord 6 = .ok (.ldc2_w 154, 3) := by decide +kernel
theorem zd_X8_isWord_9 : decode cX8_isWord 9 = .ok (.lmul, 1) := by decide +kernel
theorem zd_X8_isWord_10 : decode cX8_isWord 10 = .ok (.iload_n 2, 1) := by decide +kernel
theorem zd_X8_isWord_11 : decode cX8_isWord 11 = .ok (.i2l, 1) := by decide +kernel
theorem zd_X8_isWord_12 : decode cX8_isWord 12 = .ok (.ladd, 1) := by decide +kernel
theorem zd_X8_isWord_13 : decode cX8_isWord 13 = .ok (.ldc2_w 156, 3) := by decide +kernel
theorem zd_X8_isWord_16 : decode cX8_isWord 16 = .ok (.lsub, 1) := by decide +kernel
theorem zd_X8_isWord_17 : decode cX8_isWord 17 = .ok (.lstore 7, 2) := by decide +kernel
theorem zd_X8_isWord_19 : decode cX8_isWord 19 = .ok (.iload_n 3, 1) := by decide +kernel
theorem zd_X8_isWord_20 : decode cX8_isWord 20 = .ok (.ifCond .ne 8, 3) := by decide +kernel
theorem zd_X8_isWord_23 : decode cX8_isWord 23 = .ok (.lload 7, 2) := by decide +kernel
theorem zd_X8_isWord_25 : decode cX8_isWord 25 = .ok (.goto 16, 3) := by decide +kernel
theorem zd_X8_isWord_28 : decode cX8_isWord 28 = .ok (.lload 7, 2) := by decide +kernel
theorem zd_X8_isWord_30 : decode cX8_isWord 30 = .ok (.ldc2_w 154, 3) := by decide +kernel
theorem zd_X8_isWord_33 : decode cX8_isWord 33 = .ok (.lmul, 1) := by decide +kernel
theorem zd_X8_isWord_34 : decode cX8_isWord 34 = .ok (.iload_n 3, 1) := by decide +kernel
theorem zd_X8_isWord_35 : decode cX8_isWord 35 = .ok (.i2l, 1) := by decide +kernel
theorem zd_X8_isWord_36 : decode cX8_isWord 36 = .ok (.ladd, 1) := by decide +kernel
theorem zd_X8_isWord_37 : decode cX8_isWord 37 = .ok (.ldc2_w 156, 3) := by decide +kernel
theorem zd_X8_isWord_40 : decode cX8_isWord 40 = .ok (.lsub, 1) := by decide +kernel
theorem zd_X8_isWord_41 : decode cX8_isWord 41 = .ok (.lstore 7, 2) := by decide +kernel
theorem zd_X8_isWord_43 : decode cX8_isWord 43 = .ok (.iload 4, 2) := by decide +kernel
theorem zd_X8_isWord_45 : decode cX8_isWord 45 = .ok (.ifCond .ne 8, 3) := by decide +kernel
theorem zd_X8_isWord_48 : decode cX8_isWord 48 = .ok (.lload 7, 2) := by decide +kernel
theorem zd_X8_isWord_50 : decode cX8_isWord 50 = .ok (.goto 17, 3) := by decide +kernel
theorem zd_X8_isWord_53 : decode cX8_isWord 53 = .ok (.lload 7, 2) := by decide +kernel
theorem zd_X8_isWord_55 : decode cX8_isWord 55 = .ok (.ldc2_w 154, 3) := by decide +kernel
theorem zd_X8_isWord_58 : decode cX8_isWord 58 = .ok (.lmul, 1) := by decide +kernel
theorem zd_X8_isWord_59 : decode cX8_isWord 59 = .ok (.iload 4, 2) := by decide +kernel
theorem zd_X8_isWord_61 : decode cX8_isWord 61 = .ok (.i2l, 1) := by decide +kernel
theorem zd_X8_isWord_62 : decode cX8_isWord 62 = .ok (.ladd, 1) := by decide +kernel
theorem zd_X8_isWord_63 : decode cX8_isWord 63 = .ok (.ldc2_w 156, 3) := by decide +kernel
theorem zd_X8_isWord_66 : decode cX8_isWord 66 = .ok (.lsub, 1) := by decide +kernel
theorem zd_X8_isWord_67 : decode cX8_isWord 67 = .ok (.lstore 7, 2) := by decide +kernel
theorem zd_X8_isWord_69 : decode cX8_isWord 69 = .ok (.iload 5, 2) := by decide +kernel
theorem zd_X8_isWord_71 : decode cX8_isWord 71 = .ok (.ifCond .ne 8, 3) := by decide +kernel
theorem zd_X8_isWord_74 : decode cX8_isWord 74 = .ok (.lload 7, 2) := by decide +kernel
theorem zd_X8_isWord_76 : decode cX8_isWord 76 = .ok (.goto 17, 3) := by decide +kernel
theorem zd_X8_isWord_79 : decode cX8_isWord 79 = .ok (.lload 7, 2) := by decide +kernel
theorem zd_X8_isWord_81 : decode cX8_isWord 81 = .ok (.ldc2_w 154, 3) := by decide +kernel
theorem zd_X8_isWord_84 : decode cX8_isWord 84 = .ok (.lmul, 1) := by decide +kernel
theorem zd_X8_isWord_85 : decode cX8_isWord 85 = .ok (.iload 5, 2) := by decide +kernel
theorem zd_X8_isWord_87 : decode cX8_isWord 87 = .ok (.i2l, 1) := by decide +kernel
theorem zd_X8_isWord_88 : decode cX8_isWord 88 = .ok (.ladd, 1) := by decide +kernel
theorem zd_X8_isWord_89 : decode cX8_isWord 89 = .ok (.ldc2_w 156, 3) := by decide +kernel
theorem zd_X8_isWord_92 : decode cX8_isWord 92 = .ok (.lsub, 1) := by decide +kernel
theorem zd_X8_isWord_93 : decode cX8_isWord 93 = .ok (.lstore 7, 2) := by decide +kernel
theorem zd_X8_isWord_95 : decode cX8_isWord 95 = .ok (.iload 6, 2) := by decide +kernel
theorem zd_X8_isWord_97 : decode cX8_isWord 97 = .ok (.ifCond .ne 8, 3) := by decide +kernel
theorem zd_X8_isWord_100 : decode cX8_isWord 100 = .ok (.lload 7, 2) := by decide +kernel
theorem zd_X8_isWord_102 : decode cX8_isWord 102 = .ok (.goto 17, 3) := by decide +kernel
theorem zd_X8_isWord_105 : decode cX8_isWord 105 = .ok (.lload 7, 2) := by decide +kernel
theorem zd_X8_isWord_107 : decode cX8_isWord 107 = .ok (.ldc2_w 154, 3) := by decide +kernel
theorem zd_X8_isWord_110 : decode cX8_isWord 110 = .ok (.lmul, 1) := by decide +kernel
theorem zd_X8_isWord_111 : decode cX8_isWord 111 = .ok (.iload 6, 2) := by decide +kernel
theorem zd_X8_isWord_113 : decode cX8_isWord 113 = .ok (.i2l, 1) := by decide +kernel
theorem zd_X8_isWord_114 : decode cX8_isWord 114 = .ok (.ladd, 1) := by decide +kernel
theorem zd_X8_isWord_115 : decode cX8_isWord 115 = .ok (.ldc2_w 156, 3) := by decide +kernel
theorem zd_X8_isWord_118 : decode cX8_isWord 118 = .ok (.lsub, 1) := by decide +kernel
theorem zd_X8_isWord_119 : decode cX8_isWord 119 = .ok (.lstore 7, 2) := by decide +kernel
theorem zd_X8_isWord_121 : decode cX8_isWord 121 = .ok (.aload_n 0, 1) := by decide +kernel
theorem zd_X8_isWord_122 : decode cX8_isWord 122 = .ok (.getfield 151, 3) := by decide +kernel
theorem zd_X8_isWord_125 : decode cX8_isWord 125 = .ok (.iconst 1, 1) := by decide +kernel
theorem zd_X8_isWord_126 : decode cX8_isWord 126 = .ok (.if_icmp .ne 17, 3) := by decide +kernel
theorem zd_X8_isWord_129 : decode cX8_isWord 129 = .ok (.aload_n 0, 1) := by decide +kernel
theorem zd_X8_isWord_130 : decode cX8_isWord 130 = .ok (.getfield 140, 3) := by decide +kernel
theorem zd_X8_isWord_133 : decode cX8_isWord 133 = .ok (.lload 7, 2) := by decide +kernel
theorem zd_X8_isWord_135 : decode cX8_isWord 135 = .ok (.lcmp, 1) := by decide +kernel
theorem zd_X8_isWord_136 : decode cX8_isWord 136 = .ok (.ifCond .ne 7, 3) := by decide +kernel
theorem zd_X8_isWord_139 : decode cX8_isWord 139 = .ok (.iconst 1, 1) := by decide +kernel
theorem zd_X8_isWord_140 : decode cX8_isWord 140 = .ok (.goto 4, 3) := by decide +kernel
theorem zd_X8_isWord_143 : decode cX8_isWord 143 = .ok (.iconst 0, 1) := by decide +kernel
theorem zd_X8_isWord_144 : decode cX8_isWord 144 = .ok (.ireturn, 1) := by decide +kernel
def zb_X8_isWord_144 (K : zKt) (J : Nat → zPP) : zPP := zT_nret .boolean K
theorem zbs_X8_isWord_144 {X : zCt} (hR : zRX X = { frames := 0, cells := 0, slots := 0, locals := 0 }) (J : Nat → zPP) (hJ : ∀ h ∈ ([] : List Nat), zSd X RX8 "isWord" cX8_isWord 9 (some .boolean) h (J h)) : zSd X RX8 "isWord" cX8_isWord 9 (some .boolean) 144 (zb_X8_isWord_144 (zKX X) J) := zs_nret rfl zd_X8_isWord_144
def zb_X8_isWord_143 (K : zKt) (J : Nat → zPP) : zPP := zT_push (.int 0) (zb_X8_isWord_144 K J)
theorem zbs_X8_isWord_143 {X : zCt} (hR : zRX X = { frames := 0, cells := 0, slots := 0, locals := 0 }) (J : Nat → zPP) (hJ : ∀ h ∈ ([] : List Nat), zSd X RX8 "isWord" cX8_isWord 9 (some .boolean) h (J h)) : zSd X RX8 "isWord" cX8_isWord 9 (some .boolean) 143 (zb_X8_isWord_143 (zKX X) J) := zs_iconst zd_X8_isWord_143 (by decide) (zbs_X8_isWord_144 hR J hJ)
def zb_X8_isWord_119 (K : zKt) (J : Nat → zPP) : zPP := zT_lst 7 (zT_ald 0 (zT_getI 8 20 38 (zT_push (.int 1) (zT_if2 (fun x y => x = y) (zT_ald 0 (zT_getJ 8 21 38 (zT_lld 7 (zT_lcmp (zT_if1 (fun x => x = 0) (zT_push (.int 1) (zb_X8_isWord_144 K J)) (zb_X8_isWord_143 K J)))))) (zb_X8_isWord_143 K J)))))
theorem zbs_X8_isWord_119 {X : zCt} (hR : zRX X = { frames := 0, cells := 0, slots := 0, locals := 0 }) (J : Nat → zPP) (hJ : ∀ h ∈ ([] : List Nat), zSd X RX8 "isWord" cX8_isWord 9 (some .boolean) h (J h)) : zSd X RX8 "isWord" cX8_isWord 9 (some .boolean) 119 (zb_X8_isWord_119 (zKX X) J) := zs_lstore zd_X8_isWord_119 (by decide) (zs_aload_n zd_X8_isWord_121 rfl (zs_getI (ci := 8) (j := 20) (T := TX8) rfl inX8 (by decide) gw_3_109 rfl zd_X8_isWord_122 (zs_iconst zd_X8_isWord_125 (by decide) (zs_icmp_ne (tgt := 143) zd_X8_isWord_126 (by decide) (zbs_X8_isWord_143 hR J hJ) (zs_aload_n zd_X8_isWord_129 rfl (zs_getJ (ci := 8) (j := 21) (T := TX8) rfl inX8 (by decide) gw_3_110 rfl zd_X8_isWord_130 (zs_lload zd_X8_isWord_133 (zs_lcmp zd_X8_isWord_135 (zs_if_ne (tgt := 143) zd_X8_isWord_136 (by decide) (zbs_X8_isWord_143 hR J hJ) (zs_iconst zd_X8_isWord_139 (by decide) (zs_goto (tgt := 144) zd_X8_isWord_140 (by decide) (zbs_X8_isWord_144 hR J hJ))))))))))))
def zb_X8_isWord_93 (K : zKt) (J : Nat → zPP) : zPP := zT_lst 7 (zT_ild 6 (zT_if1 (fun x => x = 0) (zT_lld 7 (zb_X8_isWord_119 K J)) (zT_lld 7 (zT_push (.long 32) (zT_bil (fun x y => x * y) (zT_ild 6 (zT_i2l (zT_bil (fun x y => x + y) (zT_push (.long 96) (zT_bil (fun x y => x - y) (zb_X8_isWord_119 K J)))))))))))
theorem zbs_X8_isWord_93 {X : zCt} (hR : zRX X = { frames := 0, cells := 0, slots := 0, locals := 0 }) (J : Nat → zPP) (hJ : ∀ h ∈ ([] : List Nat), zSd X RX8 "isWord" cX8_isWord 9 (some .boolean) h (J h)) : zSd X RX8 "isWord" cX8_isWord 9 (some .boolean) 93 (zb_X8_isWord_93 (zKX X) J) := zs_lstore zd_X8_isWord_93 (by decide) (zs_iload zd_X8_isWord_95 (zs_if_ne (tgt := 105) zd_X8_isWord_97 (by decide) (zs_lload zd_X8_isWord_105 (zs_ldc2 zd_X8_isWord_107 gw_4_22 (zs_lmul zd_X8_isWord_110 (zs_iload zd_X8_isWord_111 (zs_i2l zd_X8_isWord_113 (zs_ladd zd_X8_isWord_114 (zs_ldc2 zd_X8_isWord_115 gw_4_23 (zs_lsub zd_X8_isWord_118 (zbs_X8_isWord_119 hR J hJ))))))))) (zs_lload zd_X8_isWord_100 (zs_goto (tgt := 119) zd_X8_isWord_102 (by decide) (zbs_X8_isWord_119 hR J hJ)))))
def zb_X8_isWord_67 (K : zKt) (J : Nat → zPP) : zPP := zT_lst 7 (zT_ild 5 (zT_if1 (fun x => x = 0) (zT_lld 7 (zb_X8_isWord_93 K J)) (zT_lld 7 (zT_push (.long 32) (zT_bil (fun x y => x * y) (zT_ild 5 (zT_i2l (zT_bil (fun x y => x + y) (zT_push (.long 96) (zT_bil (fun x y => x - y) (zb_X8_isWord_93 K J)))))))))))
theorem zbs_X8_isWord_67 {X : zCt} (hR : zRX X = { frames := 0, cells := 0, slots := 0, locals := 0 }) (J : Nat → zPP) (hJ : ∀ h ∈ ([] : List Nat), zSd X RX8 "isWord" cX8_isWord 9 (some .boolean) h (J h)) : zSd X RX8 "isWord" cX8_isWord 9 (some .boolean) 67 (zb_X8_isWord_67 (zKX X) J) := zs_lstore zd_X8_isWord_67 (by decide) (zs_iload zd_X8_isWord_69 (zs_if_ne (tgt := 79) zd_X8_isWord_71 (by decide) (zs_lload zd_X8_isWord_79 (zs_ldc2 zd_X8_isWord_81 gw_4_22 (zs_lmul zd_X8_isWord_84 (zs_iload zd_X8_isWord_85 (zs_i2l zd_X8_isWord_87 (zs_ladd zd_X8_isWord_88 (zs_ldc2 zd_X8_isWord_89 gw_4_23 (zs_lsub zd_X8_isWord_92 (zbs_X8_isWord_93 hR J hJ))))))))) (zs_lload zd_X8_isWord_74 (zs_goto (tgt := 93) zd_X8_isWord_76 (by decide) (zbs_X8_isWord_93 hR J hJ)))))
def zb_X8_isWord_41 (K : zKt) (J : Nat → zPP) : zPP := zT_lst 7 (zT_ild 4 (zT_if1 (fun x => x = 0) (zT_lld 7 (zb_X8_isWord_67 K J)) (zT_lld 7 (zT_push (.long 32) (zT_bil (fun x y => x * y) (zT_ild 4 (zT_i2l (zT_bil (fun x y => x + y) (zT_push (.long 96) (zT_bil (fun x y => x - y) (zb_X8_isWord_67 K J)))))))))))
theorem zbs_X8_isWord_41 {X : zCt} (hR : zRX X = { frames := 0, cells := 0, slots := 0, locals := 0 }) (J : Nat → zPP) (hJ : ∀ h ∈ ([] : List Nat), zSd X RX8 "isWord" cX8_isWord 9 (some .boolean) h (J h)) : zSd X RX8 "isWord" cX8_isWord 9 (some .boolean) 41 (zb_X8_isWord_41 (zKX X) J) := zs_lstore zd_X8_isWord_41 (by decide) (zs_iload zd_X8_isWord_43 (zs_if_ne (tgt := 53) zd_X8_isWord_45 (by decide) (zs_lload zd_X8_isWord_53 (zs_ldc2 zd_X8_isWord_55 gw_4_22 (zs_lmul zd_X8_isWord_58 (zs_iload zd_X8_isWord_59 (zs_i2l zd_X8_isWord_61 (zs_ladd zd_X8_isWord_62 (zs_ldc2 zd_X8_isWord_63 gw_4_23 (zs_lsub zd_X8_isWord_66 (zbs_X8_isWord_67 hR J hJ))))))))) (zs_lload zd_X8_isWord_48 (zs_goto (tgt := 67) zd_X8_isWord_50 (by decide) (zbs_X8_isWord_67 hR J hJ)))))
def zb_X8_isWord_0 (K : zKt) (J : Nat → zPP) : zPP := zT_ild 1 (zT_i2l (zT_push (.long 96) (zT_bil (fun x y => x - y) (zT_push (.long 32) (zT_bil (fun x y => x * y) (zT_ild 2 (zT_i2l (zT_bil (fun x y => x + y) (zT_push (.long 96) (zT_bil (fun x y => x - y) (zT_lst 7 (zT_ild 3 (zT_if1 (fun x => x = 0) (zT_lld 7 (zb_X8_isWord_41 K J)) (zT_lld 7 (zT_push (.long 32) (zT_bil (fun x y => x * y) (zT_ild 3 (zT_i2l (zT_bil (fun x y => x + y) (zT_push (.long 96) (zT_bil (fun x y => x - y) (zb_X8_isWord_41 K J))))))))))))))))))))))
theorem zbs_X8_isWord_0 {X : zCt} (hR : zRX X = { frames := 0, cells := 0, slots := 0, locals := 0 }) (J : Nat → zPP) (hJ : ∀ h ∈ ([] : List Nat), zSd X RX8 "isWord" cX8_isWord 9 (some .boolean) h (J h)) : zSd X RX8 "isWord" cX8_isWord 9 (some .boolean) 0 (zb_X8_isWord_0 (zKX X) J) := zs_iload_n zd_X8_isWord_0 rfl (zs_i2l zd_X8_isWord_1 (zs_ldc2 zd_X8_isWord_2 gw_4_23 (zs_lsub zd_X8_isWord_5 (zs_ldc2 zd_X8_isWord_6 gw_4_22 (zs_lmul zd_X8_isWord_9 (zs_iload_n zd_X8_isWord_10 rfl (zs_i2l zd_X8_isWord_11 (zs_ladd zd_X8_isWord_12 (zs_ldc2 zd_X8_isWord_13 gw_4_23 (zs_lsub zd_X8_isWord_16 (zs_lstore zd_X8_isWord_17 (by decide) (zs_iload_n zd_X8_isWord_19 rfl (zs_if_ne (tgt := 28) zd_X8_isWord_20 (by decide) (zs_lload zd_X8_isWord_28 (zs_ldc2 zd_X8_isWord_30 gw_4_22 (zs_lmul zd_X8_isWord_33 (zs_iload_n zd_X8_isWord_34 rfl (zs_i2l zd_X8_isWord_35 (zs_ladd zd_X8_isWord_36 (zs_ldc2 zd_X8_isWord_37 gw_4_23 (zs_lsub zd_X8_isWord_40 (zbs_X8_isWord_41 hR J hJ))))))))) (zs_lload zd_X8_isWord_23 (zs_goto (tgt := 41) zd_X8_isWord_25 (by decide) (zbs_X8_isWord_41 hR J hJ))))))))))))))))
theorem zdn_X8_isWord : yX8_isWord.cls ≠ "java/lang/invoke/MethodHandle" ∧ yX8_isWord.cls ≠ "java/lang/invoke/VarHandle" ∧ (parseMethodDescriptor yX8_isWord.desc).map (fun d => d.parameters.length) = some 6 := by decide +kernel
/-! THE MODEL's READER -/
def mV1 (v : Int64) (c : Int32) : Int64 := if c = 0 then v else v * 32 + c.toInt64 - 96
def mV (a b c d e f : Int32) : Int64 := mV1 (mV1 (mV1 (mV1 ((a.toInt64 - 96) * 32 + b.toInt64 - 96) c) d) e) f
def zc_X8_isWord (a : List Value) (M : zMm) (K : zKt) : Prop := match a with
  | [.ref k, .int a, .int b, .int c, .int d, .int e, .int f] => k = 200 ∧ K (some (.int (zbI (M.2.1 200 20 = 1 ∧ M.2.2.1 200 21 = mV a b c d e f)))) M
  | _ => False
set_option maxHeartbeats 1000000 in
theorem zm_X8_isWord (l : Launch) (D : va_G) (Y : Nat → ClassId) : zMt l D Y yX8_isWord cX8_isWord 9 (some .boolean) 0 0 0 0 zc_X8_isWord := by
  refine zflat (by decide) (fun K J _ _ => zb_X8_isWord_0 K J) (fun X hR => zbs_X8_isWord_0 hR zJ0 zJ0_ok) (fun avs M K h => ?_)
  unfold zc_X8_isWord at h
  split at h
  · next k a b c d e f =>
    obtain ⟨rfl, h⟩ := h
    refine ⟨by simp [zent], ?_⟩
    have S119 : ∀ v w, v = mV a b c d e f → zb_X8_isWord_119 K zJ0 M [some (.ref 200), some (.int a), some (.int b), some (.int c), some (.int d), some (.int e), some (.int f), some (.long w), none] [.long v] := by
      intro v w hv
      simp only [zb_X8_isWord_119, zb_X8_isWord_143, zb_X8_isWord_144, zsh_200, lcmp_eq, zT_push, zT_bin, zT_div, zT_bil, zT_shl, zT_un, zT_i2l, zT_l2i, zT_lcmp, zT_ild, zT_lld, zT_ald, zT_ist, zT_lst, zT_ast, zT_iinc, zT_dup, zT_dup2, zT_pop, zT_if1, zT_if2, zT_ifn, zT_getI, zT_getJ, zT_getR, zT_putI, zT_putZ, zT_putJ, zT_putR, zT_ald0, zT_lald, zT_aald, zT_iast, zT_zast, zT_bast, zT_last, zT_aast, zT_iret, zT_nret, zT_aret, zT_vret, zT_oi, zT_mm, zT_ialX, zT_S1, zT_S2, zT_S3, zT_V0, zT_V1, zT_V2, zT_V3, zT_V4, zT_V5, zT_V6, zT_I0, zT_I1, zT_I2, zlg, zlset, zlpr, zent, zok, va_rf, List.length_cons, List.length_nil, List.replicate, List.cons_append, List.nil_append, List.append_nil, Option.toList_some, Option.toList_none, Option.toList, Nat.reduceAdd, Nat.reduceSub, Nat.reduceLeDiff, Nat.zero_add, Nat.zero_le, true_and, and_true, Nat.le_refl, ge_iff_le, Nat.reduceEqDiff]
      refine ⟨fun h1 => ⟨fun h2 => ⟨rfl, ?_⟩, fun h2 => ⟨rfl, ?_⟩⟩, fun h1 => ⟨rfl, ?_⟩⟩
      · rw [zbI_t ⟨h1, by rw [h2, hv]⟩] at h; exact h
      · rw [zbI_f (fun z => h2 (by rw [z.2, hv]))] at h; exact h
      · rw [zbI_f (fun z => h1 z.1)] at h; exact h
    have S93 : ∀ v w, mV1 v f = mV a b c d e f → zb_X8_isWord_93 K zJ0 M [some (.ref 200), some (.int a), some (.int b), some (.int c), some (.int d), some (.int e), some (.int f), some (.long w), none] [.long v] := by
      intro v w hv
      simp only [zb_X8_isWord_93, zT_push, zT_bin, zT_div, zT_bil, zT_shl, zT_un, zT_i2l, zT_l2i, zT_lcmp, zT_ild, zT_lld, zT_ald, zT_ist, zT_lst, zT_ast, zT_iinc, zT_dup, zT_dup2, zT_pop, zT_if1, zT_if2, zT_ifn, zT_getI, zT_getJ, zT_getR, zT_putI, zT_putZ, zT_putJ, zT_putR, zT_ald0, zT_lald, zT_aald, zT_iast, zT_zast, zT_bast, zT_last, zT_aast, zT_iret, zT_nret, zT_aret, zT_vret, zT_oi, zT_mm, zT_ialX, zT_S1, zT_S2, zT_S3, zT_V0, zT_V1, zT_V2, zT_V3, zT_V4, zT_V5, zT_V6, zT_I0, zT_I1, zT_I2, zlg, zlset, zlpr, zent, zok, va_rf, List.length_cons, List.length_nil, List.replicate, List.cons_append, List.nil_append, List.append_nil, Option.toList_some, Option.toList_none, Option.toList, Nat.reduceAdd, Nat.reduceSub, Nat.reduceLeDiff, Nat.zero_add, Nat.zero_le, true_and, and_true, Nat.le_refl, ge_iff_le, Nat.reduceEqDiff]
      unfold mV1 at hv
      refine ⟨fun h1 => S119 _ _ ?_, fun h1 => S119 _ _ ?_⟩
      · rw [if_pos h1] at hv; exact hv
      · rw [if_neg h1] at hv; exact hv
    have S67 : ∀ v w, mV1 (mV1 v e) f = mV a b c d e f → zb_X8_isWord_67 K zJ0 M [some (.ref 200), some (.int a), some (.int b), some (.int c), some (.int d), some (.int e), some (.int f), some (.long w), none] [.long v] := by
      intro v w hv
      simp only [zb_X8_isWord_67, zT_push, zT_bin, zT_div, zT_bil, zT_shl, zT_un, zT_i2l, zT_l2i, zT_lcmp, zT_ild, zT_lld, zT_ald, zT_ist, zT_lst, zT_ast, zT_iinc, zT_dup, zT_dup2, zT_pop, zT_if1, zT_if2, zT_ifn, zT_getI, zT_getJ, zT_getR, zT_putI, zT_putZ, zT_putJ, zT_putR, zT_ald0, zT_lald, zT_aald, zT_iast, zT_zast, zT_bast, zT_last, zT_aast, zT_iret, zT_nret, zT_aret, zT_vret, zT_oi, zT_mm, zT_ialX, zT_S1, zT_S2, zT_S3, zT_V0, zT_V1, zT_V2, zT_V3, zT_V4, zT_V5, zT_V6, zT_I0, zT_I1, zT_I2, zlg, zlset, zlpr, zent, zok, va_rf, List.length_cons, List.length_nil, List.replicate, List.cons_append, List.nil_append, List.append_nil, Option.toList_some, Option.toList_none, Option.toList, Nat.reduceAdd, Nat.reduceSub, Nat.reduceLeDiff, Nat.zero_add, Nat.zero_le, true_and, and_true, Nat.le_refl, ge_iff_le, Nat.reduceEqDiff]
      refine ⟨fun h1 => S93 _ _ ?_, fun h1 => S93 _ _ ?_⟩
      · rw [show mV1 v e = v by unfold mV1; rw [if_pos h1]] at hv; exact hv
      · rw [show mV1 v e = v * 32 + e.toInt64 - 96 by unfold mV1; rw [if_neg h1]] at hv; exact hv
    have S41 : ∀ v w, mV1 (mV1 (mV1 v d) e) f = mV a b c d e f → zb_X8_isWord_41 K zJ0 M [some (.ref 200), some (.int a), some (.int b), some (.int c), some (.int d), some (.int e), some (.int f), some (.long w), none] [.long v] := by
      intro v w hv
      simp only [zb_X8_isWord_41, zT_push, zT_bin, zT_div, zT_bil, zT_shl, zT_un, zT_i2l, zT_l2i, zT_lcmp, zT_ild, zT_lld, zT_ald, zT_ist, zT_lst, zT_ast, zT_iinc, zT_dup, zT_dup2, zT_pop, zT_if1, zT_if2, zT_ifn, zT_getI, zT_getJ, zT_getR, zT_putI, zT_putZ, zT_putJ, zT_putR, zT_ald0, zT_lald, zT_aald, zT_iast, zT_zast, zT_bast, zT_last, zT_aast, zT_iret, zT_nret, zT_aret, zT_vret, zT_oi, zT_mm, zT_ialX, zT_S1, zT_S2, zT_S3, zT_V0, zT_V1, zT_V2, zT_V3, zT_V4, zT_V5, zT_V6, zT_I0, zT_I1, zT_I2, zlg, zlset, zlpr, zent, zok, va_rf, List.length_cons, List.length_nil, List.replicate, List.cons_append, List.nil_append, List.append_nil, Option.toList_some, Option.toList_none, Option.toList, Nat.reduceAdd, Nat.reduceSub, Nat.reduceLeDiff, Nat.zero_add, Nat.zero_le, true_and, and_true, Nat.le_refl, ge_iff_le, Nat.reduceEqDiff]
      refine ⟨fun h1 => S67 _ _ ?_, fun h1 => S67 _ _ ?_⟩
      · rw [show mV1 v d = v by unfold mV1; rw [if_pos h1]] at hv; exact hv
      · rw [show mV1 v d = v * 32 + d.toInt64 - 96 by unfold mV1; rw [if_neg h1]] at hv; exact hv
    simp only [zb_X8_isWord_0, zT_push, zT_bin, zT_div, zT_bil, zT_shl, zT_un, zT_i2l, zT_l2i, zT_lcmp, zT_ild, zT_lld, zT_ald, zT_ist, zT_lst, zT_ast, zT_iinc, zT_dup, zT_dup2, zT_pop, zT_if1, zT_if2, zT_ifn, zT_getI, zT_getJ, zT_getR, zT_putI, zT_putZ, zT_putJ, zT_putR, zT_ald0, zT_lald, zT_aald, zT_iast, zT_zast, zT_bast, zT_last, zT_aast, zT_iret, zT_nret, zT_aret, zT_vret, zT_oi, zT_mm, zT_ialX, zT_S1, zT_S2, zT_S3, zT_V0, zT_V1, zT_V2, zT_V3, zT_V4, zT_V5, zT_V6, zT_I0, zT_I1, zT_I2, zlg, zlset, zlpr, zent, zok, va_rf, List.length_cons, List.length_nil, List.replicate, List.cons_append, List.nil_append, List.append_nil, Option.toList_some, Option.toList_none, Option.toList, Nat.reduceAdd, Nat.reduceSub, Nat.reduceLeDiff, Nat.zero_add, Nat.zero_le, true_and, and_true, Nat.le_refl, ge_iff_le, Nat.reduceEqDiff]
    refine ⟨fun h1 => S41 _ _ ?_, fun h1 => S41 _ _ ?_⟩
    · unfold mV
      rw [show mV1 ((a.toInt64 - 96) * 32 + b.toInt64 - 96) c = (a.toInt64 - 96) * 32 + b.toInt64 - 96 by unfold mV1; rw [if_pos h1]]
    · unfold mV
      rw [show mV1 ((a.toInt64 - 96) * 32 + b.toInt64 - 96) c = ((a.toInt64 - 96) * 32 + b.toInt64 - 96) * 32 + c.toInt64 - 96 by unfold mV1; rw [if_neg h1]]
  · exact h.elim
/-! PURE: the worth of a token -/
def mwv (tp : List Nat) (a : Nat) : Nat → Nat
  | 0 => 0
  | n + 1 => 32 * mwv tp a n + (bt tp (a + n) - 96)
def mcp (tp : List Nat) (a : Nat) : Nat → Nat
  | 0 => 0
  | n + 1 => if 1000 < mcp tp a n then mcp tp a n else 10 * mcp tp a n + (bt tp (a + n) - 48)
def msr (tp : List Nat) (a : Nat) : Nat := if tp.length ≤ a then 0 else if ltr (bt tp a) = true then 1 else if dgt (bt tp a) = true then 2 else 3
def mwl (tp : List Nat) (a n : Nat) : Int64 := if n ≤ 7 then lN (mwv tp a n) else -1
def mwo (tp : List Nat) (a : Nat) : Int64 := if tp.length ≤ a then 0 else if ltr (bt tp a) = true then mwl tp a (wte tp a - a) else if dgt (bt tp a) = true then lN (mcp tp a (wte tp a - a)) else lN (bt tp a)
theorem mwv_lt {tp : List Nat} {a : Nat} : ∀ {n : Nat}, (∀ i, i < n → ltr (bt tp (a + i)) = true) → mwv tp a n < 32 ^ n
  | 0, _ => Nat.lt_succ_self 0
  | n + 1, h => by
    have ih := mwv_lt (n := n) (fun i hi => h i (by omega))
    have := h n (by omega)
    unfold ltr at this
    rw [decide_eq_true_eq] at this
    show 32 * mwv tp a n + (bt tp (a + n) - 96) < 32 ^ n * 32
    omega
theorem mcp_le {tp : List Nat} {a : Nat} : ∀ {n : Nat}, (∀ i, i < n → dgt (bt tp (a + i)) = true) → mcp tp a n ≤ 10009
  | 0, _ => Nat.zero_le _
  | n + 1, h => by
    have ih := mcp_le (n := n) (fun i hi => h i (by omega))
    have := h n (by omega)
    unfold dgt at this
    rw [decide_eq_true_eq] at this
    show (if 1000 < mcp tp a n then mcp tp a n else 10 * mcp tp a n + (bt tp (a + n) - 48)) ≤ 10009
    split <;> omega
theorem mcp_dv {tp : List Nat} {a : Nat} : ∀ {n : Nat}, (mcp tp a n ≤ 1000 → mcp tp a n = wdv tp a n) ∧ (1000 < mcp tp a n → 1000 < wdv tp a n)
  | 0 => ⟨fun _ => rfl, fun z => absurd z (Nat.not_lt_zero 1000 |> fun _ => Nat.not_lt.mpr (Nat.zero_le 1000))⟩
  | n + 1 => by
    have ih := mcp_dv (tp := tp) (a := a) (n := n)
    show ((if 1000 < mcp tp a n then mcp tp a n else 10 * mcp tp a n + (bt tp (a + n) - 48)) ≤ 1000 → (if 1000 < mcp tp a n then mcp tp a n else 10 * mcp tp a n + (bt tp (a + n) - 48)) = 10 * wdv tp a n + (bt tp (a + n) - 48)) ∧ (1000 < (if 1000 < mcp tp a n then mcp tp a n else 10 * mcp tp a n + (bt tp (a + n) - 48)) → 1000 < 10 * wdv tp a n + (bt tp (a + n) - 48))
    by_cases q : 1000 < mcp tp a n
    · rw [if_pos q]
      have := ih.2 q
      exact ⟨fun z => by omega, fun _ => by omega⟩
    · rw [if_neg q]
      have := ih.1 (by omega)
      exact ⟨fun _ => by omega, fun z => by omega⟩
/-- words of other letters have another worth -/
theorem mwv_inj {f g : Nat → Nat} : ∀ {n m : Nat}, (∀ i, i < n → 1 ≤ f i ∧ f i < 32) → (∀ i, i < m → 1 ≤ g i ∧ g i < 32) → Nat.rec 0 (fun i v => 32 * v + f i) n = Nat.rec (motive := fun _ => Nat) 0 (fun i v => 32 * v + g i) m → n = m ∧ ∀ i, i < n → f i = g i
  | 0, 0, _, _, _ => ⟨rfl, fun i hi => absurd hi (Nat.not_lt_zero _)⟩
  | 0, m + 1, _, hg, h => by
    have := hg m (by omega)
    have h' : 0 = 32 * Nat.rec (motive := fun _ => Nat) 0 (fun i v => 32 * v + g i) m + g m := h
    omega
  | n + 1, 0, hf, _, h => by
    have := hf n (by omega)
    have h' : 32 * Nat.rec (motive := fun _ => Nat) 0 (fun i v => 32 * v + f i) n + f n = 0 := h
    omega
  | n + 1, m + 1, hf, hg, h => by
    have a1 := hf n (by omega)
    have a2 := hg m (by omega)
    have h' : 32 * Nat.rec (motive := fun _ => Nat) 0 (fun i v => 32 * v + f i) n + f n = 32 * Nat.rec (motive := fun _ => Nat) 0 (fun i v => 32 * v + g i) m + g m := h
    have h1 : f n = g m := by omega
    have h2 : Nat.rec (motive := fun _ => Nat) 0 (fun i v => 32 * v + f i) n = Nat.rec (motive := fun _ => Nat) 0 (fun i v => 32 * v + g i) m := by omega
    obtain ⟨e, ih⟩ := mwv_inj (n := n) (m := m) (fun i hi => hf i (by omega)) (fun i hi => hg i (by omega)) h2
    subst e
    refine ⟨rfl, fun i hi => ?_⟩
    by_cases q : i = n
    · subst q; exact h1
    · exact ih i (by omega)
theorem mwv_rec {tp : List Nat} {a : Nat} : ∀ n, mwv tp a n = Nat.rec (motive := fun _ => Nat) 0 (fun i v => 32 * v + (bt tp (a + i) - 96)) n
  | 0 => rfl
  | n + 1 => by
    show 32 * mwv tp a n + _ = 32 * _ + _
    rw [mwv_rec n]
