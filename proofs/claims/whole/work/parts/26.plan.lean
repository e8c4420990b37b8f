/-! DeltaRuns$Plan dykesIn -/
theorem zd_X2_dykesIn_0 : decode cX2_dykesIn 0 = .ok (.iconst 0, 1) := by decide +kernel
theorem zd_X2_dykesIn_1 : decode cX2_dykesIn 1 = .ok (.istore 4, 2) := by decide +kernel
theorem zd_X2_dykesIn_3 : decode cX2_dykesIn 3 = .ok (.iload 4, 2) := by decide +kernel
theorem zd_X2_dykesIn_5 : decode cX2_dykesIn 5 = .ok (.aload_n 0, 1) := by decide +kernel
theorem zd_X2_dykesIn_6 : decode cX2_dykesIn 6 = .ok (.getfield 31, 3) := by decide +kernel
theorem zd_X2_dykesIn_9 : decode cX2_dykesIn 9 = .ok (.if_icmp .ge 100, 3) := by decide +kernel
theorem zd_X2_dykesIn_12 : decode cX2_dykesIn 12 = .ok (.aload_n 0, 1) := by decide +kernel
theorem zd_X2_dykesIn_13 : decode cX2_dykesIn 13 = .ok (.getfield 9, 3) := by decide +kernel
theorem zd_X2_dykesIn_16 : decode cX2_dykesIn 16 = .ok (.iload 4, 2) := by decide +kernel
theorem zd_X2_dykesIn_18 : decode cX2_dykesIn 18 = .ok (.iaload, 1) := by decide +kernel
theorem zd_X2_dykesIn_19 : decode cX2_dykesIn 19 = .ok (.iload_n 1, 1) := by decide +kernel
theorem zd_X2_dykesIn_20 : decode cX2_dykesIn 20 = .ok (.if_icmp .ne 83, 3) := by decide +kernel
theorem zd_X2_dykesIn_23 : decode cX2_dykesIn 23 = .ok (.aload_n 2, 1) := by decide +kernel
theorem zd_X2_dykesIn_24 : decode cX2_dykesIn 24 = .ok (.aload_n 0, 1) := by decide +kernel
theorem zd_X2_dykesIn_25 : decode cX2_dykesIn 25 = .ok (.getfield 18, 3) := by decide +kernel
theorem zd_X2_dykesIn_28 : decode cX2_dykesIn 28 = .ok (.iload 4, 2) := by decide +kernel
theorem zd_X2_dykesIn_30 : decode cX2_dykesIn 30 = .ok (.iaload, 1) := by decide +kernel
theorem zd_X2_dykesIn_31 : decode cX2_dykesIn 31 = .ok (.aload_n 0, 1) := by decide +kernel
theorem zd_X2_dykesIn_32 : decode cX2_dykesIn 32 = .ok (.getfield 21, 3) := by decide +kernel
theorem zd_X2_dykesIn_35 : decode cX2_dykesIn 35 = .ok (.iload 4, 2) := by decide +kernel
theorem zd_X2_dykesIn_37 : decode cX2_dykesIn 37 = .ok (.iaload, 1) := by decide +kernel
theorem zd_X2_dykesIn_38 : decode cX2_dykesIn 38 = .ok (.invokevirtual 35, 3) := by decide +kernel
theorem zd_X2_dykesIn_41 : decode cX2_dykesIn 41 = .ok (.ifCond .eq 62, 3) := by decide +kernel
theorem zd_X2_dykesIn_44 : decode cX2_dykesIn 44 = .ok (.aload_n 0, 1) := by decide +kernel
theorem zd_X2_dykesIn_45 : decode cX2_dykesIn 45 = .ok (.getfield 18, 3) := by decide +kernel
theorem zd_X2_dykesIn_48 : decode cX2_dykesIn 48 = .ok (.iload 4, 2) := by decide +kernel
theorem zd_X2_dykesIn_50 : decode cX2_dykesIn 50 = .ok (.iaload, 1) := by decide +kernel
theorem zd_X2_dykesIn_51 : decode cX2_dykesIn 51 = .ok (.aload_n 0, 1) := by decide +kernel
theorem zd_X2_dykesIn_52 : decode cX2_dykesIn 52 = .ok (.getfield 21, 3) := by decide +kernel
theorem zd_X2_dykesIn_55 : decode cX2_dykesIn 55 = .ok (.iload 4, 2) := by decide +kernel
theorem zd_X2_dykesIn_57 : decode cX2_dykesIn 57 = .ok (.iaload, 1) := by decide +kernel
theorem zd_X2_dykesIn_58 : decode cX2_dykesIn 58 = .ok (.invokestatic 41, 3) := by decide +kernel
theorem zd_X2_dykesIn_61 : decode cX2_dykesIn 61 = .ok (.istore 5, 2) := by decide +kernel
theorem zd_X2_dykesIn_63 : decode cX2_dykesIn 63 = .ok (.aload_n 0, 1) := by decide +kernel
theorem zd_X2_dykesIn_64 : decode cX2_dykesIn 64 = .ok (.getfield 15, 3) := by decide +kernel
theorem zd_X2_dykesIn_67 : decode cX2_dykesIn 67 = .ok (.iload 4, 2) := by decide +kernel
theorem zd_X2_dykesIn_69 : decode cX2_dykesIn 69 = .ok (.iaload, 1) := by decide +kernel
theorem zd_X2_dykesIn_70 : decode cX2_dykesIn 70 = .ok (.ifCond .ne 14, 3) := by decide +kernel
theorem zd_X2_dykesIn_73 : decode cX2_dykesIn 73 = .ok (.aload_n 3, 1) := by decide +kernel
theorem zd_X2_dykesIn_74 : decode cX2_dykesIn 74 = .ok (.getfield 58, 3) := by decide +kernel
theorem zd_X2_dykesIn_77 : decode cX2_dykesIn 77 = .ok (.iload 5, 2) := by decide +kernel
theorem zd_X2_dykesIn_79 : decode cX2_dykesIn 79 = .ok (.iconst 1, 1) := by decide +kernel
theorem zd_X2_dykesIn_80 : decode cX2_dykesIn 80 = .ok (.bastore, 1) := by decide +kernel
theorem zd_X2_dykesIn_81 : decode cX2_dykesIn 81 = .ok (.goto 22, 3) := by decide +kernel
theorem zd_X2_dykesIn_84 : decode cX2_dykesIn 84 = .ok (.aload_n 0, 1) := by decide +kernel
theorem zd_X2_dykesIn_85 : decode cX2_dykesIn 85 = .ok (.getfield 15, 3) := by decide +kernel
theorem zd_X2_dykesIn_88 : decode cX2_dykesIn 88 = .ok (.iload 4, 2) := by decide +kernel
theorem zd_X2_dykesIn_90 : decode cX2_dykesIn 90 = .ok (.iaload, 1) := by decide +kernel
theorem zd_X2_dykesIn_91 : decode cX2_dykesIn 91 = .ok (.iconst 1, 1) := by decide +kernel
theorem zd_X2_dykesIn_92 : decode cX2_dykesIn 92 = .ok (.if_icmp .ne 11, 3) := by decide +kernel
theorem zd_X2_dykesIn_95 : decode cX2_dykesIn 95 = .ok (.aload_n 3, 1) := by decide +kernel
theorem zd_X2_dykesIn_96 : decode cX2_dykesIn 96 = .ok (.getfield 58, 3) := by decide +kernel
theorem zd_X2_dykesIn_99 : decode cX2_dykesIn 99 = .ok (.iload 5, 2) := by decide +kernel
theorem zd_X2_dykesIn_101 : decode cX2_dykesIn 101 = .ok (.iconst 0, 1) := by decide +kernel
theorem zd_X2_dykesIn_102 : decode cX2_dykesIn 102 = .ok (.bastore, 1) := by decide +kernel
theorem zd_X2_dykesIn_103 : decode cX2_dykesIn 103 = .ok (.iinc 4 1, 3) := by decide +kernel
theorem zd_X2_dykesIn_106 : decode cX2_dykesIn 106 = .ok (.goto (-103), 3) := by decide +kernel
theorem zd_X2_dykesIn_109 : decode cX2_dykesIn 109 = .ok (.return_, 1) := by decide +kernel
def zb_X2_dykesIn_0 (K : zKt) (J : Nat → zPP) : zPP := zT_push (.int 0) (zT_ist 4 (J 3))
theorem zbs_X2_dykesIn_0 {X : zCt} (hR : zRX X = { frames := 1, cells := 0, slots := 0, locals := 22 }) (J : Nat → zPP) (hJ : ∀ h ∈ ([3] : List Nat), zSd X RX2 "dykesIn" cX2_dykesIn 6 none h (J h)) : zSd X RX2 "dykesIn" cX2_dykesIn 6 none 0 (zb_X2_dykesIn_0 (zKX X) J) := zs_iconst zd_X2_dykesIn_0 (by decide) (zs_istore zd_X2_dykesIn_1 (by decide) (hJ 3 (by decide)))
def zb_X2_dykesIn_103 (K : zKt) (J : Nat → zPP) : zPP := zT_iinc 4 1 (J 3)
theorem zbs_X2_dykesIn_103 {X : zCt} (hR : zRX X = { frames := 1, cells := 0, slots := 0, locals := 22 }) (J : Nat → zPP) (hJ : ∀ h ∈ ([3] : List Nat), zSd X RX2 "dykesIn" cX2_dykesIn 6 none h (J h)) : zSd X RX2 "dykesIn" cX2_dykesIn 6 none 103 (zb_X2_dykesIn_103 (zKX X) J) := zs_iinc zd_X2_dykesIn_103 (by decide) (by decide) (zs_goto (tgt := 3) zd_X2_dykesIn_106 (by decide) (hJ 3 (by decide)))
def zb_X2_dykesIn_3 (K : zKt) (J : Nat → zPP) : zPP := zT_ild 4 (zT_ald 0 (zT_getI 2 5 6 (zT_if2 (fun x y => y ≤ x) (zT_vret K) (zT_ald 0 (zT_getR 2 0 6 (zT_ild 4 (zT_ald0 0 (zT_ild 1 (zT_if2 (fun x y => x = y) (zT_ald 2 (zT_ald 0 (zT_getR 2 2 6 (zT_ild 4 (zT_ald0 0 (zT_ald 0 (zT_getR 2 3 6 (zT_ild 4 (zT_ald0 0 (zT_V2 zok 1 6 zc_X1_has (zT_if1 (fun x => x = 0) (zb_X2_dykesIn_103 K J) (zT_ald 0 (zT_getR 2 2 6 (zT_ild 4 (zT_ald0 0 (zT_ald 0 (zT_getR 2 3 6 (zT_ild 4 (zT_ald0 0 (zT_S2 zok zc_X7_cellAt (zT_ist 5 (zT_ald 0 (zT_getR 2 1 6 (zT_ild 4 (zT_ald0 0 (zT_if1 (fun x => x = 0) (zT_ald 3 (zT_getR 5 1 11 (zT_ild 5 (zT_push (.int 1) (zT_zast (zb_X2_dykesIn_103 K J)))))) (zT_ald 0 (zT_getR 2 1 6 (zT_ild 4 (zT_ald0 0 (zT_push (.int 1) (zT_if2 (fun x y => x = y) (zT_ald 3 (zT_getR 5 1 11 (zT_ild 5 (zT_push (.int 0) (zT_zast (zb_X2_dykesIn_103 K J)))))) (zb_X2_dykesIn_103 K J))))))))))))))))))))))))))))))))) (zb_X2_dykesIn_103 K J))))))))))
theorem zbs_X2_dykesIn_3 {X : zCt} (hR : zRX X = { frames := 1, cells := 0, slots := 0, locals := 22 }) (J : Nat → zPP) (hJ : ∀ h ∈ ([3] : List Nat), zSd X RX2 "dykesIn" cX2_dykesIn 6 none h (J h)) : zSd X RX2 "dykesIn" cX2_dykesIn 6 none 3 (zb_X2_dykesIn_3 (zKX X) J) := zs_iload zd_X2_dykesIn_3 (zs_aload_n zd_X2_dykesIn_5 rfl (zs_getI (ci := 2) (j := 5) (T := TX2) rfl inX2 (by decide) gw_1_170 rfl zd_X2_dykesIn_6 (zs_icmp_ge (tgt := 109) zd_X2_dykesIn_9 (by decide) (zs_vret rfl zd_X2_dykesIn_109) (zs_aload_n zd_X2_dykesIn_12 rfl (zs_getR (ci := 2) (j := 0) (T := TX2) rfl inX2 (by decide) gw_1_159 rfl zd_X2_dykesIn_13 (zs_iload zd_X2_dykesIn_16 (zs_iald zd_X2_dykesIn_18 (zs_iload_n zd_X2_dykesIn_19 rfl (zs_icmp_ne (tgt := 103) zd_X2_dykesIn_20 (by decide) (zbs_X2_dykesIn_103 hR J hJ) (zs_aload_n zd_X2_dykesIn_23 rfl (zs_aload_n zd_X2_dykesIn_24 rfl (zs_getR (ci := 2) (j := 2) (T := TX2) rfl inX2 (by decide) gw_1_163 rfl zd_X2_dykesIn_25 (zs_iload zd_X2_dykesIn_28 (zs_iald zd_X2_dykesIn_30 (zs_aload_n zd_X2_dykesIn_31 rfl (zs_getR (ci := 2) (j := 3) (T := TX2) rfl inX2 (by decide) gw_1_165 rfl zd_X2_dykesIn_32 (zs_iload zd_X2_dykesIn_35 (zs_iald zd_X2_dykesIn_37 (zs_V (ci := 1) rfl rfl (zm_X1_has _ _ _) gw_2_0 gw_2_195 gw_1_238 gw_1_239 gw_1_2 zdn_X1_has (zrm hR (by decide) (by decide)) zd_X2_dykesIn_38 (zCl_V2 zok_l) (zs_if_eq (tgt := 103) zd_X2_dykesIn_41 (by decide) (zbs_X2_dykesIn_103 hR J hJ) (zs_aload_n zd_X2_dykesIn_44 rfl (zs_getR (ci := 2) (j := 2) (T := TX2) rfl inX2 (by decide) gw_1_163 rfl zd_X2_dykesIn_45 (zs_iload zd_X2_dykesIn_48 (zs_iald zd_X2_dykesIn_50 (zs_aload_n zd_X2_dykesIn_51 rfl (zs_getR (ci := 2) (j := 3) (T := TX2) rfl inX2 (by decide) gw_1_165 rfl zd_X2_dykesIn_52 (zs_iload zd_X2_dykesIn_55 (zs_iald zd_X2_dykesIn_57 (zs_SN (zm_X7_cellAt _ _ _) gw_2_7 (List.mem_of_getElem? (i := 7) rfl) gw_2_6 gw_1_1 zdn_X7_cellAt (zrm hR (by decide) (by decide)) zd_X2_dykesIn_58 (zCl_S2 zok_l) (zs_istore zd_X2_dykesIn_61 (by decide) (zs_aload_n zd_X2_dykesIn_63 rfl (zs_getR (ci := 2) (j := 1) (T := TX2) rfl inX2 (by decide) gw_1_161 rfl zd_X2_dykesIn_64 (zs_iload zd_X2_dykesIn_67 (zs_iald zd_X2_dykesIn_69 (zs_if_ne (tgt := 84) zd_X2_dykesIn_70 (by decide) (zs_aload_n zd_X2_dykesIn_84 rfl (zs_getR (ci := 2) (j := 1) (T := TX2) rfl inX2 (by decide) gw_1_161 rfl zd_X2_dykesIn_85 (zs_iload zd_X2_dykesIn_88 (zs_iald zd_X2_dykesIn_90 (zs_iconst zd_X2_dykesIn_91 (by decide) (zs_icmp_ne (tgt := 103) zd_X2_dykesIn_92 (by decide) (zbs_X2_dykesIn_103 hR J hJ) (zs_aload_n zd_X2_dykesIn_95 rfl (zs_getR (ci := 5) (j := 1) (T := TX5) rfl inX5 (by decide) gw_1_115 rfl zd_X2_dykesIn_96 (zs_iload zd_X2_dykesIn_99 (zs_iconst zd_X2_dykesIn_101 (by decide) (zs_zast zd_X2_dykesIn_102 (zbs_X2_dykesIn_103 hR J hJ)))))))))))) (zs_aload_n zd_X2_dykesIn_73 rfl (zs_getR (ci := 5) (j := 1) (T := TX5) rfl inX5 (by decide) gw_1_115 rfl zd_X2_dykesIn_74 (zs_iload zd_X2_dykesIn_77 (zs_iconst zd_X2_dykesIn_79 (by decide) (zs_zast zd_X2_dykesIn_80 (zs_goto (tgt := 103) zd_X2_dykesIn_81 (by decide) (zbs_X2_dykesIn_103 hR J hJ))))))))))))))))))))))))))))))))))))))))))
def zB_X2_dykesIn (K : zKt) (J : Nat → zPP) (h : Nat) : zPP := if h = 3 then zb_X2_dykesIn_3 K J else (fun _ _ _ => False)
theorem zBs_X2_dykesIn {X : zCt} (hR : zRX X = { frames := 1, cells := 0, slots := 0, locals := 22 }) : ∀ J : Nat → zPP, (∀ h ∈ ([3] : List Nat), zSd X RX2 "dykesIn" cX2_dykesIn 6 none h (J h)) → ∀ h ∈ ([3] : List Nat), zSd X RX2 "dykesIn" cX2_dykesIn 6 none h (zB_X2_dykesIn (zKX X) J h) := by
  intro J hJ h hh
  unfold zB_X2_dykesIn
  simp only [List.mem_cons, List.not_mem_nil, or_false] at hh
  subst hh
  exact zbs_X2_dykesIn_3 hR J hJ
theorem zdn_X2_dykesIn : yX2_dykesIn.cls ≠ "java/lang/invoke/MethodHandle" ∧ yX2_dykesIn.cls ≠ "java/lang/invoke/VarHandle" ∧ (parseMethodDescriptor yX2_dykesIn.desc).map (fun d => d.parameters.length) = some 3 := by decide +kernel
/-! THE PLAN's works. An act: (kind, year, x, y, by) -/
abbrev wAc : Type := Nat × Nat × Nat × Nat × Nat
def wak (a : wAc) : Nat := a.1
def way (a : wAc) : Nat := a.2.1
def wax (a : wAc) : Nat := a.2.2.1
def wao (a : wAc) : Nat := a.2.2.2.1
def wab (a : wAc) : Nat := a.2.2.2.2
def wacok (a : wAc) : Prop := wak a < 4 ∧ way a ≤ 30 ∧ wax a < 12 ∧ wao a < 10 ∧ wab a ≤ 200
def waon (w h n : Nat) (a : wAc) : Prop := way a = n ∧ wax a < w ∧ wao a < h
def wao? (w h n : Nat) (a : wAc) : Bool := decide (way a = n ∧ wax a < w ∧ wao a < h)
def wdk1 (w h n : Nat) (D : Nat → Bool) (a : wAc) : Nat → Bool := if wao? w h n a = true then (if wak a = 0 then va_up D (wao a * 12 + wax a) true else if wak a = 1 then va_up D (wao a * 12 + wax a) false else D) else D
def whk1 (w h n : Nat) (H : Nat → Nat) (a : wAc) : Nat → Nat := if wao? w h n a = true then (if wak a = 2 then va_up H (wao a * 12 + wax a) (H (wao a * 12 + wax a) - wab a) else if wak a = 3 then va_up H (wao a * 12 + wax a) (if wab a < H (wao a * 12 + wax a) then wab a else H (wao a * 12 + wax a)) else H) else H
def wdk (w h n : Nat) (acts : List wAc) (D : Nat → Bool) : Nat → Bool := acts.foldl (wdk1 w h n) D
def whk (w h n : Nat) (acts : List wAc) (H : Nat → Nat) : Nat → Nat := acts.foldl (whk1 w h n) H
/-- a plan's cells hold these acts -/
def zpl (M : zMm) (pk : Nat) (acts : List wAc) : Prop := (pk = 21 ∨ pk = 27) ∧ M.2.2.2 pk 0 = some (pk + 1) ∧ M.2.2.2 pk 1 = some (pk + 2) ∧ M.2.2.2 pk 2 = some (pk + 3) ∧ M.2.2.2 pk 3 = some (pk + 4) ∧ M.2.2.2 pk 4 = some (pk + 5) ∧ M.2.1 pk 5 = nI acts.length ∧ acts.length ≤ 20 ∧
  ∀ i a, acts[i]? = some a → wacok a ∧ M.2.1 (pk + 1) i = nI (way a) ∧ M.2.1 (pk + 2) i = nI (wak a) ∧ M.2.1 (pk + 3) i = nI (wax a) ∧ M.2.1 (pk + 4) i = nI (wao a) ∧ (2 ≤ wak a → M.2.1 (pk + 5) i = nI (wab a))
theorem zpl.to {M M' : zMm} {pk : Nat} {acts : List wAc} {ks : List Nat} (h : zpl M pk acts) (hs : zsm ks M M') (hk : ∀ k ∈ ks, k < 21) : zpl M' pk acts := by
  obtain ⟨h1, h2⟩ := h
  have nm : ∀ j, pk + j ∉ ks := fun j z => by have := hk _ z; omega
  refine ⟨h1, ?_⟩
  have e0 := hs.2.2 (pk + 0) (nm 0)
  rw [Nat.add_zero] at e0
  rw [hs.R, e0, hs.2.2 _ (nm 1), hs.2.2 _ (nm 2), hs.2.2 _ (nm 3), hs.2.2 _ (nm 4), hs.2.2 _ (nm 5)]
  exact h2
theorem zpl_sh {pk : Nat} (h : pk = 21 ∨ pk = 27) : zsh pk = (5, 2, 6) ∧ zsh (pk + 1) = (0, 20, 0) ∧ zsh (pk + 2) = (0, 20, 0) ∧ zsh (pk + 3) = (0, 20, 0) ∧ zsh (pk + 4) = (0, 20, 0) ∧ zsh (pk + 5) = (0, 20, 0) := by
  rcases h with rfl | rfl <;> exact ⟨rfl, rfl, rfl, rfl, rfl, rfl⟩
theorem wab_get {L : List wAc} {i : Nat} (h : i < L.length) : ∃ a, L[i]? = some a ∧ L.take (i + 1) = L.take i ++ [a] := ⟨L[i], List.getElem?_eq_getElem h, by rw [List.take_succ, List.getElem?_eq_getElem h]; rfl⟩
def zdy (M : zMm) (D : Nat → Bool) : Prop := ∀ e, e < 120 → M.2.1 12 e = if D e = true then 1 else 0
def zhg (M : zMm) (H : Nat → Nat) : Prop := ∀ e, e < 120 → M.2.1 11 e = nI (H e) ∧ H e ≤ 200
def zwh (M : zMm) (w h : Nat) : Prop := M.2.1 1 1 = nI w ∧ M.2.1 1 2 = nI h ∧ w ≤ 12 ∧ h ≤ 10
theorem whas {w h x y : Nat} (hw : w ≤ 12) (hh : h ≤ 10) (hx : x < 12) (hy : y < 10) : (0 ≤ nI x ∧ nI x < nI w ∧ 0 ≤ nI y ∧ nI y < nI h) ↔ x < w ∧ y < h := by
  rw [nI_ltI (by omega) (by omega), nI_ltI (by omega) (by omega)]
  exact ⟨fun z => ⟨z.2.1, z.2.2.2⟩, fun z => ⟨nI_pos' (by omega), z.1, nI_pos' (by omega), z.2⟩⟩
theorem wcell {x y : Nat} : nI y * 12 + nI x = nI (y * 12 + x) := by
  rw [show (12 : Int32) = nI 12 from rfl, pk_mul, nI_add]
def zc_X2_dykesIn (a : List Value) (M : zMm) (K : zKt) : Prop := match a with
  | [.ref pk, .int x, .ref k, .ref k'] => k = 1 ∧ k' = 10 ∧ zxw M ∧ ∃ n w h acts D, x = nI n ∧ n ≤ 30 ∧ zwh M w h ∧ zpl M pk acts ∧ zdy M D ∧ ∀ M', zsm [12] M M' → zdy M' (wdk w h n acts D) → K none M'
  | _ => False
set_option maxHeartbeats 2000000 in
theorem zm_X2_dykesIn (l : Launch) (D : va_G) (Y : Nat → ClassId) : zMt l D Y yX2_dykesIn cX2_dykesIn 6 none 1 22 0 0 zc_X2_dykesIn := by
  refine zwhile1 (h0 := 3) (by decide) (fun K J _ _ => zb_X2_dykesIn_0 K J) (fun K _ _ J => zb_X2_dykesIn_3 K J) (fun X hR J hJ => zbs_X2_dykesIn_0 hR J hJ) (fun X hR J hJ => zbs_X2_dykesIn_3 hR J hJ) (fun avs M K h => ?_)
  unfold zc_X2_dykesIn at h
  split at h
  · next pk x k k' =>
    obtain ⟨rfl, rfl, hx, n, w, h', acts, D, rfl, hn, hwh, hpl, hdy, h⟩ := h
    obtain ⟨s0, s1, s2, s3, s4, s5⟩ := zpl_sh hpl.1
    have hl20 := hpl.2.2.2.2.2.2.2.1
    refine ⟨by simp [zent], fun q M' ls st => ∃ i o, q = 20 - i ∧ i ≤ acts.length ∧ ls = [some (.ref pk), some (.int (nI n)), some (.ref 1), some (.ref 10), some (.int (nI i)), o] ∧ st = [] ∧ zsm [12] M M' ∧ zdy M' (wdk w h' n (acts.take i) D), ?_, ?_⟩
    · rintro q J hJ M' ls st ⟨i, o, rfl, hi, rfl, rfl, hs, hd⟩
      obtain ⟨x0, x1, x2, x3, x4, x5, x6, x7, x8⟩ := hx.to hs
      obtain ⟨hp0, r0, r1, r2, r3, r4, ht, -, hacts⟩ := hpl.to hs (by simp)
      have h1 : M'.2.1 1 = M.2.1 1 := hs.2.2 1 (by simp)
      obtain ⟨w1, w2, w3, w4⟩ := hwh
      simp only [zb_X2_dykesIn_3, s0, s1, s2, s3, s4, r0, r1, r2, r3, ht, x1, zsh_10, zsh_12, zT_push, zT_bin, zT_div, zT_bil, zT_shl, zT_un, zT_i2l, zT_l2i, zT_lcmp, zT_ild, zT_lld, zT_ald, zT_ist, zT_lst, zT_ast, zT_iinc, zT_dup, zT_dup2, zT_pop, zT_if1, zT_if2, zT_ifn, zT_getI, zT_getJ, zT_getR, zT_putI, zT_putZ, zT_putJ, zT_putR, zT_ald0, zT_lald, zT_aald, zT_iast, zT_zast, zT_bast, zT_last, zT_aast, zT_iret, zT_nret, zT_aret, zT_vret, zT_oi, zT_mm, zT_ialX, zT_S1, zT_S2, zT_S3, zT_V0, zT_V1, zT_V2, zT_V3, zT_V4, zT_V5, zT_V6, zT_I0, zT_I1, zT_I2, zlg, zlset, zlpr, zent, zok, va_rf, List.length_cons, List.length_nil, List.replicate, List.cons_append, List.nil_append, List.append_nil, Option.toList_some, Option.toList_none, Option.toList, Nat.reduceAdd, Nat.reduceSub, Nat.reduceLeDiff, Nat.zero_add, Nat.zero_le, true_and, and_true, Nat.le_refl, ge_iff_le, Nat.reduceEqDiff]
      refine ⟨fun h2 => ?_, fun h2 => ?_⟩
      · have := zn_ge' h2 (by omega) (by omega)
        have e : i = acts.length := by omega
        subst e
        rw [List.take_length] at hd
        exact h M' hs hd
      · have hlt := zn_ge h2 (by omega) (by omega)
        obtain ⟨a, ha, htk⟩ := wab_get hlt
        obtain ⟨⟨k1, k2, k3, k4, k5⟩, a1, a2, a3, a4, a5⟩ := hacts i a ha
        have hnext : wdk w h' n (acts.take (i + 1)) D = wdk1 w h' n (wdk w h' n (acts.take i) D) a := by
          unfold wdk
          rw [htk, List.foldl_append]
          rfl
        have skip : ∀ M2 o, zsm [12] M M2 → zdy M2 (wdk1 w h' n (wdk w h' n (acts.take i) D) a) → zb_X2_dykesIn_103 K J M2 [some (.ref pk), some (.int (nI n)), some (.ref 1), some (.ref 10), some (.int (nI i)), o] [] := by
          intro M2 o hs2 hd2
          simp only [zb_X2_dykesIn_103, zT_push, zT_bin, zT_div, zT_bil, zT_shl, zT_un, zT_i2l, zT_l2i, zT_lcmp, zT_ild, zT_lld, zT_ald, zT_ist, zT_lst, zT_ast, zT_iinc, zT_dup, zT_dup2, zT_pop, zT_if1, zT_if2, zT_ifn, zT_getI, zT_getJ, zT_getR, zT_putI, zT_putZ, zT_putJ, zT_putR, zT_ald0, zT_lald, zT_aald, zT_iast, zT_zast, zT_bast, zT_last, zT_aast, zT_iret, zT_nret, zT_aret, zT_vret, zT_oi, zT_mm, zT_ialX, zT_S1, zT_S2, zT_S3, zT_V0, zT_V1, zT_V2, zT_V3, zT_V4, zT_V5, zT_V6, zT_I0, zT_I1, zT_I2, zlg, zlset, zlpr, zent, zok, va_rf, List.length_cons, List.length_nil, List.replicate, List.cons_append, List.nil_append, List.append_nil, Option.toList_some, Option.toList_none, Option.toList, Nat.reduceAdd, Nat.reduceSub, Nat.reduceLeDiff, Nat.zero_add, Nat.zero_le, true_and, and_true, Nat.le_refl, ge_iff_le, Nat.reduceEqDiff]
          exact hJ (20 - (i + 1)) _ _ _ (by omega) ⟨i + 1, o, rfl, hlt, by rw [nI_1], rfl, hs2, by rw [hnext]; exact hd2⟩
        have hin : vp_in (nI i) 20 := vp_in_nI (by omega) (by decide)
        rw [nI_clamp (by omega), a1, a3, a4]
        unfold zc_X1_has
        dsimp only
        rw [h1, w1, w2]
        refine ⟨hin, fun h3 => ⟨hin, hin, rfl, ?_⟩, fun h3 => ?_⟩
        · have e3 := (nI_eq (by omega) (by omega)).mp h3
          simp only [zbI_0, whas w3 w4 k3 k4, s0, s1, s2, s3, s4, r0, r1, r2, r3, x1, zsh_10, zsh_12, zT_push, zT_bin, zT_div, zT_bil, zT_shl, zT_un, zT_i2l, zT_l2i, zT_lcmp, zT_ild, zT_lld, zT_ald, zT_ist, zT_lst, zT_ast, zT_iinc, zT_dup, zT_dup2, zT_pop, zT_if1, zT_if2, zT_ifn, zT_getI, zT_getJ, zT_getR, zT_putI, zT_putZ, zT_putJ, zT_putR, zT_ald0, zT_lald, zT_aald, zT_iast, zT_zast, zT_bast, zT_last, zT_aast, zT_iret, zT_nret, zT_aret, zT_vret, zT_oi, zT_mm, zT_ialX, zT_S1, zT_S2, zT_S3, zT_V0, zT_V1, zT_V2, zT_V3, zT_V4, zT_V5, zT_V6, zT_I0, zT_I1, zT_I2, zlg, zlset, zlpr, zent, zok, va_rf, List.length_cons, List.length_nil, List.replicate, List.cons_append, List.nil_append, List.append_nil, Option.toList_some, Option.toList_none, Option.toList, Nat.reduceAdd, Nat.reduceSub, Nat.reduceLeDiff, Nat.zero_add, Nat.zero_le, true_and, and_true, Nat.le_refl, ge_iff_le, Nat.reduceEqDiff]
          rw [nI_clamp (by omega), a3, a4]
          refine ⟨fun h4 => skip M' _ hs ?_, fun h4 => ⟨hin, hin, ?_⟩⟩
          · unfold wdk1 wao?
            rw [if_neg (by simp only [decide_eq_true_eq]; exact fun z => h4 z.2)]
            exact hd
          · have h5 := Classical.not_not.mp h4
            have hon : wao? w h' n a = true := by
              unfold wao?
              rw [decide_eq_true_eq]
              exact ⟨e3, h5⟩
            have hc : wao a * 12 + wax a < 120 := by omega
            unfold zc_X7_cellAt
            dsimp only
            simp only [s2, r1, x1, zsh_10, zsh_12, wcell, zT_push, zT_bin, zT_div, zT_bil, zT_shl, zT_un, zT_i2l, zT_l2i, zT_lcmp, zT_ild, zT_lld, zT_ald, zT_ist, zT_lst, zT_ast, zT_iinc, zT_dup, zT_dup2, zT_pop, zT_if1, zT_if2, zT_ifn, zT_getI, zT_getJ, zT_getR, zT_putI, zT_putZ, zT_putJ, zT_putR, zT_ald0, zT_lald, zT_aald, zT_iast, zT_zast, zT_bast, zT_last, zT_aast, zT_iret, zT_nret, zT_aret, zT_vret, zT_oi, zT_mm, zT_ialX, zT_S1, zT_S2, zT_S3, zT_V0, zT_V1, zT_V2, zT_V3, zT_V4, zT_V5, zT_V6, zT_I0, zT_I1, zT_I2, zlg, zlset, zlpr, zent, zok, va_rf, List.length_cons, List.length_nil, List.replicate, List.cons_append, List.nil_append, List.append_nil, Option.toList_some, Option.toList_none, Option.toList, Nat.reduceAdd, Nat.reduceSub, Nat.reduceLeDiff, Nat.zero_add, Nat.zero_le, true_and, and_true, Nat.le_refl, ge_iff_le, Nat.reduceEqDiff]
            rw [nI_clamp (by omega), a2]
            have hst : ∀ v b, v = (if b = true then (1 : Int32) else 0) → zdy (zwI M' 12 (wao a * 12 + wax a) v) (va_up (wdk w h' n (acts.take i) D) (wao a * 12 + wax a) b) := by
              intro v b hv e he
              simp only [zwI_L, zwI_I, zwI_J, zwI_R, zwJ_L, zwJ_I, zwJ_J, zwJ_R, zwR_L, zwR_I, zwR_J, zwR_R, zw2_s, zw2_n, ne_eq, not_false_eq_true, reduceCtorEq, not_true_eq_false, Nat.reduceEqDiff]
              by_cases q : e = wao a * 12 + wax a
              · rw [q, zup_s, zup_s, hv]
              · rw [zup_n q, zup_n q]; exact hd e he
            refine ⟨hin, fun h6 => ⟨vp_in_nI hc (by decide), by decide, ?_⟩, fun h6 => ⟨hin, fun h7 => ⟨vp_in_nI hc (by decide), by decide, ?_⟩, fun h7 => skip M' _ hs ?_⟩⟩
            · have e6 := (nI_eq (b := 0) (by omega) (by omega)).mp h6
              refine skip _ _ (hs.w (by simp)) ?_
              rw [nI_clamp (by omega)]
              unfold wdk1
              rw [if_pos hon, if_pos e6]
              exact hst _ _ rfl
            · have e6 : ¬ wak a = 0 := fun z => h6 (by rw [z]; rfl)
              have e7 := (nI_eq (b := 1) (by omega) (by omega)).mp h7
              refine skip _ _ (hs.w (by simp)) ?_
              rw [nI_clamp (by omega)]
              unfold wdk1
              rw [if_pos hon, if_neg e6, if_pos e7]
              exact hst _ _ rfl
            · have e6 : ¬ wak a = 0 := fun z => h6 (by rw [z]; rfl)
              have e7 : ¬ wak a = 1 := fun z => h7 (by rw [z]; rfl)
              unfold wdk1
              rw [if_pos hon, if_neg e6, if_neg e7]
              exact hd
        · refine skip M' _ hs ?_
          unfold wdk1 wao?
          rw [if_neg (by simp only [decide_eq_true_eq]; exact fun z => h3 (by rw [z.1]))]
          exact hd
    · intro J hJ
      simp only [zb_X2_dykesIn_0, zT_push, zT_bin, zT_div, zT_bil, zT_shl, zT_un, zT_i2l, zT_l2i, zT_lcmp, zT_ild, zT_lld, zT_ald, zT_ist, zT_lst, zT_ast, zT_iinc, zT_dup, zT_dup2, zT_pop, zT_if1, zT_if2, zT_ifn, zT_getI, zT_getJ, zT_getR, zT_putI, zT_putZ, zT_putJ, zT_putR, zT_ald0, zT_lald, zT_aald, zT_iast, zT_zast, zT_bast, zT_last, zT_aast, zT_iret, zT_nret, zT_aret, zT_vret, zT_oi, zT_mm, zT_ialX, zT_S1, zT_S2, zT_S3, zT_V0, zT_V1, zT_V2, zT_V3, zT_V4, zT_V5, zT_V6, zT_I0, zT_I1, zT_I2, zlg, zlset, zlpr, zent, zok, va_rf, List.length_cons, List.length_nil, List.replicate, List.cons_append, List.nil_append, List.append_nil, Option.toList_some, Option.toList_none, Option.toList, Nat.reduceAdd, Nat.reduceSub, Nat.reduceLeDiff, Nat.zero_add, Nat.zero_le, true_and, and_true, Nat.le_refl, ge_iff_le, Nat.reduceEqDiff]
      exact hJ 20 _ _ _ ⟨0, none, rfl, Nat.zero_le _, rfl, rfl, zsm.rf, hdy⟩
  · exact h.elim
