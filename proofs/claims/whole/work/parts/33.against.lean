/-! DeltaRuns againstFrom -/
theorem zd_X7_againstFrom_0 : decode cX7_againstFrom 0 = .ok (.iload_n 1, 1) := by decide +kernel
theorem zd_X7_againstFrom_1 : decode cX7_againstFrom 1 = .ok (.istore 4, 2) := by decide +kernel
theorem zd_X7_againstFrom_3 : decode cX7_againstFrom 3 = .ok (.iload 4, 2) := by decide +kernel
theorem zd_X7_againstFrom_5 : decode cX7_againstFrom 5 = .ok (.aload_n 0, 1) := by decide +kernel
theorem zd_X7_againstFrom_6 : decode cX7_againstFrom 6 = .ok (.getfield 26, 3) := by decide +kernel
theorem zd_X7_againstFrom_9 : decode cX7_againstFrom 9 = .ok (.getfield 72, 3) := by decide +kernel
theorem zd_X7_againstFrom_12 : decode cX7_againstFrom 12 = .ok (.if_icmp .ge 73, 3) := by decide +kernel
theorem zd_X7_againstFrom_15 : decode cX7_againstFrom 15 = .ok (.aload_n 0, 1) := by decide +kernel
theorem zd_X7_againstFrom_16 : decode cX7_againstFrom 16 = .ok (.getfield 26, 3) := by decide +kernel
theorem zd_X7_againstFrom_19 : decode cX7_againstFrom 19 = .ok (.getfield 207, 3) := by decide +kernel
theorem zd_X7_againstFrom_22 : decode cX7_againstFrom 22 = .ok (.iload 4, 2) := by decide +kernel
theorem zd_X7_againstFrom_24 : decode cX7_againstFrom 24 = .ok (.iaload, 1) := by decide +kernel
theorem zd_X7_againstFrom_25 : decode cX7_againstFrom 25 = .ok (.iload_n 3, 1) := by decide +kernel
theorem zd_X7_againstFrom_26 : decode cX7_againstFrom 26 = .ok (.if_icmp .gt 53, 3) := by decide +kernel
theorem zd_X7_againstFrom_29 : decode cX7_againstFrom 29 = .ok (.aload_n 0, 1) := by decide +kernel
theorem zd_X7_againstFrom_30 : decode cX7_againstFrom 30 = .ok (.getfield 26, 3) := by decide +kernel
theorem zd_X7_againstFrom_33 : decode cX7_againstFrom 33 = .ok (.getfield 210, 3) := by decide +kernel
theorem zd_X7_againstFrom_36 : decode cX7_againstFrom 36 = .ok (.iload 4, 2) := by decide +kernel
theorem zd_X7_againstFrom_38 : decode cX7_againstFrom 38 = .ok (.iaload, 1) := by decide +kernel
theorem zd_X7_againstFrom_39 : decode cX7_againstFrom 39 = .ok (.istore 5, 2) := by decide +kernel
theorem zd_X7_againstFrom_41 : decode cX7_againstFrom 41 = .ok (.aload_n 0, 1) := by decide +kernel
theorem zd_X7_againstFrom_42 : decode cX7_againstFrom 42 = .ok (.iload_n 2, 1) := by decide +kernel
theorem zd_X7_againstFrom_43 : decode cX7_againstFrom 43 = .ok (.iload 5, 2) := by decide +kernel
theorem zd_X7_againstFrom_45 : decode cX7_againstFrom 45 = .ok (.invokevirtual 119, 3) := by decide +kernel
theorem zd_X7_againstFrom_48 : decode cX7_againstFrom 48 = .ok (.iload 5, 2) := by decide +kernel
theorem zd_X7_againstFrom_50 : decode cX7_againstFrom 50 = .ok (.aload_n 0, 1) := by decide +kernel
theorem zd_X7_againstFrom_51 : decode cX7_againstFrom 51 = .ok (.getfield 26, 3) := by decide +kernel
theorem zd_X7_againstFrom_54 : decode cX7_againstFrom 54 = .ok (.getfield 213, 3) := by decide +kernel
theorem zd_X7_againstFrom_57 : decode cX7_againstFrom 57 = .ok (.iload 4, 2) := by decide +kernel
theorem zd_X7_againstFrom_59 : decode cX7_againstFrom 59 = .ok (.iaload, 1) := by decide +kernel
theorem zd_X7_againstFrom_60 : decode cX7_againstFrom 60 = .ok (.invokevirtual 123, 3) := by decide +kernel
theorem zd_X7_againstFrom_63 : decode cX7_againstFrom 63 = .ok (.aload_n 0, 1) := by decide +kernel
theorem zd_X7_againstFrom_64 : decode cX7_againstFrom 64 = .ok (.getfield 26, 3) := by decide +kernel
theorem zd_X7_againstFrom_67 : decode cX7_againstFrom 67 = .ok (.getfield 216, 3) := by decide +kernel
theorem zd_X7_againstFrom_70 : decode cX7_againstFrom 70 = .ok (.iload 4, 2) := by decide +kernel
theorem zd_X7_againstFrom_72 : decode cX7_againstFrom 72 = .ok (.iaload, 1) := by decide +kernel
theorem zd_X7_againstFrom_73 : decode cX7_againstFrom 73 = .ok (.if_icmp .eq 6, 3) := by decide +kernel
theorem zd_X7_againstFrom_76 : decode cX7_againstFrom 76 = .ok (.iload 4, 2) := by decide +kernel
theorem zd_X7_againstFrom_78 : decode cX7_againstFrom 78 = .ok (.ireturn, 1) := by decide +kernel
theorem zd_X7_againstFrom_79 : decode cX7_againstFrom 79 = .ok (.iinc 4 1, 3) := by decide +kernel
theorem zd_X7_againstFrom_82 : decode cX7_againstFrom 82 = .ok (.goto (-79), 3) := by decide +kernel
theorem zd_X7_againstFrom_85 : decode cX7_againstFrom 85 = .ok (.iconst (-1), 1) := by decide +kernel
theorem zd_X7_againstFrom_86 : decode cX7_againstFrom 86 = .ok (.ireturn, 1) := by decide +kernel
def zb_X7_againstFrom_0 (K : zKt) (J : Nat → zPP) (lc lz : Nat) : zPP := zT_ild 1 (zT_ist 4 (J 3))
theorem zbs_X7_againstFrom_0 {X : zCt} (hR : zRX X = { frames := 5, cells := 4, slots := 934, locals := 119 }) (J : Nat → zPP) (hJ : ∀ h ∈ ([3] : List Nat), zSd X RX7 "againstFrom" cX7_againstFrom 6 (some .int) h (J h)) : zSd X RX7 "againstFrom" cX7_againstFrom 6 (some .int) 0 (zb_X7_againstFrom_0 (zKX X) J (zlc X) (zls X)) := zs_iload_n zd_X7_againstFrom_0 rfl (zs_istore zd_X7_againstFrom_1 (by decide) (hJ 3 (by decide)))
def zb_X7_againstFrom_79 (K : zKt) (J : Nat → zPP) (lc lz : Nat) : zPP := zT_iinc 4 1 (J 3)
theorem zbs_X7_againstFrom_79 {X : zCt} (hR : zRX X = { frames := 5, cells := 4, slots := 934, locals := 119 }) (J : Nat → zPP) (hJ : ∀ h ∈ ([3] : List Nat), zSd X RX7 "againstFrom" cX7_againstFrom 6 (some .int) h (J h)) : zSd X RX7 "againstFrom" cX7_againstFrom 6 (some .int) 79 (zb_X7_againstFrom_79 (zKX X) J (zlc X) (zls X)) := zs_iinc zd_X7_againstFrom_79 (by decide) (by decide) (zs_goto (tgt := 3) zd_X7_againstFrom_82 (by decide) (hJ 3 (by decide)))
def zb_X7_againstFrom_3 (K : zKt) (J : Nat → zPP) (lc lz : Nat) : zPP := zT_ild 4 (zT_ald 0 (zT_getR 7 2 9 (zT_getI 0 4 5 (zT_if2 (fun x y => y ≤ x) (zT_push (.int (-1)) (zT_iret K)) (zT_ald 0 (zT_getR 7 2 9 (zT_getR 0 3 5 (zT_ild 4 (zT_ald0 0 (zT_ild 3 (zT_if2 (fun x y => y < x) (zb_X7_againstFrom_79 K J lc lz) (zT_ald 0 (zT_getR 7 2 9 (zT_getR 0 0 5 (zT_ild 4 (zT_ald0 0 (zT_ist 5 (zT_ald 0 (zT_ild 2 (zT_ild 5 (zT_V2 (zlm 2 467 lc lz) 7 9 zc_X7_runTo (zT_ild 5 (zT_ald 0 (zT_getR 7 2 9 (zT_getR 0 1 5 (zT_ild 4 (zT_ald0 0 (zT_V2 zok 6 2 zc_X6_heightOf (zT_ald 0 (zT_getR 7 2 9 (zT_getR 0 2 5 (zT_ild 4 (zT_ald0 0 (zT_if2 (fun x y => x = y) (zb_X7_againstFrom_79 K J lc lz) (zT_ild 4 (zT_iret K))))))))))))))))))))))))))))))))))))
theorem zbs_X7_againstFrom_3 {X : zCt} (hR : zRX X = { frames := 5, cells := 4, slots := 934, locals := 119 }) (J : Nat → zPP) (hJ : ∀ h ∈ ([3] : List Nat), zSd X RX7 "againstFrom" cX7_againstFrom 6 (some .int) h (J h)) : zSd X RX7 "againstFrom" cX7_againstFrom 6 (some .int) 3 (zb_X7_againstFrom_3 (zKX X) J (zlc X) (zls X)) := zs_iload zd_X7_againstFrom_3 (zs_aload_n zd_X7_againstFrom_5 rfl (zs_getR (ci := 7) (j := 2) (T := TX7) rfl inX7 (by decide) gw_1_187 rfl zd_X7_againstFrom_6 (zs_getI (ci := 0) (j := 4) (T := TX0) rfl inX0 (by decide) gw_1_93 rfl zd_X7_againstFrom_9 (zs_icmp_ge (tgt := 85) zd_X7_againstFrom_12 (by decide) (zs_iconst zd_X7_againstFrom_85 (by decide) (zs_iret rfl zd_X7_againstFrom_86)) (zs_aload_n zd_X7_againstFrom_15 rfl (zs_getR (ci := 7) (j := 2) (T := TX7) rfl inX7 (by decide) gw_1_187 rfl zd_X7_againstFrom_16 (zs_getR (ci := 0) (j := 3) (T := TX0) rfl inX0 (by decide) gw_1_91 rfl zd_X7_againstFrom_19 (zs_iload zd_X7_againstFrom_22 (zs_iald zd_X7_againstFrom_24 (zs_iload_n zd_X7_againstFrom_25 rfl (zs_icmp_gt (tgt := 79) zd_X7_againstFrom_26 (by decide) (zbs_X7_againstFrom_79 hR J hJ) (zs_aload_n zd_X7_againstFrom_29 rfl (zs_getR (ci := 7) (j := 2) (T := TX7) rfl inX7 (by decide) gw_1_187 rfl zd_X7_againstFrom_30 (zs_getR (ci := 0) (j := 0) (T := TX0) rfl inX0 (by decide) gw_1_85 rfl zd_X7_againstFrom_33 (zs_iload zd_X7_againstFrom_36 (zs_iald zd_X7_againstFrom_38 (zs_istore zd_X7_againstFrom_39 (by decide) (zs_aload_n zd_X7_againstFrom_41 rfl (zs_iload_n zd_X7_againstFrom_42 rfl (zs_iload zd_X7_againstFrom_43 (zs_V (ci := 7) rfl rfl (zm_X7_runTo _ _ _) gw_2_160 gw_2_157 gw_2_159 gw_0_9 gw_1_1 zdn_X7_runTo (zrm hR (by decide) (by decide)) zd_X7_againstFrom_45 (zCl_V2 zlm_l) (zs_iload zd_X7_againstFrom_48 (zs_aload_n zd_X7_againstFrom_50 rfl (zs_getR (ci := 7) (j := 2) (T := TX7) rfl inX7 (by decide) gw_1_187 rfl zd_X7_againstFrom_51 (zs_getR (ci := 0) (j := 1) (T := TX0) rfl inX0 (by decide) gw_1_87 rfl zd_X7_againstFrom_54 (zs_iload zd_X7_againstFrom_57 (zs_iald zd_X7_againstFrom_59 (zs_V (ci := 6) rfl rfl (zm_X6_heightOf _ _ _) gw_2_190 gw_2_187 gw_2_188 gw_2_189 gw_1_14 zdn_X6_heightOf (zrm hR (by decide) (by decide)) zd_X7_againstFrom_60 (zCl_V2 zok_l) (zs_aload_n zd_X7_againstFrom_63 rfl (zs_getR (ci := 7) (j := 2) (T := TX7) rfl inX7 (by decide) gw_1_187 rfl zd_X7_againstFrom_64 (zs_getR (ci := 0) (j := 2) (T := TX0) rfl inX0 (by decide) gw_1_89 rfl zd_X7_againstFrom_67 (zs_iload zd_X7_againstFrom_70 (zs_iald zd_X7_againstFrom_72 (zs_icmp_eq (tgt := 79) zd_X7_againstFrom_73 (by decide) (zbs_X7_againstFrom_79 hR J hJ) (zs_iload zd_X7_againstFrom_76 (zs_iret rfl zd_X7_againstFrom_78))))))))))))))))))))))))))))))))))))
def zB_X7_againstFrom (K : zKt) (lc lz : Nat) (J : Nat → zPP) (h : Nat) : zPP := if h = 3 then zb_X7_againstFrom_3 K J lc lz else (fun _ _ _ => False)
theorem zBs_X7_againstFrom {X : zCt} (hR : zRX X = { frames := 5, cells := 4, slots := 934, locals := 119 }) : ∀ J : Nat → zPP, (∀ h ∈ ([3] : List Nat), zSd X RX7 "againstFrom" cX7_againstFrom 6 (some .int) h (J h)) → ∀ h ∈ ([3] : List Nat), zSd X RX7 "againstFrom" cX7_againstFrom 6 (some .int) h (zB_X7_againstFrom (zKX X) (zlc X) (zls X) J h) := by
  intro J hJ h hh
  unfold zB_X7_againstFrom
  simp only [List.mem_cons, List.not_mem_nil, or_false] at hh
  subst hh
  exact zbs_X7_againstFrom_3 hR J hJ
theorem zdn_X7_againstFrom : yX7_againstFrom.cls ≠ "java/lang/invoke/MethodHandle" ∧ yX7_againstFrom.cls ≠ "java/lang/invoke/VarHandle" ∧ (parseMethodDescriptor yX7_againstFrom.desc).map (fun d => d.parameters.length) = some 3 := by decide +kernel
/-! DeltaRuns isDay -/
theorem zd_X7_isDay_0 : decode cX7_isDay 0 = .ok (.iload_n 0, 1) := by decide +kernel
theorem zd_X7_isDay_1 : decode cX7_isDay 1 = .ok (.iconst 0, 1) := by decide +kernel
theorem zd_X7_isDay_2 : decode cX7_isDay 2 = .ok (.sipush 1000, 3) := by decide +kernel
theorem zd_X7_isDay_5 : decode cX7_isDay 5 = .ok (.invokestatic 60, 3) := by decide +kernel
theorem zd_X7_isDay_8 : decode cX7_isDay 8 = .ok (.ireturn, 1) := by decide +kernel
def zb_X7_isDay_0 (K : zKt) (J : Nat → zPP) : zPP := zT_ild 0 (zT_push (.int 0) (zT_push (.int 1000) (zT_S3 zok zc_X7_within (zT_nret .boolean K))))
theorem zbs_X7_isDay_0 {X : zCt} (hR : zRX X = { frames := 1, cells := 0, slots := 0, locals := 22 }) (J : Nat → zPP) (hJ : ∀ h ∈ ([] : List Nat), zSd X RX7 "isDay" cX7_isDay 1 (some .boolean) h (J h)) : zSd X RX7 "isDay" cX7_isDay 1 (some .boolean) 0 (zb_X7_isDay_0 (zKX X) J) := zs_iload_n zd_X7_isDay_0 rfl (zs_iconst zd_X7_isDay_1 (by decide) (zs_sipush zd_X7_isDay_2 (by decide) (zs_S (zm_X7_within _ _ _) gw_1_219 gw_1_217 gw_1_218 gw_1_1 zdn_X7_within (zrm hR (by decide) (by decide)) zd_X7_isDay_5 (zCl_S3 zok_l) (zs_nret rfl zd_X7_isDay_8))))
theorem zdn_X7_isDay : yX7_isDay.cls ≠ "java/lang/invoke/MethodHandle" ∧ yX7_isDay.cls ≠ "java/lang/invoke/VarHandle" ∧ (parseMethodDescriptor yX7_isDay.desc).map (fun d => d.parameters.length) = some 1 := by decide +kernel
/-! ENTRIES: (year, cell, height, day); againstFrom -/
abbrev wEn : Type := Nat × Nat × Nat × Nat
def wey (e : wEn) : Nat := e.1
def wec (e : wEn) : Nat := e.2.1
def weh (e : wEn) : Nat := e.2.2.1
def wed (e : wEn) : Nat := e.2.2.2
def weok (e : wEn) : Prop := wey e ≤ 30 ∧ wec e < 120 ∧ weh e ≤ 200 ∧ wed e ≤ 1000
def zEn (M : zMm) (es : List wEn) : Prop := M.2.1 5 4 = nI es.length ∧ es.length ≤ 200 ∧ ∀ i e, es[i]? = some e → weok e ∧ M.2.1 6 i = nI (wey e) ∧ M.2.1 7 i = nI (wec e) ∧ M.2.1 8 i = nI (weh e) ∧ M.2.1 9 i = nI (wed e)
theorem zEn.run {M M' : zMm} {es : List wEn} {r : Nat} (h : zEn M es) (hn : zrn M M' r) : zEn M' es := by
  unfold zEn
  rw [hn.row (k := 5) (by omega), hn.row (k := 6) (by omega), hn.row (k := 7) (by omega), hn.row (k := 8) (by omega), hn.row (k := 9) (by omega)]
  exact h
/-- the first of k from i on -/
def wff (p : Nat → Bool) : Nat → Nat → Option Nat
  | 0, _ => none
  | k + 1, i => if p i = true then some i else wff p k (i + 1)
def woi (o : Option Nat) : Int32 := match o with
  | some j => nI j
  | none => -1
def weA (es : List wEn) (i : Nat) : wEn := es.getD i (0, 0, 0, 0)
theorem weA_get {es : List wEn} {i : Nat} (h : i < es.length) : es[i]? = some (weA es i) := by
  unfold weA
  rw [List.getD_eq_getElem?_getD, List.getElem?_eq_getElem h]
  rfl
/-- the entry i is known by the day and not as under the rule r; HT: the heights under r -/
def wbd (HT : Nat → Nat → Nat) (day : Nat) (e : wEn) : Bool := decide (wed e ≤ day ∧ HT (wey e) (wec e) ≠ weh e)
def wHT (σ : wSP) (r n x : Nat) : Nat := (wHD σ r n).1 x
def wAG (σ : wSP) (es : List wEn) (r day i : Nat) : Option Nat := wff (fun j => wbd (wHT σ r) day (weA es j)) (es.length - i) i
theorem zrn.ss {M M' : zMm} {r : Nat} (h : zrn M M' r) (hr : r < 36) : zss M.1 ≤ zss M'.1 ∧ zss M'.1 ≤ zss M.1 + 467 := by
  rcases h.1 with ⟨p1, -⟩ | ⟨-, p2, -⟩
  · rw [p1]; omega
  · obtain ⟨y0, y1⟩ := zyk_sh (yk := zyi r) ⟨r, hr, rfl⟩
    have z0 : zsz (zyi r) = 2 := zsz_obj y0
    have z1 : zsz (zyi r + 1) = 465 := by unfold zsz; rw [y1]; rfl
    have : zss (M.1 ++ [zyi r, zyi r + 1]) = zss M.1 + 467 := by
      unfold zss
      rw [List.map_append, List.sum_append]
      simp [z0, z1]
    rw [p2, this]
    omega
def zc_X7_againstFrom (a : List Value) (M : zMm) (K : zKt) : Prop := match a with
  | [.ref k, .int f, .int x, .int d] => k = 0 ∧ ∃ i r day σ pk dk p es, f = nI i ∧ i ≤ es.length ∧ x = nI r ∧ r < 36 ∧ d = nI day ∧ day ≤ 1000 ∧ zXI M σ pk dk p ∧ zEn M es ∧ ∀ M', zrn M M' r → zXI M' σ pk dk p → K (some (.int (woi (wAG σ es r day i)))) M'
  | _ => False
set_option maxHeartbeats 4000000 in
theorem zm_X7_againstFrom (l : Launch) (D : va_G) (Y : Nat → ClassId) : zMt l D Y yX7_againstFrom cX7_againstFrom 6 (some .int) 5 119 4 934 zc_X7_againstFrom := by
  refine zwhile1 (h0 := 3) (by decide) (fun K J lc lz => zb_X7_againstFrom_0 K J lc lz) (fun K lc lz J => zb_X7_againstFrom_3 K J lc lz) (fun X hR J hJ => zbs_X7_againstFrom_0 hR J hJ) (fun X hR J hJ => zbs_X7_againstFrom_3 hR J hJ) (fun avs M K h => ?_)
  unfold zc_X7_againstFrom at h
  split at h
  · next k f x d =>
    obtain ⟨rfl, i0, r, day, σ, pk, dk, p, es, rfl, hi0, rfl, hr, rfl, hday, hXI, hEn, h⟩ := h
    obtain ⟨y0, y1⟩ := zyk_sh (yk := zyi r) ⟨r, hr, rfl⟩
    have hl200 := hEn.2.1
    refine ⟨by simp [zent], fun q M' ls st => ∃ i o, q = 201 - i ∧ i ≤ es.length ∧ ls = [some (.ref 0), some (.int (nI i0)), some (.int (nI r)), some (.int (nI day)), some (.int (nI i)), o] ∧ st = [] ∧ zrn M M' r ∧ zXI M' σ pk dk p ∧ wAG σ es r day i = wAG σ es r day i0, ?_, ?_⟩
    · rintro q J hJ M' ls st ⟨i, o, rfl, hi, rfl, rfl, hrn, hxi, hag⟩
      obtain ⟨hxr, hok, -⟩ := id hxi
      obtain ⟨a0, a1, a2, a3, a4, a5, a6, a7, a8, a9, a10, a11, a12, -⟩ := id hxr
      obtain ⟨en1, en2, en3⟩ := hEn.run hrn
      simp only [zb_X7_againstFrom_3, zsh_0, zsh_5, zsh_6, zsh_9, a2, a9, a12, en1, zT_push, zT_bin, zT_div, zT_bil, zT_shl, zT_un, zT_i2l, zT_l2i, zT_lcmp, zT_ild, zT_lld, zT_ald, zT_ist, zT_lst, zT_ast, zT_iinc, zT_dup, zT_dup2, zT_pop, zT_if1, zT_if2, zT_ifn, zT_getI, zT_getJ, zT_getR, zT_putI, zT_putZ, zT_putJ, zT_putR, zT_ald0, zT_lald, zT_aald, zT_iast, zT_zast, zT_bast, zT_last, zT_aast, zT_iret, zT_nret, zT_aret, zT_vret, zT_oi, zT_mm, zT_ialX, zT_S1, zT_S2, zT_S3, zT_V0, zT_V1, zT_V2, zT_V3, zT_V4, zT_V5, zT_V6, zT_I0, zT_I1, zT_I2, zlg, zlset, zlpr, zent, zok, va_rf, List.length_cons, List.length_nil, List.replicate, List.cons_append, List.nil_append, List.append_nil, Option.toList_some, Option.toList_none, Option.toList, Nat.reduceAdd, Nat.reduceSub, Nat.reduceLeDiff, Nat.zero_add, Nat.zero_le, true_and, and_true, Nat.le_refl, ge_iff_le, Nat.reduceEqDiff]
      refine ⟨fun h1 => ?_, fun h1 => ?_⟩
      · have := zn_ge' h1 (by omega) (by omega)
        have e : i = es.length := by omega
        subst e
        have h2 := h M' hrn hxi
        rw [← hag] at h2
        unfold wAG at h2
        rw [Nat.sub_self] at h2
        exact h2
      · have hlt := zn_ge h1 (by omega) (by omega)
        have hg := weA_get hlt
        obtain ⟨⟨o1, o2, o3, o4⟩, v1, v2, v3, v4⟩ := en3 i _ hg
        have hunf : wAG σ es r day i = if wbd (wHT σ r) day (weA es i) = true then some i else wAG σ es r day (i + 1) := by
          unfold wAG
          rw [show es.length - i = (es.length - (i + 1)) + 1 from by omega]
          rfl
        have hin : vp_in (nI i) 200 := vp_in_nI (by omega) (by decide)
        have skip : ∀ M2 o, zrn M M2 r → zXI M2 σ pk dk p → wbd (wHT σ r) day (weA es i) = false → zb_X7_againstFrom_79 K J (M.1.length + 4) (zss M.1 + 934) M2 [some (.ref 0), some (.int (nI i0)), some (.int (nI r)), some (.int (nI day)), some (.int (nI i)), o] [] := by
          intro M2 o hrn2 hxi2 hb
          simp only [zb_X7_againstFrom_79, zT_push, zT_bin, zT_div, zT_bil, zT_shl, zT_un, zT_i2l, zT_l2i, zT_lcmp, zT_ild, zT_lld, zT_ald, zT_ist, zT_lst, zT_ast, zT_iinc, zT_dup, zT_dup2, zT_pop, zT_if1, zT_if2, zT_ifn, zT_getI, zT_getJ, zT_getR, zT_putI, zT_putZ, zT_putJ, zT_putR, zT_ald0, zT_lald, zT_aald, zT_iast, zT_zast, zT_bast, zT_last, zT_aast, zT_iret, zT_nret, zT_aret, zT_vret, zT_oi, zT_mm, zT_ialX, zT_S1, zT_S2, zT_S3, zT_V0, zT_V1, zT_V2, zT_V3, zT_V4, zT_V5, zT_V6, zT_I0, zT_I1, zT_I2, zlg, zlset, zlpr, zent, zok, va_rf, List.length_cons, List.length_nil, List.replicate, List.cons_append, List.nil_append, List.append_nil, Option.toList_some, Option.toList_none, Option.toList, Nat.reduceAdd, Nat.reduceSub, Nat.reduceLeDiff, Nat.zero_add, Nat.zero_le, true_and, and_true, Nat.le_refl, ge_iff_le, Nat.reduceEqDiff]
          refine hJ (201 - (i + 1)) _ _ _ (by omega) ⟨i + 1, o, rfl, hlt, by rw [nI_1], rfl, hrn2, hxi2, ?_⟩
          rw [← hag, hunf, hb]
          simp
        rw [nI_clamp (by omega), v4, v1]
        refine ⟨hin, fun h2 => ?_, fun h2 => ?_⟩
        · refine skip M' _ hrn hxi ?_
          have := (nI_ltI (by omega) (by omega)).mp h2
          unfold wbd
          simp only [decide_eq_false_iff_not]
          omega
        · have hle : wed (weA es i) ≤ day := by
            rcases Nat.lt_or_ge day (wed (weA es i)) with q | q
            · exact absurd ((nI_ltI (by omega) (by omega)).mpr q) h2
            · exact q
          have hln := hrn.len
          have hss := hrn.ss hr
          refine ⟨hin, ⟨by omega, by omega⟩, ?_⟩
          unfold zc_X7_runTo
          dsimp only
          refine ⟨rfl, r, wey (weA es i), σ, pk, dk, p, rfl, hr, rfl, o1, hxi, fun M2 m hrn2 hxi2 hm1 hm2 r1 r2 hlat hzy => ?_⟩
          obtain ⟨hxr2, hok2, -⟩ := id hxi2
          obtain ⟨b0, b1, b2, b3, b4, b5, b6, b7, b8, b9, b10, b11, b12, -⟩ := id hxr2
          obtain ⟨-, -, en32⟩ := hEn.run (hrn.tr hrn2)
          obtain ⟨-, u1, u2, u3, u4⟩ := en32 i _ hg
          simp only [zsh_0, zsh_5, zsh_7, zsh_8, y0, b2, b10, b11, zT_push, zT_bin, zT_div, zT_bil, zT_shl, zT_un, zT_i2l, zT_l2i, zT_lcmp, zT_ild, zT_lld, zT_ald, zT_ist, zT_lst, zT_ast, zT_iinc, zT_dup, zT_dup2, zT_pop, zT_if1, zT_if2, zT_ifn, zT_getI, zT_getJ, zT_getR, zT_putI, zT_putZ, zT_putJ, zT_putR, zT_ald0, zT_lald, zT_aald, zT_iast, zT_zast, zT_bast, zT_last, zT_aast, zT_iret, zT_nret, zT_aret, zT_vret, zT_oi, zT_mm, zT_ialX, zT_S1, zT_S2, zT_S3, zT_V0, zT_V1, zT_V2, zT_V3, zT_V4, zT_V5, zT_V6, zT_I0, zT_I1, zT_I2, zlg, zlset, zlpr, zent, zok, va_rf, List.length_cons, List.length_nil, List.replicate, List.cons_append, List.nil_append, List.append_nil, Option.toList_some, Option.toList_none, Option.toList, Nat.reduceAdd, Nat.reduceSub, Nat.reduceLeDiff, Nat.zero_add, Nat.zero_le, true_and, and_true, Nat.le_refl, ge_iff_le, Nat.reduceEqDiff]
          rw [nI_clamp (by omega), u2]
          refine ⟨hin, ?_⟩
          unfold zc_X6_heightOf
          dsimp only
          refine ⟨⟨⟨r, hr, rfl⟩, r2⟩, wey (weA es i), wec (weA es i), (wHD σ r (wey (weA es i))).1, rfl, o1, rfl, o2, fun e _ => wHD_le hok r _ e, fun j hj => hzy _ hm1 j hj, ?_⟩
          simp only [zsh_0, zsh_5, zsh_8, b2, b11, zT_push, zT_bin, zT_div, zT_bil, zT_shl, zT_un, zT_i2l, zT_l2i, zT_lcmp, zT_ild, zT_lld, zT_ald, zT_ist, zT_lst, zT_ast, zT_iinc, zT_dup, zT_dup2, zT_pop, zT_if1, zT_if2, zT_ifn, zT_getI, zT_getJ, zT_getR, zT_putI, zT_putZ, zT_putJ, zT_putR, zT_ald0, zT_lald, zT_aald, zT_iast, zT_zast, zT_bast, zT_last, zT_aast, zT_iret, zT_nret, zT_aret, zT_vret, zT_oi, zT_mm, zT_ialX, zT_S1, zT_S2, zT_S3, zT_V0, zT_V1, zT_V2, zT_V3, zT_V4, zT_V5, zT_V6, zT_I0, zT_I1, zT_I2, zlg, zlset, zlpr, zent, zok, va_rf, List.length_cons, List.length_nil, List.replicate, List.cons_append, List.nil_append, List.append_nil, Option.toList_some, Option.toList_none, Option.toList, Nat.reduceAdd, Nat.reduceSub, Nat.reduceLeDiff, Nat.zero_add, Nat.zero_le, true_and, and_true, Nat.le_refl, ge_iff_le, Nat.reduceEqDiff]
          rw [nI_clamp (by omega), u3]
          have hle2 := wHD_le hok r (wey (weA es i)) (wec (weA es i))
          refine ⟨hin, fun h3 => ?_, fun h3 => ?_⟩
          · refine skip M2 _ (hrn.tr hrn2) hxi2 ?_
            have := (nI_eq (by omega) (by omega)).mp h3
            unfold wbd wHT
            simp only [decide_eq_false_iff_not]
            exact fun z => z.2 this
          · have h4 := h M2 (hrn.tr hrn2) hxi2
            rw [← hag, hunf, if_pos] at h4
            · exact h4
            · unfold wbd wHT
              simp only [decide_eq_true_eq]
              exact ⟨hle, fun z => h3 (by rw [z])⟩
    · intro J hJ
      simp only [zb_X7_againstFrom_0, zT_push, zT_bin, zT_div, zT_bil, zT_shl, zT_un, zT_i2l, zT_l2i, zT_lcmp, zT_ild, zT_lld, zT_ald, zT_ist, zT_lst, zT_ast, zT_iinc, zT_dup, zT_dup2, zT_pop, zT_if1, zT_if2, zT_ifn, zT_getI, zT_getJ, zT_getR, zT_putI, zT_putZ, zT_putJ, zT_putR, zT_ald0, zT_lald, zT_aald, zT_iast, zT_zast, zT_bast, zT_last, zT_aast, zT_iret, zT_nret, zT_aret, zT_vret, zT_oi, zT_mm, zT_ialX, zT_S1, zT_S2, zT_S3, zT_V0, zT_V1, zT_V2, zT_V3, zT_V4, zT_V5, zT_V6, zT_I0, zT_I1, zT_I2, zlg, zlset, zlpr, zent, zok, va_rf, List.length_cons, List.length_nil, List.replicate, List.cons_append, List.nil_append, List.append_nil, Option.toList_some, Option.toList_none, Option.toList, Nat.reduceAdd, Nat.reduceSub, Nat.reduceLeDiff, Nat.zero_add, Nat.zero_le, true_and, and_true, Nat.le_refl, ge_iff_le, Nat.reduceEqDiff]
      exact hJ (201 - i0) _ _ _ ⟨i0, none, rfl, hi0, rfl, rfl, zrn.rf, hXI, rfl⟩
  · exact h.elim
def zc_X7_isDay (a : List Value) (M : zMm) (K : zKt) : Prop := match a with
  | [.int x] => K (some (.int (zbI (0 ≤ x ∧ x ≤ 1000)))) M
  | _ => False
theorem zm_X7_isDay (l : Launch) (D : va_G) (Y : Nat → ClassId) : zMt l D Y yX7_isDay cX7_isDay 1 (some .boolean) 1 22 0 0 zc_X7_isDay := by
  refine zflat (by decide) (fun K J _ _ => zb_X7_isDay_0 K J) (fun X hR => zbs_X7_isDay_0 hR zJ0 zJ0_ok) (fun avs M K h => ?_)
  unfold zc_X7_isDay at h
  split at h
  · refine ⟨by simp [zent], ?_⟩
    simp only [zb_X7_isDay_0, zT_push, zT_bin, zT_div, zT_bil, zT_shl, zT_un, zT_i2l, zT_l2i, zT_lcmp, zT_ild, zT_lld, zT_ald, zT_ist, zT_lst, zT_ast, zT_iinc, zT_dup, zT_dup2, zT_pop, zT_if1, zT_if2, zT_ifn, zT_getI, zT_getJ, zT_getR, zT_putI, zT_putZ, zT_putJ, zT_putR, zT_ald0, zT_lald, zT_aald, zT_iast, zT_zast, zT_bast, zT_last, zT_aast, zT_iret, zT_nret, zT_aret, zT_vret, zT_oi, zT_mm, zT_ialX, zT_S1, zT_S2, zT_S3, zT_V0, zT_V1, zT_V2, zT_V3, zT_V4, zT_V5, zT_V6, zT_I0, zT_I1, zT_I2, zlg, zlset, zlpr, zent, zok, va_rf, List.length_cons, List.length_nil, List.replicate, List.cons_append, List.nil_append, List.append_nil, Option.toList_some, Option.toList_none, Option.toList, Nat.reduceAdd, Nat.reduceSub, Nat.reduceLeDiff, Nat.zero_add, Nat.zero_le, true_and, and_true, Nat.le_refl, ge_iff_le, Nat.reduceEqDiff]
    unfold zc_X7_within
    dsimp only
    refine ⟨?_, h⟩
    unfold zbI
    split <;> rfl
  · exact h.elim
