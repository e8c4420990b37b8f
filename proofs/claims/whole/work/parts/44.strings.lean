/-! STRINGS: the constants of the Reader, read through the JDK's own code -/
section ZX
variable {X : zCt} {own nm : String} {cc : ByteArray} {nL : Nat} {ret : Option FieldType} {pc : Nat} {P : zPP}
def zT_no : zPP := fun _ _ _ => False
theorem zs_no : zSd X own nm cc nL ret pc zT_no := fun _ _ _ _ h => h.elim
def zT_xval (P : zPP) : zPP := fun M ls st => match st with
  | .ref k :: r => ∃ i, i < 8 ∧ k = 2010 + i ∧ P M ls (.ref (2020 + i) :: r)
  | _ => False
def zT_xcod (P : zPP) : zPP := fun M ls st => match st with
  | .ref k :: r => ∃ i, i < 8 ∧ k = 2010 + i ∧ P M ls (.int 0 :: r)
  | _ => False
def zT_xlen (P : zPP) : zPP := fun M ls st => match st with
  | .ref k :: r => ∃ i, i < 8 ∧ k = 2020 + i ∧ P M ls (.int (nI (zSl.getD i 0)) :: r)
  | _ => False
def zT_xba (P : zPP) : zPP := fun M ls st => match st with
  | .int j :: .ref k :: r => ∃ i, i < 8 ∧ k = 2020 + i ∧ vp_in j (zSl.getD i 0) ∧ P M ls (.int ((zSb.getD i []).getD j.toNatClampNeg 0) :: r)
  | _ => False
def zT_gsF (P : zPP) : zPP := fun M ls st => P M ls (.null :: st) ∧ P M ls (.ref 2003 :: st)
theorem zs_xval (hown : own = RJ0) (hlk : Cond.fieldLink RJ0 9 "java/lang/String" "value" "[B" ∈ gT) (hd : decode cc pc = .ok (.getfield 9, 3)) (k : zSd X own nm cc nL ret (pc + 3) P) : zSd X own nm cc nL ret pc (zT_xval P) := by
  intro C M ls st h
  obtain ⟨p, l, e, R, s, m, args, below, meth, c, D, Y, ad0, M0, K⟩ := X
  subst hown
  unfold zT_xval at h
  split at h
  · next kk r =>
    obtain ⟨i, hi, rfl, h3⟩ := h
    intro ad H locs lsA hW ho hl
    obtain ⟨x1, x2, x3, x4, x5, x6, x7, x8, x9, x10, x11⟩ := C.2.2.2.2.2.2.2.2.1
    have hG := k C M ls _ h3 ad H locs lsA hW (ho.top.2.push (Or.inr (Nat.le_trans (by decide) (Nat.le_add_right 2020 i)))) hl
    rw [List.map_cons, show zcv ad (.ref (2020 + i)) = .ref (ad0 (2020 + i)) from by show Value.ref (ad (2020 + i)) = _; rw [hW.2.2.2.2.2.1 (2020 + i) (by omega)]] at hG
    show W p l e R s m args below meth c H locs _ _ _ (F0 m pc lsA (.ref (ad (2010 + i)) :: _))
    rw [hW.2.2.2.2.2.1 (2010 + i) (by omega)]
    exact vk_getf C.1 C.2.1 (x9.1 i hi).2.2.1 hW.2.2.1 C.2.2.2.2.1 (C.2.2.2.2.2.1 _ hlk) (fun _ h => h) hd hG
  · exact h.elim
theorem zs_xcod (hown : own = RJ0) (hlk : Cond.fieldLink RJ0 15 "java/lang/String" "coder" "B" ∈ gT) (hd : decode cc pc = .ok (.getfield 15, 3)) (k : zSd X own nm cc nL ret (pc + 3) P) : zSd X own nm cc nL ret pc (zT_xcod P) := by
  intro C M ls st h
  obtain ⟨p, l, e, R, s, m, args, below, meth, c, D, Y, ad0, M0, K⟩ := X
  subst hown
  unfold zT_xcod at h
  split at h
  · next kk r =>
    obtain ⟨i, hi, rfl, h3⟩ := h
    intro ad H locs lsA hW ho hl
    obtain ⟨x1, x2, x3, x4, x5, x6, x7, x8, x9, x10, x11⟩ := C.2.2.2.2.2.2.2.2.1
    have hG := k C M ls _ h3 ad H locs lsA hW (ho.top.2.push trivial) hl
    show W p l e R s m args below meth c H locs _ _ _ (F0 m pc lsA (.ref (ad (2010 + i)) :: _))
    rw [hW.2.2.2.2.2.1 (2010 + i) (by omega)]
    exact vk_getf C.1 C.2.1 (x9.1 i hi).2.1 hW.2.2.1 C.2.2.2.2.1 (C.2.2.2.2.2.1 _ hlk) (fun _ h => h) hd hG
  · exact h.elim
theorem zs_xlen (hd : decode cc pc = .ok (.arraylength, 1)) (k : zSd X own nm cc nL ret (pc + 1) P) : zSd X own nm cc nL ret pc (zT_xlen P) := by
  intro C M ls st h
  obtain ⟨p, l, e, R, s, m, args, below, meth, c, D, Y, ad0, M0, K⟩ := X
  unfold zT_xlen at h
  split at h
  · next kk r =>
    obtain ⟨i, hi, rfl, h3⟩ := h
    intro ad H locs lsA hW ho hl
    obtain ⟨x1, x2, x3, x4, x5, x6, x7, x8, x9, x10, x11⟩ := C.2.2.2.2.2.2.2.2.1
    have hG := k C M ls _ h3 ad H locs lsA hW (ho.top.2.push trivial) hl
    show W p l e R s m args below meth c H locs _ _ _ (F0 m pc lsA (.ref (ad (2020 + i)) :: _))
    rw [hW.2.2.2.2.2.1 (2020 + i) (by omega)]
    exact va_tlen C.1 C.2.1 (x9.1 i hi).2.2.2 hW.2.2.1 rfl hd hG
  · exact h.elim
theorem zs_xba (hd : decode cc pc = .ok (.baload, 1)) (k : zSd X own nm cc nL ret (pc + 1) P) : zSd X own nm cc nL ret pc (zT_xba P) := by
  intro C M ls st h
  obtain ⟨p, l, e, R, s, m, args, below, meth, c, D, Y, ad0, M0, K⟩ := X
  unfold zT_xba at h
  split at h
  · next j kk r =>
    obtain ⟨i, hi, rfl, h2, h3⟩ := h
    intro ad H locs lsA hW ho hl
    obtain ⟨x1, x2, x3, x4, x5, x6, x7, x8, x9, x10, x11⟩ := C.2.2.2.2.2.2.2.2.1
    have hG := k C M ls _ h3 ad H locs lsA hW (ho.top.2.top.2.push trivial) hl
    show W p l e R s m args below meth c H locs _ _ _ (F0 m pc lsA (.int j :: .ref (ad (2020 + i)) :: _))
    rw [hW.2.2.2.2.2.1 (2020 + i) (by omega)]
    exact va_tb C.1 C.2.1 (x9.1 i hi).2.2.2 hW.2.2.1 h2 rfl hd hG
  · exact h.elim
theorem zs_xcs (hown : own = RJ0) (hlk : Cond.fieldLink RJ0 38 "java/lang/String" "COMPACT_STRINGS" "Z" ∈ gT) (hd : decode cc pc = .ok (.getstatic 38, 3)) (k : zSd X own nm cc nL ret (pc + 3) P) : zSd X own nm cc nL ret pc (zT_push (.int 1) P) := by
  intro C M ls st h
  obtain ⟨p, l, e, R, s, m, args, below, meth, c, D, Y, ad0, M0, K⟩ := X
  subst hown
  intro ad H locs lsA hW ho hl
  obtain ⟨x1, x2, x3, x4, x5, x6, x7, x8, x9, x10, x11, x12⟩ := C.2.2.2.2.2.2.2.2.1
  exact va_gets C.1 C.2.1 x11 hW.2.2.1 C.2.2.2.2.1 (C.2.2.2.2.2.1 _ hlk) (fun _ h => h) hd (k C M ls _ h ad H locs lsA hW (ho.push trivial) hl)
theorem zs_gsF (hown : own = RJ0) (hlk : Cond.fieldLink RJ0 1053 "jdk/internal/util/Preconditions" "SIOOBE_FORMATTER" "Ljava/util/function/BiFunction;" ∈ gT) (hd : decode cc pc = .ok (.getstatic 1053, 3)) (k : zSd X own nm cc nL ret (pc + 3) P) : zSd X own nm cc nL ret pc (zT_gsF P) := by
  intro C M ls st h
  obtain ⟨p, l, e, R, s, m, args, below, meth, c, D, Y, ad0, M0, K⟩ := X
  subst hown
  intro ad H locs lsA hW ho hl
  obtain ⟨x1, x2, x3, x4, x5, x6, x7, x8, x9, x10, x11, x12⟩ := C.2.2.2.2.2.2.2.2.1
  rcases x12 with x12 | x12
  · exact va_gets C.1 C.2.1 x12 hW.2.2.1 C.2.2.2.2.1 (C.2.2.2.2.2.1 _ hlk) (fun _ h => h) hd (k C M ls _ h.1 ad H locs lsA hW (ho.push trivial) hl)
  · have hG := k C M ls _ h.2 ad H locs lsA hW (ho.push (Or.inr (by decide))) hl
    rw [List.map_cons, show zcv ad (.ref 2003) = .ref (ad0 2003) from by show Value.ref (ad 2003) = _; rw [hW.2.2.2.2.2.1 2003 (by decide)]] at hG
    exact va_gets C.1 C.2.1 x12 hW.2.2.1 C.2.2.2.2.1 (C.2.2.2.2.2.1 _ hlk) (fun _ h => h) hd hG
/-- calls on the constants -/
def zT_VS0 (Cc : List Value → zMm → zKt → Prop) (P : zPP) : zPP := fun M ls st => match st with
  | .ref k :: r => (∃ i, i < 8 ∧ k = 2010 + i) ∧ r.length ≤ 4 ∧ Cc [.ref k] M (fun q M' => P M' ls (q.toList ++ r))
  | _ => False
def zT_VS1 (Cc : List Value → zMm → zKt → Prop) (P : zPP) : zPP := fun M ls st => match st with
  | a1 :: .ref k :: r => (∃ i, i < 8 ∧ k = 2010 + i) ∧ r.length ≤ 4 ∧ Cc [.ref k, a1] M (fun q M' => P M' ls (q.toList ++ r))
  | _ => False
theorem zCl_VS0 {Cc : List Value → zMm → zKt → Prop} : zCl X (fun _ _ _ as => ∃ kk as', as = .ref kk :: as' ∧ as'.length = 0 ∧ ∃ i, i < 8 ∧ kk = 2010 + i) (zT_VS0 Cc P) Cc 0 0 P := by
  intro M ls st h
  unfold zT_VS0 at h
  split at h
  · exact ⟨_, _, ⟨_, _, rfl, rfl, h.1⟩, rfl, h.2.1, Or.inl rfl, Or.inl rfl, h.2.2⟩
  · exact h.elim
theorem zCl_VS1 {Cc : List Value → zMm → zKt → Prop} : zCl X (fun _ _ _ as => ∃ kk as', as = .ref kk :: as' ∧ as'.length = 1 ∧ ∃ i, i < 8 ∧ kk = 2010 + i) (zT_VS1 Cc P) Cc 0 0 P := by
  intro M ls st h
  unfold zT_VS1 at h
  split at h
  · exact ⟨_, _, ⟨_, _, rfl, rfl, h.1⟩, rfl, h.2.1, Or.inl rfl, Or.inl rfl, h.2.2⟩
  · exact h.elim
theorem zs_VS {y : MethodName} {bytes : ByteArray} {maxL fr lo mc ms n idx : Nat} {rt : Option FieldType} {Cc : List Value → zMm → zKt → Prop} {T : zPP} (hcn : y.cls = RJ0) (hM : zMt X.2.1 X.2.2.2.2.2.2.2.2.2.2.1 X.2.2.2.2.2.2.2.2.2.2.2.1 y bytes maxL rt fr lo mc ms Cc) (hco : Cond.code y bytes maxL rt ∈ gT) (hlk : Cond.methodLink own idx y ∈ gT) (him : Cond.instanceMethod y ∈ gT) (hse : Cond.selects RJ0 y y ∈ gT) (hin : Cond.initialized y.cls ∈ gT)
    (hdn : y.cls ≠ "java/lang/invoke/MethodHandle" ∧ y.cls ≠ "java/lang/invoke/VarHandle" ∧ (parseMethodDescriptor y.desc).map (fun d => d.parameters.length) = some n) (hR : fr + 1 ≤ (zRX X).frames ∧ 8 + (maxL + 11) + lo ≤ (zRX X).locals) (hd : decode cc pc = .ok (.invokevirtual idx, 3))
    (hT : zCl X (fun _ _ _ as => ∃ kk as', as = .ref kk :: as' ∧ as'.length = n ∧ ∃ i, i < 8 ∧ kk = 2010 + i) T Cc mc ms P) (k : zSd X own nm cc nL ret (pc + 3) P) : zSd X own nm cc nL ret pc T := by
  intro C M ls st h
  obtain ⟨as, rest, ⟨kk, as', rfl, hlen, i, hi, rfl⟩, hst0, hr4, hm1, hm2, hC⟩ := hT M ls st h
  obtain ⟨p, l, e, R, s, m, args, below, meth, c, D, Y, ad0, M0, K⟩ := X
  intro ad H locs lsA hW ho hl
  subst hst0
  obtain ⟨⟨c1, c2⟩, c3⟩ := zlim (M0 := M0) (M := M) (R := R) hm1 hm2 hW.2.2.2.2.2.2.2.2.1 hW.2.2.2.2.2.2.2.2.2 hW.2.2.2.2.2.2.1 hW.2.2.2.2.2.2.2.1
  have hov : ∀ v ∈ (Value.ref (2010 + i) :: as'), zov M.1 v := fun v hv => ho.1 v (List.mem_append_left _ (List.mem_reverse.mpr hv))
  have horest : zoL M.1 ls rest := ⟨fun v hv => ho.1 v (List.mem_append_right _ hv), ho.2⟩
  have hws : ∀ w ∈ (Cond.code y bytes maxL rt :: gT), w ∈ gT := List.forall_mem_cons.mpr ⟨hco, fun _ h => h⟩
  obtain ⟨x1, x2, x3, x4, x5, x6, x7, x8, x9, x10⟩ := C.2.2.2.2.2.2.2.2.1
  have hrv : ∃ cell : Cell, H[ad (2010 + i)]? = some cell ∧ cell.vm.isStatics = false ∧ s.vm.findClass RJ0 = some cell.cls := by
    rw [hW.2.2.2.2.2.1 (2010 + i) (by omega)]
    exact vk_recv (adK := fun i => ad0 (2010 + i)) (i := i) x9 hi hW.2.2.1
  rw [List.map_append, List.map_reverse]
  have hcat := zcat_le (rest.map (zcv ad))
  rw [List.length_map] at hcat
  have hpre := zpre C hW hov
  refine zcall hW horest hl c1 c2 (va_runV (Ts := gT) (b := ad (2010 + i)) (As := as'.map (zcv ad)) (rest := rest.map (zcv ad)) ⟨C.1, C.2.1, C.2.2.1, C.2.2.2.2.1, C.2.2.2.2.2.1⟩ (hM ad M _ _ H.size hC) ⟨callB_of n C.2.2.2.2.2.1 (gT_good hws) rfl rfl rfl (C.2.2.2.2.2.1 _ hin) (C.2.2.2.2.2.1 _ hlk) hdn hR, C.2.2.2.2.2.1 _ him, C.2.2.2.2.2.1 _ hse⟩ ⟨hpre.1, hrv, hpre.2⟩ rfl (by rw [List.length_map]; exact hlen) hl.1 (by rw [List.map_cons, List.reverse_cons, List.append_assoc]; rfl) (lv_room (by omega)) hd c3) (fun r M' hK => k C M' ls _ hK)
end ZX
/-! java/lang/String coder -/
theorem zd_J0_coder_7d493_0 : decode cJ0_coder_7d493 0 = .ok (.getstatic 38, 3) := by decide +kernel
theorem zd_J0_coder_7d493_3 : decode cJ0_coder_7d493 3 = .ok (.ifCond .eq 10, 3) := by decide +kernel
theorem zd_J0_coder_7d493_6 : decode cJ0_coder_7d493 6 = .ok (.aload_n 0, 1) := by decide +kernel
theorem zd_J0_coder_7d493_7 : decode cJ0_coder_7d493 7 = .ok (.getfield 15, 3) := by decide +kernel
theorem zd_J0_coder_7d493_10 : decode cJ0_coder_7d493 10 = .ok (.goto 4, 3) := by decide +kernel
theorem zd_J0_coder_7d493_13 : decode cJ0_coder_7d493 13 = .ok (.iconst 1, 1) := by decide +kernel
theorem zd_J0_coder_7d493_14 : decode cJ0_coder_7d493 14 = .ok (.ireturn, 1) := by decide +kernel
def zb_J0_coder_7d493_14 (K : zKt) (J : Nat → zPP) : zPP := zT_nret .byte K
theorem zbs_J0_coder_7d493_14 {X : zCt} (hR : zRX X = { frames := 0, cells := 0, slots := 0, locals := 0 }) (J : Nat → zPP) (hJ : ∀ h ∈ ([] : List Nat), zSd X RJ0 "coder" cJ0_coder_7d493 1 (some .byte) h (J h)) : zSd X RJ0 "coder" cJ0_coder_7d493 1 (some .byte) 14 (zb_J0_coder_7d493_14 (zKX X) J) := zs_nret rfl zd_J0_coder_7d493_14
def zb_J0_coder_7d493_0 (K : zKt) (J : Nat → zPP) : zPP := zT_push (.int 1) (zT_if1 (fun x => x = 0) (zT_push (.int 1) (zb_J0_coder_7d493_14 K J)) (zT_ald 0 (zT_xcod (zb_J0_coder_7d493_14 K J))))
theorem zbs_J0_coder_7d493_0 {X : zCt} (hR : zRX X = { frames := 0, cells := 0, slots := 0, locals := 0 }) (J : Nat → zPP) (hJ : ∀ h ∈ ([] : List Nat), zSd X RJ0 "coder" cJ0_coder_7d493 1 (some .byte) h (J h)) : zSd X RJ0 "coder" cJ0_coder_7d493 1 (some .byte) 0 (zb_J0_coder_7d493_0 (zKX X) J) := zs_xcs rfl gw_2_90 zd_J0_coder_7d493_0 (zs_if_eq (tgt := 13) zd_J0_coder_7d493_3 (by decide) (zs_iconst zd_J0_coder_7d493_13 (by decide) (zbs_J0_coder_7d493_14 hR J hJ)) (zs_aload_n zd_J0_coder_7d493_6 rfl (zs_xcod rfl gw_4_141 zd_J0_coder_7d493_7 (zs_goto (tgt := 14) zd_J0_coder_7d493_10 (by decide) (zbs_J0_coder_7d493_14 hR J hJ)))))
theorem zdn_J0_coder_7d493 : yJ0_coder_7d493.cls ≠ "java/lang/invoke/MethodHandle" ∧ yJ0_coder_7d493.cls ≠ "java/lang/invoke/VarHandle" ∧ (parseMethodDescriptor yJ0_coder_7d493.desc).map (fun d => d.parameters.length) = some 0 := by decide +kernel
/-! java/lang/String isLatin1 -/
theorem zd_J0_isLatin1_aae02_0 : decode cJ0_isLatin1_aae02 0 = .ok (.getstatic 38, 3) := by decide +kernel
theorem zd_J0_isLatin1_aae02_3 : decode cJ0_isLatin1_aae02 3 = .ok (.ifCond .eq 14, 3) := by decide +kernel
theorem zd_J0_isLatin1_aae02_6 : decode cJ0_isLatin1_aae02 6 = .ok (.aload_n 0, 1) := by decide +kernel
theorem zd_J0_isLatin1_aae02_7 : decode cJ0_isLatin1_aae02 7 = .ok (.getfield 15, 3) := by decide +kernel
theorem zd_J0_isLatin1_aae02_10 : decode cJ0_isLatin1_aae02 10 = .ok (.ifCond .ne 7, 3) := by decide +kernel
theorem zd_J0_isLatin1_aae02_13 : decode cJ0_isLatin1_aae02 13 = .ok (.iconst 1, 1) := by decide +kernel
theorem zd_J0_isLatin1_aae02_14 : decode cJ0_isLatin1_aae02 14 = .ok (.goto 4, 3) := by decide +kernel
theorem zd_J0_isLatin1_aae02_17 : decode cJ0_isLatin1_aae02 17 = .ok (.iconst 0, 1) := by decide +kernel
theorem zd_J0_isLatin1_aae02_18 : decode cJ0_isLatin1_aae02 18 = .ok (.ireturn, 1) := by decide +kernel
def zb_J0_isLatin1_aae02_18 (K : zKt) (J : Nat → zPP) : zPP := zT_nret .boolean K
theorem zbs_J0_isLatin1_aae02_18 {X : zCt} (hR : zRX X = { frames := 0, cells := 0, slots := 0, locals := 0 }) (J : Nat → zPP) (hJ : ∀ h ∈ ([] : List Nat), zSd X RJ0 "isLatin1" cJ0_isLatin1_aae02 1 (some .boolean) h (J h)) : zSd X RJ0 "isLatin1" cJ0_isLatin1_aae02 1 (some .boolean) 18 (zb_J0_isLatin1_aae02_18 (zKX X) J) := zs_nret rfl zd_J0_isLatin1_aae02_18
def zb_J0_isLatin1_aae02_17 (K : zKt) (J : Nat → zPP) : zPP := zT_push (.int 0) (zb_J0_isLatin1_aae02_18 K J)
theorem zbs_J0_isLatin1_aae02_17 {X : zCt} (hR : zRX X = { frames := 0, cells := 0, slots := 0, locals := 0 }) (J : Nat → zPP) (hJ : ∀ h ∈ ([] : List Nat), zSd X RJ0 "isLatin1" cJ0_isLatin1_aae02 1 (some .boolean) h (J h)) : zSd X RJ0 "isLatin1" cJ0_isLatin1_aae02 1 (some .boolean) 17 (zb_J0_isLatin1_aae02_17 (zKX X) J) := zs_iconst zd_J0_isLatin1_aae02_17 (by decide) (zbs_J0_isLatin1_aae02_18 hR J hJ)
def zb_J0_isLatin1_aae02_0 (K : zKt) (J : Nat → zPP) : zPP := zT_push (.int 1) (zT_if1 (fun x => x = 0) (zb_J0_isLatin1_aae02_17 K J) (zT_ald 0 (zT_xcod (zT_if1 (fun x => x = 0) (zT_push (.int 1) (zb_J0_isLatin1_aae02_18 K J)) (zb_J0_isLatin1_aae02_17 K J)))))
theorem zbs_J0_isLatin1_aae02_0 {X : zCt} (hR : zRX X = { frames := 0, cells := 0, slots := 0, locals := 0 }) (J : Nat → zPP) (hJ : ∀ h ∈ ([] : List Nat), zSd X RJ0 "isLatin1" cJ0_isLatin1_aae02 1 (some .boolean) h (J h)) : zSd X RJ0 "isLatin1" cJ0_isLatin1_aae02 1 (some .boolean) 0 (zb_J0_isLatin1_aae02_0 (zKX X) J) := zs_xcs rfl gw_2_90 zd_J0_isLatin1_aae02_0 (zs_if_eq (tgt := 17) zd_J0_isLatin1_aae02_3 (by decide) (zbs_J0_isLatin1_aae02_17 hR J hJ) (zs_aload_n zd_J0_isLatin1_aae02_6 rfl (zs_xcod rfl gw_4_141 zd_J0_isLatin1_aae02_7 (zs_if_ne (tgt := 17) zd_J0_isLatin1_aae02_10 (by decide) (zbs_J0_isLatin1_aae02_17 hR J hJ) (zs_iconst zd_J0_isLatin1_aae02_13 (by decide) (zs_goto (tgt := 18) zd_J0_isLatin1_aae02_14 (by decide) (zbs_J0_isLatin1_aae02_18 hR J hJ)))))))
theorem zdn_J0_isLatin1_aae02 : yJ0_isLatin1_aae02.cls ≠ "java/lang/invoke/MethodHandle" ∧ yJ0_isLatin1_aae02.cls ≠ "java/lang/invoke/VarHandle" ∧ (parseMethodDescriptor yJ0_isLatin1_aae02.desc).map (fun d => d.parameters.length) = some 0 := by decide +kernel
/-! jdk/internal/util/Preconditions checkIndex -/
theorem zd_J3_checkIndex_8e157_0 : decode cJ3_checkIndex_8e157 0 = .ok (.iload_n 0, 1) := by decide +kernel
theorem zd_J3_checkIndex_8e157_1 : decode cJ3_checkIndex_8e157 1 = .ok (.ifCond .lt 8, 3) := by decide +kernel
theorem zd_J3_checkIndex_8e157_4 : decode cJ3_checkIndex_8e157 4 = .ok (.iload_n 0, 1) := by decide +kernel
theorem zd_J3_checkIndex_8e157_5 : decode cJ3_checkIndex_8e157 5 = .ok (.iload_n 1, 1) := by decide +kernel
theorem zd_J3_checkIndex_8e157_6 : decode cJ3_checkIndex_8e157 6 = .ok (.if_icmp .lt 10, 3) := by decide +kernel
theorem zd_J3_checkIndex_8e157_9 : decode cJ3_checkIndex_8e157 9 = .ok (.aload_n 2, 1) := by decide +kernel
theorem zd_J3_checkIndex_8e157_16 : decode cJ3_checkIndex_8e157 16 = .ok (.iload_n 0, 1) := by decide +kernel
theorem zd_J3_checkIndex_8e157_17 : decode cJ3_checkIndex_8e157 17 = .ok (.ireturn, 1) := by decide +kernel
def zb_J3_checkIndex_8e157_9 (K : zKt) (J : Nat → zPP) : zPP := zT_no
theorem zbs_J3_checkIndex_8e157_9 {X : zCt} (hR : zRX X = { frames := 0, cells := 0, slots := 0, locals := 0 }) (J : Nat → zPP) (hJ : ∀ h ∈ ([] : List Nat), zSd X RJ3 "checkIndex" cJ3_checkIndex_8e157 3 (some .int) h (J h)) : zSd X RJ3 "checkIndex" cJ3_checkIndex_8e157 3 (some .int) 9 (zb_J3_checkIndex_8e157_9 (zKX X) J) := zs_no
def zb_J3_checkIndex_8e157_0 (K : zKt) (J : Nat → zPP) : zPP := zT_ild 0 (zT_if1 (fun x => x < 0) (zb_J3_checkIndex_8e157_9 K J) (zT_ild 0 (zT_ild 1 (zT_if2 (fun x y => x < y) (zT_ild 0 (zT_iret K)) (zb_J3_checkIndex_8e157_9 K J)))))
theorem zbs_J3_checkIndex_8e157_0 {X : zCt} (hR : zRX X = { frames := 0, cells := 0, slots := 0, locals := 0 }) (J : Nat → zPP) (hJ : ∀ h ∈ ([] : List Nat), zSd X RJ3 "checkIndex" cJ3_checkIndex_8e157 3 (some .int) h (J h)) : zSd X RJ3 "checkIndex" cJ3_checkIndex_8e157 3 (some .int) 0 (zb_J3_checkIndex_8e157_0 (zKX X) J) := zs_iload_n zd_J3_checkIndex_8e157_0 rfl (zs_if_lt (tgt := 9) zd_J3_checkIndex_8e157_1 (by decide) (zbs_J3_checkIndex_8e157_9 hR J hJ) (zs_iload_n zd_J3_checkIndex_8e157_4 rfl (zs_iload_n zd_J3_checkIndex_8e157_5 rfl (zs_icmp_lt (tgt := 16) zd_J3_checkIndex_8e157_6 (by decide) (zs_iload_n zd_J3_checkIndex_8e157_16 rfl (zs_iret rfl zd_J3_checkIndex_8e157_17)) (zbs_J3_checkIndex_8e157_9 hR J hJ)))))
theorem zdn_J3_checkIndex_8e157 : yJ3_checkIndex_8e157.cls ≠ "java/lang/invoke/MethodHandle" ∧ yJ3_checkIndex_8e157.cls ≠ "java/lang/invoke/VarHandle" ∧ (parseMethodDescriptor yJ3_checkIndex_8e157.desc).map (fun d => d.parameters.length) = some 3 := by decide +kernel
