/-! THE LAW: from its entry -/
section LI
variable {p : Program} {l : Launch} {e : Env} {R : Room} {s : State} {m : MethodId} {args : Array Value} {below : List Frame} {meth : Method} {c : Code} {D : va_G} {Y : Nat → ClassId} {ad0 ad ad2 : Nat → Nat} {M M2 : zMm} {K1 : zKt} {H : Heap} {locs : List Loc} {lsA : Array Slot} {st0 rest : List Value} {mc ms pc : Nat} {Z : State → Prop}
/-- a constructor without arguments -/
theorem lI {y : MethodName} {bytes : ByteArray} {maxL idx fr lo : Nat} {Cc : List Value → zMm → zKt → Prop} {own : String} {kk : Nat} {nL : Nat} {cc : ByteArray}
    (C : p.tables.exec = Jvm.exec ∧ c.code = cc ∧ c.maxLocals = nL ∧ s.vm.findClass own = some m.cls ∧ ∀ w ∈ gT, w.before args s = true) (hK : va_K D vwCl (zTY Y) s) (hE : zEX ad0 (fun q => s.heap.size ≤ q) s)
    (hH : lH D Y ad0 s ad M ad2 M2 H locs) (hni : y.name = "<init>") (hM : zMt l D Y y bytes maxL none fr lo mc ms Cc) (hco : Cond.code y bytes maxL none ∈ gT) (hlk : Cond.methodLink own idx y ∈ gT) (him : Cond.instanceMethod y ∈ gT) (hin : Cond.initialized y.cls ∈ gT)
    (hdn : y.cls ≠ "java/lang/invoke/MethodHandle" ∧ y.cls ≠ "java/lang/invoke/VarHandle" ∧ (parseMethodDescriptor y.desc).map (fun d => d.parameters.length) = some 0) (hR : fr + 1 ≤ R.frames ∧ 8 + (maxL + 11) + lo ≤ R.locals) (hd : decode cc pc = .ok (.invokespecial idx, 3))
    (hkL : kk ∈ M.1) (hsz : lsA.size = nL) (hst : st0 = Value.ref (ad kk) :: rest) (hrest : (rest.map fun v => v.category).sum ≤ 8) (hroom : M.1.length + M2.1.length + mc ≤ R.cells ∧ zss M.1 + zss M2.1 + ms ≤ R.slots)
    (hC : Cc [.ref kk] M K1)
    (kont : ∀ (r : Option Value) (M' : zMm) (ad' : Nat → Nat) (H' : Heap) (locs' : List Loc), K1 r M' → lH D Y ad0 s ad' M' ad2 M2 H' locs' → (∀ k ∈ M.1, k ∈ M'.1 ∧ ad' k = ad k) → M'.1.length ≤ M.1.length + mc → zss M'.1 ≤ zss M.1 + ms → W p l e R s m args below meth c H' locs' (M'.1.length + M2.1.length) (zss M'.1 + zss M2.1) Z (F0 m (pc + 3) lsA ((r.map (zcv ad')).toList ++ rest))) :
    W p l e R s m args below meth c H locs (M.1.length + M2.1.length) (zss M.1 + zss M2.1) Z (F0 m pc lsA st0) := by
  have hov : ∀ v ∈ ([Value.ref kk] : List Value), zov M.1 v := by
    intro v hv
    rcases List.mem_cons.mp hv with rfl | hv
    · exact Or.inl hkL
    · exact absurd hv List.not_mem_nil
  have hws : ∀ w ∈ (Cond.code y bytes maxL none :: gT), w ∈ gT := List.forall_mem_cons.mpr ⟨hco, fun _ h => h⟩
  have hpre := lpre hK hE hH hov
  have hts := C.2.2.2.2
  subst hst
  exact lcall hH (va_runI (Ts := gT) (b := ad kk) (As := []) (rest := rest) C (hM ad M [.ref kk] K1 H.size hC) ⟨callB_of 0 hts (gT_good hws) rfl rfl rfl (hts _ hin) (hts _ hlk) hdn hR, hni, hts _ him⟩ hpre rfl rfl hsz rfl (lv_room hrest) hd hroom) kont
end LI
def zE : zMm := ([], fun _ _ => 0, fun _ _ => 0, fun _ _ => none)
theorem zom_1 (k : Nat) (hk : k < 2000) : zom (([k], fun _ _ => 0, fun _ _ => 0, fun _ _ => none) : zMm) := by
  refine ⟨by simp, fun k' h => ?_, fun k' _ j t h => by cases h⟩
  have : k' = k := by simpa using h
  omega
set_option maxHeartbeats 4000000 in
set_option maxRecDepth 100000 in
theorem whole_start {p : Program} {e : Env} {s : State} {m : MethodId} {below : List Frame} {meth : Method} {c : Code} (l : Launch) {b L : Nat} {xs : Nat → Int32} (hL : L ≤ 3072) (C0 : lw_At p s m meth c b L xs) : W p l e room_1 s m #[Value.ref b] below meth c s.heap [] 0 0 (lw_Z below #[Value.ref b] s) (entryFrame m ([Value.ref b] : List Value).toArray 4) := by
  obtain ⟨D, Y, ad0, C⟩ := lw_ctx C0
  obtain ⟨hx, hb, hr, hml, hown, hts, hX, hbl, hlocks, hgv⟩ := id C0
  obtain ⟨-, hK, hE⟩ := id C
  have htg : ∀ w ∈ gT, w.before #[Value.ref b] s = true := fun w hw => hts w (gT_sub hw)
  have CF : p.tables.exec = Jvm.exec ∧ c.code = code ∧ c.maxLocals = 4 ∧ s.vm.findClass RL = some m.cls ∧ ∀ w ∈ gT, w.before #[Value.ref b] s = true := ⟨hx, hb, hml, hown, htg⟩
  have hA : ∀ q : Nat, s.heap.size ≤ q → (fun q : Nat => s.heap.size ≤ q) q := fun _ h => h
  have hl := lv_entry ([.ref b]) (n := 4) (Nat.le_of_ble_eq_true rfl)
  rw [lg_entry_eq]
  generalize (lg_sl ([.ref b]) ++ List.replicate (4 - (lg_sl ([.ref b])).length) Slot.unset).toArray = ls at hl ⊢
  have hl : lv_has ls 4 [(0, .ref b)] := hl
  have hS0 : va_S (fun q : Nat => s.heap.size ≤ q) s.heap s.heap [] := va_S.rf
  have hP0 : va_P D vwCl [] s.heap := fun k q h => by simp at h
  have hD0 : va_D (fun q : Nat => s.heap.size ≤ q) ([] : va_W) := ⟨fun i j p q h => by simp at h, fun k q h => by simp at h⟩
  refine va_new (ci := 7) (fs := zfl ad0 zM0 0 7 9) (C := RX7) (T := TX7) (N := 9) hx hb htg inX7 tyX7 tyX7_ok hown (htg _ gw_1_15) (htg _ gw_1_16) (htg _ gw_1_1) hK hP0 hD0 hS0 hA rfl (fun j hj => ?_) (by decide) (by decide) zdL_0 (fun q H hP hD hS => ?_)
  · rcases (show j = 0 ∨ j = 1 ∨ j = 2 ∨ j = 3 ∨ j = 4 ∨ j = 5 ∨ j = 6 ∨ j = 7 ∨ j = 8 by omega) with rfl | rfl | rfl | rfl | rfl | rfl | rfl | rfl | rfl <;> rfl
  have ez : zwl Y (va_up ad0 0 q) zM0 = [(q, .inr (7, zfl ad0 zM0 0 7 9))] := rfl
  refine zW_know (fun g1 g2 => ?_)
  have hH : lH D Y ad0 s (va_up ad0 0 q) zM0 ad0 zE H [] := by
    refine ⟨by rw [ez]; exact hP, fun k q h => (by simp [zwl, zE] at h), by rw [ez]; exact hD, ⟨fun i j p q h => (by simp [zwl, zE] at h), fun k q h => (by simp [zwl, zE] at h)⟩, fun k _ k' hk' => absurd hk' List.not_mem_nil, hS, zom_1 0 (by decide), ⟨List.nodup_nil, fun k hk => absurd hk List.not_mem_nil, fun k hk => absurd hk List.not_mem_nil⟩, fun k hk => zup_n (by omega), fun k _ => rfl, g1, g2⟩
  refine lv_dup hx hb zdL_3 rfl ?_
  refine lI (kk := 0) (M := zM0) (M2 := zE) (mc := 35) (ms := 2500) (rest := [.ref q]) CF hK hE hH rfl (zm_X7_init l D Y) gw_1_19 gw_1_17 gw_1_18 gw_1_1 zdn_X7_init ⟨by decide, by decide⟩ zdL_4 List.mem_cons_self hl.1 rfl (by show (1 : Nat) + 0 ≤ 8; decide) ⟨by decide, by decide⟩ (K1 := fun r M' => r = none ∧ zXF M' wF0 21 27 0) ⟨rfl, rfl, fun M' h' => ⟨rfl, h'⟩⟩ (fun r MX adX H1 locs1 hK1 hH1 hk1 hl1 hl2 => ?_)
  obtain ⟨rfl, hXF⟩ := hK1
  obtain ⟨h0m, h0a⟩ := hk1 0 List.mem_cons_self
  have h0a' : adX 0 = q := h0a
  have hroom := zXF_room hXF
  show W p l e room_1 s m #[Value.ref b] below meth c H1 locs1 _ _ _ (F0 m 7 ls [.ref q])
  rw [← h0a']
  refine lv_astore_n (lv' := [(1, .ref (adX 0)), (0, .ref b)]) hx hb zdL_7 rfl hl (by decide) rfl (fun ls hl => ?_)
  refine va_new (ci := 8) (fs := zfl ad0 zN0 200 8 38) (C := RX8) (T := TX8) (N := 38) hx hb htg inX8 tyX8 tyX8_ok hown (htg _ gw_3_79) (htg _ gw_3_80) (htg _ gw_1_7) hK hH1.1 hH1.2.2.1 hH1.2.2.2.2.2.1 hA rfl (fun j hj => ?_) (by have : room_1.cells = 600000 := rfl; have : zE.1.length = 0 := rfl; omega) (by have : room_1.slots = 7302250 := rfl; have : zss zE.1 = 0 := rfl; omega) zdL_8 (fun q2 H2 hP2 hD2 hS2 => ?_)
  · have : ∀ j, j < 38 → defaultValue (tyX8 j) = vp_V (zfl ad0 zN0 200 8 38) j := by
      intro j hj
      have hv : vp_V (zfl ad0 zN0 200 8 38) j = zfv ad0 zN0 200 j (zft 8 j) := by
        unfold vp_V
        rw [List.getD_eq_getElem?_getD, zfl_get hj]
        rfl
      rw [hv]
      have hd : ∀ j, j < 38 → defaultValue (tyX8 j) = (match zft 8 j with | 0 => .int 0 | 1 => .long 0 | _ => .null) := by decide +kernel
      rw [hd j hj]
      unfold zfv
      generalize zft 8 j = t
      match t with
      | 0 => rfl
      | 1 => rfl
      | t + 2 => rfl
    exact this j hj
  have ez2 : zwl Y (va_up ad0 200 q2) zN0 = [(q2, .inr (8, zfl ad0 zN0 200 8 38))] := rfl
  refine zW_know (fun g1 g2 => ?_)
  have hlen : (zwl Y adX MX).length = MX.1.length := by unfold zwl; rw [List.length_map]
  have hat2 : (zwl Y adX MX ++ [(q2, (.inr (8, zfl ad0 zN0 200 8 38) : va_E))])[(zwl Y adX MX).length]? = some (q2, .inr (8, zfl ad0 zN0 200 8 38)) := by
    rw [List.getElem?_append_right (Nat.le_refl _), Nat.sub_self]
    rfl
  have hat1 : ∀ (k : Nat) (x : Nat × va_E), (zwl Y adX MX)[k]? = some x → (zwl Y adX MX ++ [(q2, (.inr (8, zfl ad0 zN0 200 8 38) : va_E))])[k]? = some x := fun k x h => by
    rw [List.getElem?_append_left (List.getElem?_eq_some_iff.mp h).1]; exact h
  have hH2 : lH D Y ad0 s (va_up ad0 200 q2) zN0 adX MX H2 locs1 := by
    refine ⟨?_, fun k x h => hP2 k x (hat1 k x h), ?_, hH1.2.2.1, fun k hk k' hk' e => ?_, hS2, zom_1 200 (by decide), hH1.2.2.2.2.2.2.1, fun k hk => zup_n (by omega), hH1.2.2.2.2.2.2.2.2.1, ?_, ?_⟩
    · rw [ez2]
      intro k x h
      have hz : k < 1 := (List.getElem?_eq_some_iff.mp h).1
      rw [show k = 0 by omega] at h
      cases h
      exact hP2 _ _ hat2
    · rw [ez2]
      refine ⟨fun i j x y h1 h2 _ => ?_, fun k x h => ?_⟩
      · have hz1 : i < 1 := (List.getElem?_eq_some_iff.mp h1).1
        have hz2 : j < 1 := (List.getElem?_eq_some_iff.mp h2).1
        omega
      · have hz : k < 1 := (List.getElem?_eq_some_iff.mp h).1
        rw [show k = 0 by omega] at h
        cases h
        exact hD2.2 _ _ hat2
    · have : k = 200 := by simpa [zN0] using hk
      subst this
      have e' : q2 = adX k' := e
      obtain ⟨j, -, hj⟩ := zwl_at (Y := Y) (ad := adX) hk'
      have hlt := (List.getElem?_eq_some_iff.mp hj).1
      have := hD2.1 _ _ _ _ hat2 (hat1 j _ hj) e'
      omega
    · have : zE.1.length = 0 := rfl
      have : zN0.1.length = 1 := rfl
      omega
    · have : zss zE.1 = 0 := rfl
      have : zss zN0.1 = 38 := rfl
      omega
  refine zW_tight (k := zN0.1.length + MX.1.length) (n := zss zN0.1 + zss MX.1) hH2.2.2.2.2.2.2.2.2.2.2.1 hH2.2.2.2.2.2.2.2.2.2.2.2 ?_
  refine lv_dup hx hb zdL_11 rfl ?_
  refine lI (kk := 200) (M := zN0) (M2 := MX) (mc := 22) (ms := 3000) (rest := [.ref q2]) CF hK hE hH2 rfl (zm_X8_init l D Y) gw_3_83 gw_3_81 gw_3_82 gw_1_7 zdn_X8_init ⟨by decide, by decide⟩ zdL_12 List.mem_cons_self hl.1 rfl (by show (1 : Nat) + 0 ≤ 8; decide) ⟨?_, ?_⟩ (K1 := fun r M' => r = none ∧ zMF M' wF0) ⟨rfl, rfl, fun M' h' => ⟨rfl, h'⟩⟩ (fun r MM adM H3 locs3 hK3 hH3 hk3 hl3 hl4 => ?_)
  · have : room_1.cells = 600000 := rfl
    have : zN0.1.length = 1 := rfl
    omega
  · have : room_1.slots = 7302250 := rfl
    have : zss zN0.1 = 38 := rfl
    omega
  obtain ⟨rfl, hMF⟩ := hK3
  obtain ⟨h2m, h2a⟩ := hk3 200 List.mem_cons_self
  have h2a' : adM 200 = q2 := h2a
  show W p l e room_1 s m #[Value.ref b] below meth c H3 locs3 _ _ _ (F0 m 15 ls [.ref q2])
  rw [← h2a']
  refine lv_astore_n (lv' := [(2, .ref (adM 200)), (1, .ref (adX 0)), (0, .ref b)]) hx hb zdL_15 rfl hl (by decide) rfl (fun ls hl => ?_)
  refine lv_iconst (v := 0) hx hb zdL_16 (by decide) ?_
  refine lv_istore_n (lv' := [(3, .int 0), (2, .ref (adM 200)), (1, .ref (adX 0)), (0, .ref b)]) hx hb zdL_17 rfl hl (by decide) rfl (fun ls hl => ?_)
  rw [Nat.add_comm MM.1.length, Nat.add_comm (zss MM.1)]
  have z1 : zN0.1.length = 1 := rfl
  have z2 : zss zN0.1 = 38 := rfl
  exact lloop C hL (L + 7) 0 0 wF0 rfl (Nat.zero_le _) (by omega) adX MX adM MM H3 locs3 ls ⟨hH3.swap, ⟨21, 27, 0, Nat.le_refl _, hXF⟩, hMF, ⟨by omega, by omega⟩, h0m, h2m, lv_sub hl [3, 2, 1, 0] rfl⟩
