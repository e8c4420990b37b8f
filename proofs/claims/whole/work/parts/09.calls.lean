/-! RETURNS, CALLS, MAKING -/
theorem zcv_eq {ad ad' : Nat → Nat} {L : List Nat} {v : Value} (h1 : ∀ k ∈ L, ad' k = ad k) (h2 : ∀ k, 2000 ≤ k → ad' k = ad k) (hv : zov L v) : zcv ad' v = zcv ad v := by
  cases v with
  | ref k =>
    show Value.ref (ad' k) = Value.ref (ad k)
    rcases hv with h | h
    · rw [h1 k h]
    · rw [h2 k h]
  | _ => rfl
theorem zmap_eq {ad ad' : Nat → Nat} {L : List Nat} {st : List Value} (h1 : ∀ k ∈ L, ad' k = ad k) (h2 : ∀ k, 2000 ≤ k → ad' k = ad k) (hv : ∀ v ∈ st, zov L v) : st.map (zcv ad') = st.map (zcv ad) :=
  List.map_congr_left fun v h => zcv_eq h1 h2 (hv v h)
theorem zlv_eq {ad ad' : Nat → Nat} {L : List Nat} {ls : zLo} {lsA : Array Slot} {nL : Nat} (h1 : ∀ k ∈ L, ad' k = ad k) (h2 : ∀ k, 2000 ≤ k → ad' k = ad k) (hv : ∀ i v, zlg ls i = some v → zov L v) (h : lv_has lsA nL (zlcv ad 0 ls)) : lv_has lsA nL (zlcv ad' 0 ls) := by
  refine zlv_less h fun q hq => ?_
  obtain ⟨i, v, hi, rfl⟩ := zlcv_mem.mp hq
  exact zlcv_mem.mpr ⟨i, v, hi, by rw [zcv_eq h1 h2 (hv i v hi)]⟩
theorem zcat_le : ∀ (st : List Value), (st.map fun v => v.category).sum ≤ 2 * st.length
  | [] => Nat.le_refl _
  | v :: l => by
    have h := zcat_le l
    have hv : v.category ≤ 2 := by rcases lv_cat v with q | q <;> omega
    simp only [List.map_cons, List.sum_cons, List.length_cons]
    omega
section ZQ
variable {p : Program} {l : Launch} {e : Env} {R : Room} {s : State} {m : MethodId} {args : Array Value} {below : List Frame} {meth : Method} {c : Code} {D : va_G} {Y : Nat → ClassId} {ad0 ad : Nat → Nat} {M0 M : zMm} {K : zKt} {H : Heap} {locs : List Loc}
theorem zQt.mk (hW : zWH D Y ad0 M0.1 s R ad M H locs) {r : Option Value} (hK : K r M) (hr : ∀ v, r = some v → zov M.1 v) (h1 : H.size ≤ s.heap.size + zdc M0.1 M.1) (h2 : zhs H ≤ zhs s.heap + zds M0.1 M.1) {t : State} (ht : t.heap = H) {a : Array Value} : zQt D Y K ad0 M0 s.heap.size R.cells R.slots a s (.returned (r.map (zcv ad))) t :=
  ⟨⟨r, M, ad, rfl, hK, hr, by rw [ht]; exact hW.1, hW.2.1, hW.2.2.2.1, hW.2.2.2.2.1, hW.2.2.2.2.2.1, hW.2.2.2.2.2.2.1, hW.2.2.2.2.2.2.2.1, hW.2.2.2.2.2.2.2.2.1, hW.2.2.2.2.2.2.2.2.2, by rw [ht]; exact h1, by rw [ht]; exact h2⟩, hW.2.2.1.F ht⟩
theorem zwid (hW : zWH D Y ad0 M0.1 s R ad M H locs) : zdc M0.1 M.1 ≤ R.cells ∧ zds M0.1 M.1 ≤ R.slots := by
  have h1 := hW.2.2.2.2.2.2.2.2.1
  have h2 := hW.2.2.2.2.2.2.2.2.2
  unfold zdc zds
  omega
end ZQ
section ZC
variable {X : zCt} {own nm : String} {cc : ByteArray} {nL : Nat} {ret : Option FieldType} {pc : Nat} {P : zPP}
def zT_iret (K : zKt) : zPP := fun M _ st => match st with
  | [.int v] => K (some (.int v)) M
  | _ => False
def zT_nret (ty : FieldType) (K : zKt) : zPP := fun M _ st => match st with
  | [.int v] => narrow ty (.int v) = .int v ∧ K (some (.int v)) M
  | _ => False
def zT_aret (K : zKt) : zPP := fun M _ st => match st with
  | [.ref v] => K (some (.ref v)) M
  | [.null] => K (some .null) M
  | _ => False
def zT_vret (K : zKt) : zPP := fun M _ st => match st with
  | [] => K none M
  | _ => False
theorem zs_iret (hr : ret = some .int) (hd : decode cc pc = .ok (.ireturn, 1)) : zSd X own nm cc nL ret pc (zT_iret (zKX X)) := by
  intro C M ls st h
  obtain ⟨p, l, e, R, s, m, args, below, meth, c, D, Y, ad0, M0, K⟩ := X
  subst hr
  unfold zT_iret at h
  split at h
  · intro ad H locs lsA hW ho hl
    refine zW_know (fun h1 h2 => W.widen (zwid hW).1 (zwid hW).2 (W.iret C.1 C.2.1 C.2.2.2.1 (fun t ht _ => zQt.mk hW (r := some (.int _)) h (fun v hv => by cases hv; trivial) h1 h2 ht) hW.2.2.1.2.2 hd C.2.2.2.2.2.2.1))
  · exact h.elim
theorem zs_nret {ty : FieldType} (hr : ret = some ty) (hd : decode cc pc = .ok (.ireturn, 1)) : zSd X own nm cc nL ret pc (zT_nret ty (zKX X)) := by
  intro C M ls st h
  obtain ⟨p, l, e, R, s, m, args, below, meth, c, D, Y, ad0, M0, K⟩ := X
  subst hr
  unfold zT_nret at h
  split at h
  · intro ad H locs lsA hW ho hl
    refine zW_know (fun h1 h2 => W.widen (zwid hW).1 (zwid hW).2 (W.zret C.1 C.2.1 C.2.2.2.1 h.1 (fun t ht _ => zQt.mk hW (r := some (.int _)) h.2 (fun v hv => by cases hv; trivial) h1 h2 ht) hW.2.2.1.2.2 hd C.2.2.2.2.2.2.1))
  · exact h.elim
theorem zs_aret {cn : String} (hr : ret = some (.object cn)) (hd : decode cc pc = .ok (.areturn, 1)) : zSd X own nm cc nL ret pc (zT_aret (zKX X)) := by
  intro C M ls st h
  obtain ⟨p, l, e, R, s, m, args, below, meth, c, D, Y, ad0, M0, K⟩ := X
  subst hr
  unfold zT_aret at h
  split at h
  · intro ad H locs lsA hW ho hl
    refine zW_know (fun h1 h2 => W.widen (zwid hW).1 (zwid hW).2 (W.aret C.1 C.2.1 C.2.2.2.1 (Or.inl ⟨cn, rfl⟩) (Or.inr ⟨_, rfl⟩) (fun t ht _ => zQt.mk hW (r := some (.ref _)) h (fun v hv => by cases hv; exact ho.top.1) h1 h2 ht) hW.2.2.1.2.2 hd C.2.2.2.2.2.2.1))
  · intro ad H locs lsA hW ho hl
    refine zW_know (fun h1 h2 => W.widen (zwid hW).1 (zwid hW).2 (W.aret C.1 C.2.1 C.2.2.2.1 (Or.inl ⟨cn, rfl⟩) (Or.inl rfl) (fun t ht _ => zQt.mk hW (r := some .null) h (fun v hv => by cases hv; trivial) h1 h2 ht) hW.2.2.1.2.2 hd C.2.2.2.2.2.2.1))
  · exact h.elim
theorem zs_vret (hr : ret = none) (hd : decode cc pc = .ok (.return_, 1)) : zSd X own nm cc nL ret pc (zT_vret (zKX X)) := by
  intro C M ls st h
  obtain ⟨p, l, e, R, s, m, args, below, meth, c, D, Y, ad0, M0, K⟩ := X
  subst hr
  unfold zT_vret at h
  split at h
  · intro ad H locs lsA hW ho hl
    refine zW_know (fun h1 h2 => W.widen (zwid hW).1 (zwid hW).2 (W.vret C.1 C.2.1 C.2.2.2.1 (fun t ht _ => zQt.mk hW (r := none) h (fun v hv => by cases hv) h1 h2 ht) hW.2.2.1.2.2 hd C.2.2.2.2.2.2.1))
  · exact h.elim
/-- behind a call -/
theorem zcall {p : Program} {l : Launch} {e : Env} {R : Room} {s : State} {m : MethodId} {args : Array Value} {below : List Frame} {meth : Method} {c : Code} {D : va_G} {Y : Nat → ClassId} {ad0 ad : Nat → Nat} {M0 M : zMm} {K K1 : zKt} {H : Heap} {locs : List Loc} {lsA : Array Slot} {ls : zLo} {st0 : List Value} {rest : List Value} {mc ms : Nat} {a : Array Value}
    (hW : zWH D Y ad0 M0.1 s R ad M H locs) (hrest : zoL M.1 ls rest) (hl : lv_has lsA nL (zlcv ad 0 ls)) (hm1 : M.1.length + mc ≤ M0.1.length + R.cells) (hm2 : zss M.1 + ms ≤ zss M0.1 + R.slots)
    (hrun : va_Run p l e R s m args below meth c H locs (zdc M0.1 M.1) (zds M0.1 M.1) mc ms (F0 m pc lsA st0) (rest.map (zcv ad)) (zQt D Y K1 ad M H.size mc ms a) (zAA ad M.1 H.size))
    (kont : ∀ (r : Option Value) (M' : zMm), K1 r M' → zGD (p, l, e, R, s, m, args, below, meth, c, D, Y, ad0, M0, K) nL (pc + 3) M' ls (r.toList ++ rest)) :
    W p l e R s m args below meth c H locs (zdc M0.1 M.1) (zds M0.1 M.1) (MQ below (zQt D Y K ad0 M0 s.heap.size R.cells R.slots) args s R.cells R.slots (zAA ad0 M0.1 s.heap.size)) (F0 m pc lsA st0) := by
  refine zW_know (fun g1 g2 => ?_)
  intro T hT XX
  obtain ⟨v, st₀, t, T', L, h0, X', hL, e1, e2, ⟨⟨r, M', ad', hv, hK1, hro, hP1, hD1, hO1, hk1, hx1, hl1, hl2, hc1, hc2, hz1, hz2⟩, hF1, hF2⟩, st⟩ := hrun T hT XX
  have hfree : ∀ q, zAA ad M.1 H.size q → zAA ad0 M0.1 s.heap.size q := by
    intro q hq
    rcases hq with ⟨k, hk, rfl⟩ | hq
    · obtain ⟨j, -, hj⟩ := zwl_at (Y := Y) (ad := ad) hk
      exact hW.2.1.2 j _ hj
    · exact Or.inr (Nat.le_trans hW.2.2.1.1 hq)
  rw [h0] at hF1 hF2 hz1 hz2
  have b1 := hW.2.2.2.2.2.2.1
  have b2 := hW.2.2.2.2.2.2.2.1
  have hS' : va_S (zAA ad0 M0.1 s.heap.size) s.heap T'.heap (locs ++ L) := by
    refine ⟨Nat.le_trans hW.2.2.1.1 (by rw [e1]; exact hF1), fun q q1 q2 => ?_, fun q hq => ?_⟩
    · rw [e1, hF2 q (Nat.lt_of_lt_of_le q1 hW.2.2.1.1) (fun z => q2 (hfree q z))]
      exact hW.2.2.1.2.1 q q1 q2
    · rcases List.mem_append.mp hq with h | h
      · exact hW.2.2.1.2.2 q h
      · exact hfree _ (hL q h)
  have hW' : zWH D Y ad0 M0.1 s R ad' M' T'.heap (locs ++ L) := by
    refine ⟨by rw [e1]; exact hP1, hD1.weaken (fun _ q _ hq => hfree q.1 hq), hS', hO1, fun k hk => ?_, fun k hk => ?_, by omega, by omega, by omega, by omega⟩
    · obtain ⟨h1, h2⟩ := hW.2.2.2.2.1 k hk
      obtain ⟨h3, h4⟩ := hk1 k h1
      exact ⟨h3, h4.trans h2⟩
    · exact (hx1 k hk).trans (hW.2.2.2.2.2.1 k hk)
  have hsub : ∀ v, zov M.1 v → zov M'.1 v := by
    intro v hv
    cases v with
    | ref k => exact hv.elim (fun h => Or.inl (hk1 k h).1) Or.inr
    | _ => trivial
  have heq1 : ∀ k ∈ M.1, ad' k = ad k := fun k hk => (hk1 k hk).2
  have hG := kont r M' hK1 ad' T'.heap (locs ++ L) lsA hW' ⟨fun w hw => by
      rcases List.mem_append.mp hw with h | h
      · exact hro w (by cases r with
          | none => cases h
          | some z => rcases List.mem_cons.mp h with q | q
                      · rw [q]
                      · cases q)
      · exact hsub w (hrest.1 w h), fun i w hw => hsub w (hrest.2 i w hw)⟩ (zlv_eq heq1 hx1 hrest.2 hl)
  rw [List.map_append, zmap_eq heq1 hx1 hrest.1] at hG
  have hvl : v.toList = r.toList.map (zcv ad') := by
    cases hv
    cases r <;> rfl
  have hG2 := zW_tight (cells := zdc M0.1 M.1 + mc) (slots := zds M0.1 M.1 + ms) (by rw [e1]; unfold zdc at *; omega) (by rw [e1]; unfold zds at *; omega) hG
  obtain ⟨t2, a1, b1⟩ := hG2 T' rfl X'
  refine ⟨t2, st t2 ?_, b1⟩
  rw [hvl]
  exact a1
/-- ahead of a call: the callee's start holds -/
theorem zpre {p : Program} {l : Launch} {e : Env} {R : Room} {s : State} {m : MethodId} {args : Array Value} {below : List Frame} {meth : Method} {c : Code} {D : va_G} {Y : Nat → ClassId} {ad0 ad : Nat → Nat} {M0 M : zMm} {K : zKt} {H : Heap} {locs : List Loc} {avs : List Value}
    (C : zCX (p, l, e, R, s, m, args, below, meth, c, D, Y, ad0, M0, K) own nm cc nL ret) (hW : zWH D Y ad0 M0.1 s R ad M H locs) (hv : ∀ v ∈ avs, zov M.1 v) :
    PreS s H (va_Pc (avs.map (zcv ad)) (fun U => U.heap.size = H.size ∧ va_P D vwCl (zwl Y ad M) U.heap ∧ va_D (fun _ => True) (zwl Y ad M) ∧ va_K D vwCl (zTY Y) U ∧ zEX ad (zAA ad M.1 H.size) U ∧ zom M ∧ ∀ v ∈ avs, zov M.1 v)) (avs.map (zcv ad)) := by
  refine ⟨fun a U g mk q => ?_, fun U hU hWm => ⟨rfl, by rw [hU], by rw [hU]; exact hW.1, hW.2.1.weaken (fun _ _ _ _ => trivial), va_K.moved hWm.alike C.2.2.2.2.2.2.2.1, ?_, hW.2.2.2.1, hv⟩⟩
  · obtain ⟨q0, q1, qP, qD, qK, qE, qO, qV⟩ := q
    exact ⟨q0, q1, qP, qD, va_K.moved (u := U) (U := U.calling g mk a) (Vm.Alike.refl U.vm) qK, zEX.same (u := U) rfl rfl qE, qO, qV⟩
  · refine zEX.later hWm (fun q h1 h2 => ?_) (fun q h1 h2 => by rw [hU]; exact hW.2.2.1.2.1 q h1 h2) hW.2.2.2.2.2.1 C.2.2.2.2.2.2.2.2.1
    rcases h2 with ⟨k, hk, rfl⟩ | h2
    · obtain ⟨j, -, hj⟩ := zwl_at (Y := Y) (ad := ad) hk
      exact hW.2.1.2 j _ hj
    · have := hW.2.2.1.1
      omega
/-- what a call's transformer must give: the arguments on the stack, the callee's contract -/
def zCl (X : zCt) (avs : zMm → zLo → List Value → List Value → Prop) (T : zPP) (Cc : List Value → zMm → zKt → Prop) (mc ms : Nat) (P : zPP) : Prop :=
  ∀ M ls st, T M ls st → ∃ as rest, avs M ls st as ∧ st = as.reverse ++ rest ∧ rest.length ≤ 4 ∧ (mc = 0 ∨ M.1.length + mc ≤ zlc X) ∧ (ms = 0 ∨ zss M.1 + ms ≤ zls X) ∧ Cc as M (fun r M' => P M' ls (r.toList ++ rest))
variable {y : MethodName} {bytes : ByteArray} {maxL idx n fr lo mc ms : Nat} {rt : Option FieldType} {Cc : List Value → zMm → zKt → Prop} {T : zPP}
theorem zlim {M0 M : zMm} {R : Room} {mc ms : Nat} (h1 : mc = 0 ∨ M.1.length + mc ≤ M0.1.length + R.cells) (h2 : ms = 0 ∨ zss M.1 + ms ≤ zss M0.1 + R.slots) (g1 : M.1.length ≤ M0.1.length + R.cells) (g2 : zss M.1 ≤ zss M0.1 + R.slots) (b1 : M0.1.length ≤ M.1.length) (b2 : zss M0.1 ≤ zss M.1) : (M.1.length + mc ≤ M0.1.length + R.cells ∧ zss M.1 + ms ≤ zss M0.1 + R.slots) ∧ zdc M0.1 M.1 + mc ≤ R.cells ∧ zds M0.1 M.1 + ms ≤ R.slots := by
  unfold zdc zds
  rcases h1 with h1 | h1 <;> rcases h2 with h2 | h2 <;> omega
/-- a static method of any of our classes -/
theorem zs_S (hM : zMt X.2.1 X.2.2.2.2.2.2.2.2.2.2.1 X.2.2.2.2.2.2.2.2.2.2.2.1 y bytes maxL rt fr lo mc ms Cc) (hco : Cond.code y bytes maxL rt ∈ gT) (hlk : Cond.methodLink own idx y ∈ gT) (hst : Cond.static y ∈ gT) (hin : Cond.initialized y.cls ∈ gT)
    (hdn : y.cls ≠ "java/lang/invoke/MethodHandle" ∧ y.cls ≠ "java/lang/invoke/VarHandle" ∧ (parseMethodDescriptor y.desc).map (fun d => d.parameters.length) = some n) (hR : fr + 1 ≤ (zRX X).frames ∧ 8 + (maxL + 11) + lo ≤ (zRX X).locals) (hd : decode cc pc = .ok (.invokestatic idx, 3))
    (hT : zCl X (fun _ _ _ as => as.length = n) T Cc mc ms P) (k : zSd X own nm cc nL ret (pc + 3) P) : zSd X own nm cc nL ret pc T := by
  intro C M ls st h
  obtain ⟨as, rest, hlen, hst0, hr4, hm1, hm2, hC⟩ := hT M ls st h
  obtain ⟨p, l, e, R, s, m, args, below, meth, c, D, Y, ad0, M0, K⟩ := X
  intro ad H locs lsA hW ho hl
  subst hst0
  obtain ⟨⟨c1, c2⟩, c3⟩ := zlim (M0 := M0) (M := M) (R := R) hm1 hm2 hW.2.2.2.2.2.2.2.2.1 hW.2.2.2.2.2.2.2.2.2 hW.2.2.2.2.2.2.1 hW.2.2.2.2.2.2.2.1
  have hov : ∀ v ∈ as, zov M.1 v := fun v hv => ho.1 v (List.mem_append_left _ (List.mem_reverse.mpr hv))
  have horest : zoL M.1 ls rest := ⟨fun v hv => ho.1 v (List.mem_append_right _ hv), ho.2⟩
  have hws : ∀ w ∈ (Cond.code y bytes maxL rt :: gT), w ∈ gT := List.forall_mem_cons.mpr ⟨hco, fun _ h => h⟩
  rw [List.map_append, List.map_reverse]
  have hcat := zcat_le (rest.map (zcv ad))
  rw [List.length_map] at hcat
  refine zcall hW horest hl c1 c2 (va_runS (Ts := gT) (As := as.map (zcv ad)) ⟨C.1, C.2.1, C.2.2.1, C.2.2.2.2.1, C.2.2.2.2.2.1⟩ (hM ad M as _ H.size hC) ⟨callB_of n C.2.2.2.2.2.1 (gT_good hws) rfl rfl rfl (C.2.2.2.2.2.1 _ hin) (C.2.2.2.2.2.1 _ hlk) hdn hR, C.2.2.2.2.2.1 _ hst⟩ (zpre C hW hov) rfl (by rw [List.length_map]; exact hlen) hl.1 rfl (lv_room (by omega)) hd c3) (fun r M' hK => k C M' ls _ hK)
theorem zs_SN {host : String} (hM : zMt X.2.1 X.2.2.2.2.2.2.2.2.2.2.1 X.2.2.2.2.2.2.2.2.2.2.2.1 y bytes maxL rt fr lo mc ms Cc) (hco : Cond.code y bytes maxL rt ∈ gT) (hlk : (own, idx, y, host) ∈ zNw) (hst : Cond.static y ∈ gT) (hin : Cond.initialized y.cls ∈ gT)
    (hdn : y.cls ≠ "java/lang/invoke/MethodHandle" ∧ y.cls ≠ "java/lang/invoke/VarHandle" ∧ (parseMethodDescriptor y.desc).map (fun d => d.parameters.length) = some n) (hR : fr + 1 ≤ (zRX X).frames ∧ 8 + (maxL + 11) + lo ≤ (zRX X).locals) (hd : decode cc pc = .ok (.invokestatic idx, 3))
    (hT : zCl X (fun _ _ _ as => as.length = n) T Cc mc ms P) (k : zSd X own nm cc nL ret (pc + 3) P) : zSd X own nm cc nL ret pc T := by
  intro C M ls st h
  obtain ⟨as, rest, hlen, hst0, hr4, hm1, hm2, hC⟩ := hT M ls st h
  obtain ⟨p, l, e, R, s, m, args, below, meth, c, D, Y, ad0, M0, K⟩ := X
  intro ad H locs lsA hW ho hl
  subst hst0
  obtain ⟨⟨c1, c2⟩, c3⟩ := zlim (M0 := M0) (M := M) (R := R) hm1 hm2 hW.2.2.2.2.2.2.2.2.1 hW.2.2.2.2.2.2.2.2.2 hW.2.2.2.2.2.2.1 hW.2.2.2.2.2.2.2.1
  have hov : ∀ v ∈ as, zov M.1 v := fun v hv => ho.1 v (List.mem_append_left _ (List.mem_reverse.mpr hv))
  have horest : zoL M.1 ls rest := ⟨fun v hv => ho.1 v (List.mem_append_right _ hv), ho.2⟩
  have hws : ∀ w ∈ (Cond.code y bytes maxL rt :: gT), w ∈ gT := List.forall_mem_cons.mpr ⟨hco, fun _ h => h⟩
  rw [List.map_append, List.map_reverse]
  have hcat := zcat_le (rest.map (zcv ad))
  rw [List.length_map] at hcat
  refine zcall hW horest hl c1 c2 (va_runSN (Ts := gT) (As := as.map (zcv ad)) ⟨C.1, C.2.1, C.2.2.1, C.2.2.2.2.1, C.2.2.2.2.2.1⟩ (hM ad M as _ H.size hC) ⟨va_cnB n C.2.2.2.2.2.1 (gT_good hws) rfl rfl rfl (C.2.2.2.2.2.2.2.2.1.1 _ hlk) (C.2.2.2.2.2.1 _ hin) hdn hR, C.2.2.2.2.2.1 _ hst, trivial⟩ (zpre C hW hov) rfl (by rw [List.length_map]; exact hlen) hl.1 rfl (lv_room (by omega)) hd c3) (fun r M' hK => k C M' ls _ hK)
/-- a method of an object of the memory -/
theorem zs_V {ci nf : Nat} {Tc : u_T} {Cn : String} (hc : vwCl[ci]? = some (Cn, Tc, nf)) (hcn : y.cls = Cn) (hM : zMt X.2.1 X.2.2.2.2.2.2.2.2.2.2.1 X.2.2.2.2.2.2.2.2.2.2.2.1 y bytes maxL rt fr lo mc ms Cc) (hco : Cond.code y bytes maxL rt ∈ gT) (hlk : Cond.methodLink own idx y ∈ gT) (him : Cond.instanceMethod y ∈ gT) (hse : Cond.selects Cn y y ∈ gT) (hin : Cond.initialized y.cls ∈ gT)
    (hdn : y.cls ≠ "java/lang/invoke/MethodHandle" ∧ y.cls ≠ "java/lang/invoke/VarHandle" ∧ (parseMethodDescriptor y.desc).map (fun d => d.parameters.length) = some n) (hR : fr + 1 ≤ (zRX X).frames ∧ 8 + (maxL + 11) + lo ≤ (zRX X).locals) (hd : decode cc pc = .ok (.invokevirtual idx, 3))
    (hT : zCl X (fun _ _ _ as => ∃ kk as', as = .ref kk :: as' ∧ as'.length = n ∧ zsh kk = (5, ci, nf)) T Cc mc ms P) (k : zSd X own nm cc nL ret (pc + 3) P) : zSd X own nm cc nL ret pc T := by
  intro C M ls st h
  obtain ⟨as, rest, ⟨kk, as', rfl, hlen, hsh⟩, hst0, hr4, hm1, hm2, hC⟩ := hT M ls st h
  obtain ⟨p, l, e, R, s, m, args, below, meth, c, D, Y, ad0, M0, K⟩ := X
  intro ad H locs lsA hW ho hl
  subst hst0
  obtain ⟨⟨c1, c2⟩, c3⟩ := zlim (M0 := M0) (M := M) (R := R) hm1 hm2 hW.2.2.2.2.2.2.2.2.1 hW.2.2.2.2.2.2.2.2.2 hW.2.2.2.2.2.2.1 hW.2.2.2.2.2.2.2.1
  have hov : ∀ v ∈ (Value.ref kk :: as'), zov M.1 v := fun v hv => ho.1 v (List.mem_append_left _ (List.mem_reverse.mpr hv))
  have horest : zoL M.1 ls rest := ⟨fun v hv => ho.1 v (List.mem_append_right _ hv), ho.2⟩
  have hws : ∀ w ∈ (Cond.code y bytes maxL rt :: gT), w ∈ gT := List.forall_mem_cons.mpr ⟨hco, fun _ h => h⟩
  have hkL : kk ∈ M.1 := zov_in (hov _ List.mem_cons_self) (zlt9 hsh)
  obtain ⟨q, hq, hw⟩ := zwl_at (Y := Y) (ad := ad) hkL
  rw [zen_obj hsh] at hw
  rw [List.map_append, List.map_reverse]
  have hcat := zcat_le (rest.map (zcv ad))
  rw [List.length_map] at hcat
  have hpre := zpre C hW hov
  refine zcall hW horest hl c1 c2 (va_runV (Ts := gT) (b := ad kk) (As := as'.map (zcv ad)) (rest := rest.map (zcv ad)) ⟨C.1, C.2.1, C.2.2.1, C.2.2.2.2.1, C.2.2.2.2.2.1⟩ (hM ad M _ _ H.size hC) ⟨callB_of n C.2.2.2.2.2.1 (gT_good hws) rfl rfl rfl (C.2.2.2.2.2.1 _ hin) (C.2.2.2.2.2.1 _ hlk) hdn hR, C.2.2.2.2.2.1 _ him, C.2.2.2.2.2.1 _ hse⟩ ⟨hpre.1, va_recv C.2.2.2.2.2.2.2.1 hW.1 hc hw, hpre.2⟩ rfl (by rw [List.length_map]; exact hlen) hl.1 (by rw [List.map_cons, List.reverse_cons, List.append_assoc]; rfl) (lv_room (by omega)) hd c3) (fun r M' hK => k C M' ls _ hK)
/-- a constructor -/
theorem zs_I (hni : y.name = "<init>") (hM : zMt X.2.1 X.2.2.2.2.2.2.2.2.2.2.1 X.2.2.2.2.2.2.2.2.2.2.2.1 y bytes maxL none fr lo mc ms Cc) (hco : Cond.code y bytes maxL none ∈ gT) (hlk : Cond.methodLink own idx y ∈ gT) (him : Cond.instanceMethod y ∈ gT) (hin : Cond.initialized y.cls ∈ gT)
    (hdn : y.cls ≠ "java/lang/invoke/MethodHandle" ∧ y.cls ≠ "java/lang/invoke/VarHandle" ∧ (parseMethodDescriptor y.desc).map (fun d => d.parameters.length) = some n) (hR : fr + 1 ≤ (zRX X).frames ∧ 8 + (maxL + 11) + lo ≤ (zRX X).locals) (hd : decode cc pc = .ok (.invokespecial idx, 3))
    (hT : zCl X (fun _ _ _ as => ∃ kk as', as = .ref kk :: as' ∧ as'.length = n) T Cc mc ms P) (k : zSd X own nm cc nL ret (pc + 3) P) : zSd X own nm cc nL ret pc T := by
  intro C M ls st h
  obtain ⟨as, rest, ⟨kk, as', rfl, hlen⟩, hst0, hr4, hm1, hm2, hC⟩ := hT M ls st h
  obtain ⟨p, l, e, R, s, m, args, below, meth, c, D, Y, ad0, M0, K⟩ := X
  intro ad H locs lsA hW ho hl
  subst hst0
  obtain ⟨⟨c1, c2⟩, c3⟩ := zlim (M0 := M0) (M := M) (R := R) hm1 hm2 hW.2.2.2.2.2.2.2.2.1 hW.2.2.2.2.2.2.2.2.2 hW.2.2.2.2.2.2.1 hW.2.2.2.2.2.2.2.1
  have hov : ∀ v ∈ (Value.ref kk :: as'), zov M.1 v := fun v hv => ho.1 v (List.mem_append_left _ (List.mem_reverse.mpr hv))
  have horest : zoL M.1 ls rest := ⟨fun v hv => ho.1 v (List.mem_append_right _ hv), ho.2⟩
  have hws : ∀ w ∈ (Cond.code y bytes maxL none :: gT), w ∈ gT := List.forall_mem_cons.mpr ⟨hco, fun _ h => h⟩
  rw [List.map_append, List.map_reverse]
  have hcat := zcat_le (rest.map (zcv ad))
  rw [List.length_map] at hcat
  refine zcall hW horest hl c1 c2 (va_runI (Ts := gT) (b := ad kk) (As := as'.map (zcv ad)) (rest := rest.map (zcv ad)) ⟨C.1, C.2.1, C.2.2.1, C.2.2.2.2.1, C.2.2.2.2.2.1⟩ (hM ad M _ _ H.size hC) ⟨callB_of n C.2.2.2.2.2.1 (gT_good hws) rfl rfl rfl (C.2.2.2.2.2.1 _ hin) (C.2.2.2.2.2.1 _ hlk) hdn hR, hni, C.2.2.2.2.2.1 _ him⟩ (zpre C hW hov) rfl (by rw [List.length_map]; exact hlen) hl.1 (by rw [List.map_cons, List.reverse_cons, List.append_assoc]; rfl) (lv_room (by omega)) hd c3) (fun r M' hK => k C M' ls _ hK)
theorem zs_IN {host : String} (hni : y.name = "<init>") (hM : zMt X.2.1 X.2.2.2.2.2.2.2.2.2.2.1 X.2.2.2.2.2.2.2.2.2.2.2.1 y bytes maxL none fr lo mc ms Cc) (hco : Cond.code y bytes maxL none ∈ gT) (hlk : (own, idx, y, host) ∈ zNw) (him : Cond.instanceMethod y ∈ gT) (hin : Cond.initialized y.cls ∈ gT)
    (hdn : y.cls ≠ "java/lang/invoke/MethodHandle" ∧ y.cls ≠ "java/lang/invoke/VarHandle" ∧ (parseMethodDescriptor y.desc).map (fun d => d.parameters.length) = some n) (hR : fr + 1 ≤ (zRX X).frames ∧ 8 + (maxL + 11) + lo ≤ (zRX X).locals) (hd : decode cc pc = .ok (.invokespecial idx, 3))
    (hT : zCl X (fun _ _ _ as => ∃ kk as', as = .ref kk :: as' ∧ as'.length = n) T Cc mc ms P) (k : zSd X own nm cc nL ret (pc + 3) P) : zSd X own nm cc nL ret pc T := by
  intro C M ls st h
  obtain ⟨as, rest, ⟨kk, as', rfl, hlen⟩, hst0, hr4, hm1, hm2, hC⟩ := hT M ls st h
  obtain ⟨p, l, e, R, s, m, args, below, meth, c, D, Y, ad0, M0, K⟩ := X
  intro ad H locs lsA hW ho hl
  subst hst0
  obtain ⟨⟨c1, c2⟩, c3⟩ := zlim (M0 := M0) (M := M) (R := R) hm1 hm2 hW.2.2.2.2.2.2.2.2.1 hW.2.2.2.2.2.2.2.2.2 hW.2.2.2.2.2.2.1 hW.2.2.2.2.2.2.2.1
  have hov : ∀ v ∈ (Value.ref kk :: as'), zov M.1 v := fun v hv => ho.1 v (List.mem_append_left _ (List.mem_reverse.mpr hv))
  have horest : zoL M.1 ls rest := ⟨fun v hv => ho.1 v (List.mem_append_right _ hv), ho.2⟩
  have hws : ∀ w ∈ (Cond.code y bytes maxL none :: gT), w ∈ gT := List.forall_mem_cons.mpr ⟨hco, fun _ h => h⟩
  rw [List.map_append, List.map_reverse]
  have hcat := zcat_le (rest.map (zcv ad))
  rw [List.length_map] at hcat
  refine zcall hW horest hl c1 c2 (va_runIN (Ts := gT) (b := ad kk) (As := as'.map (zcv ad)) (rest := rest.map (zcv ad)) ⟨C.1, C.2.1, C.2.2.1, C.2.2.2.2.1, C.2.2.2.2.2.1⟩ (hM ad M _ _ H.size hC) ⟨va_cnB n C.2.2.2.2.2.1 (gT_good hws) rfl rfl rfl (C.2.2.2.2.2.2.2.2.1.1 _ hlk) (C.2.2.2.2.2.1 _ hin) hdn hR, hni, C.2.2.2.2.2.1 _ him⟩ (zpre C hW hov) rfl (by rw [List.length_map]; exact hlen) hl.1 (by rw [List.map_cons, List.reverse_cons, List.append_assoc]; rfl) (lv_room (by omega)) hd c3) (fun r M' hK => k C M' ls _ hK)
end ZC
