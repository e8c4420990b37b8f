/-! THE LAW: two worlds side by side -/
def lH (D : va_G) (Y : Nat → ClassId) (ad0 : Nat → Nat) (s : State) (ad : Nat → Nat) (M : zMm) (ad2 : Nat → Nat) (M2 : zMm) (H : Heap) (locs : List Loc) : Prop :=
  va_P D vwCl (zwl Y ad M) H ∧ va_P D vwCl (zwl Y ad2 M2) H ∧ va_D (fun q => s.heap.size ≤ q) (zwl Y ad M) ∧ va_D (fun q => s.heap.size ≤ q) (zwl Y ad2 M2) ∧ (∀ k ∈ M.1, ∀ k' ∈ M2.1, ad k ≠ ad2 k') ∧ va_S (fun q => s.heap.size ≤ q) s.heap H locs ∧ zom M ∧ zom M2 ∧ (∀ k, 2000 ≤ k → ad k = ad0 k) ∧ (∀ k, 2000 ≤ k → ad2 k = ad0 k) ∧ H.size ≤ s.heap.size + (M.1.length + M2.1.length) ∧ zhs H ≤ zhs s.heap + (zss M.1 + zss M2.1)
theorem lH.swap {D : va_G} {Y : Nat → ClassId} {ad0 : Nat → Nat} {s : State} {ad : Nat → Nat} {M : zMm} {ad2 : Nat → Nat} {M2 : zMm} {H : Heap} {locs : List Loc} (h : lH D Y ad0 s ad M ad2 M2 H locs) : lH D Y ad0 s ad2 M2 ad M H locs := by
  obtain ⟨h1, h2, h3, h4, h5, h6, h7, h8, h9, h10, h11, h12⟩ := h
  exact ⟨h2, h1, h4, h3, fun k hk k' hk' e => h5 k' hk' k hk e.symm, h6, h8, h7, h10, h9, by omega, by omega⟩
theorem lH.lo {D : va_G} {Y : Nat → ClassId} {ad0 : Nat → Nat} {s : State} {ad : Nat → Nat} {M : zMm} {ad2 : Nat → Nat} {M2 : zMm} {H : Heap} {locs : List Loc} (h : lH D Y ad0 s ad M ad2 M2 H locs) {q : Nat} (hq : zAA ad M.1 H.size q) : s.heap.size ≤ q := by
  rcases hq with ⟨k, hk, rfl⟩ | hq
  · obtain ⟨j, -, hj⟩ := zwl_at (Y := Y) (ad := ad) hk
    exact h.2.2.1.2 j _ hj
  · exact Nat.le_trans h.2.2.2.2.2.1.1 hq
section LW
variable {p : Program} {l : Launch} {e : Env} {R : Room} {s : State} {m : MethodId} {args : Array Value} {below : List Frame} {meth : Method} {c : Code} {D : va_G} {Y : Nat → ClassId} {ad0 ad ad2 : Nat → Nat} {M M2 : zMm} {K1 : zKt} {H : Heap} {locs : List Loc} {lsA : Array Slot} {st0 rest : List Value} {mc ms pc : Nat} {a : Array Value} {Z : State → Prop}
/-- behind a call of the first world -/
theorem lcall (hH : lH D Y ad0 s ad M ad2 M2 H locs)
    (hrun : va_Run p l e R s m args below meth c H locs (M.1.length + M2.1.length) (zss M.1 + zss M2.1) mc ms (F0 m pc lsA st0) rest (zQt D Y K1 ad M H.size mc ms a) (zAA ad M.1 H.size))
    (kont : ∀ (r : Option Value) (M' : zMm) (ad' : Nat → Nat) (H' : Heap) (locs' : List Loc), K1 r M' → lH D Y ad0 s ad' M' ad2 M2 H' locs' → (∀ k ∈ M.1, k ∈ M'.1 ∧ ad' k = ad k) → M'.1.length ≤ M.1.length + mc → zss M'.1 ≤ zss M.1 + ms → W p l e R s m args below meth c H' locs' (M'.1.length + M2.1.length) (zss M'.1 + zss M2.1) Z (F0 m (pc + 3) lsA ((r.map (zcv ad')).toList ++ rest))) :
    W p l e R s m args below meth c H locs (M.1.length + M2.1.length) (zss M.1 + zss M2.1) Z (F0 m pc lsA st0) := by
  intro T hT XX
  obtain ⟨v, st₀, t, T', L, h0, X', hL, e1, e2, ⟨⟨r, M', ad', hv, hK1, hro, hP1, hD1, hO1, hk1, hx1, hl1, hl2, hc1, hc2, hz1, hz2⟩, hF1, hF2⟩, st⟩ := hrun T hT XX
  have hfree : ∀ q, zAA ad M.1 H.size q → s.heap.size ≤ q := fun q hq => hH.lo hq
  obtain ⟨h1, h2, h3, h4, h5, h6, h7, h8, h9, h10, h11, h12⟩ := hH
  rw [h0] at hF1 hF2 hz1 hz2
  have hother : ∀ k' ∈ M2.1, ¬ zAA ad M.1 H.size (ad2 k') ∧ ad2 k' < H.size := by
    intro k' hk'
    obtain ⟨j, -, hj⟩ := zwl_at (Y := Y) (ad := ad2) hk'
    have hlt := (h2 j _ hj).lt
    refine ⟨fun z => ?_, hlt⟩
    rcases z with ⟨k, hk, hq⟩ | z
    · exact h5 k hk k' hk' hq.symm
    · have : ad2 k' < H.size := hlt
      omega
  have hS' : va_S (fun q => s.heap.size ≤ q) s.heap T'.heap (locs ++ L) := by
    refine ⟨Nat.le_trans h6.1 (by rw [e1]; exact hF1), fun q q1 q2 => ?_, fun q hq => ?_⟩
    · rw [e1, hF2 q (Nat.lt_of_lt_of_le q1 h6.1) (fun z => q2 (hfree q z))]
      exact h6.2.1 q q1 q2
    · rcases List.mem_append.mp hq with h | h
      · exact h6.2.2 q h
      · exact hfree _ (hL q h)
  have hH' : lH D Y ad0 s ad' M' ad2 M2 T'.heap (locs ++ L) := by
    refine ⟨by rw [e1]; exact hP1, ?_, hD1.weaken (fun _ q _ hq => hfree q.1 hq), h4, fun k hk k' hk' e => ?_, hS', hO1, h8, fun k hk => (hx1 k hk).trans (h9 k hk), h10, ?_, ?_⟩
    · rw [e1]
      refine h2.kept (fun k q hk => ?_)
      obtain ⟨k', hk', rfl⟩ := List.mem_map.mp (List.mem_of_getElem? hk)
      exact hF2 _ (hother k' hk').2 (hother k' hk').1
    · obtain ⟨j, -, hj⟩ := zwl_at (Y := Y) (ad := ad') hk
      have := hD1.2 j _ hj
      dsimp only at this
      rw [e] at this
      exact (hother k' hk').1 this
    · rw [e1]
      unfold zdc at hz1
      omega
    · rw [e1]
      unfold zds at hz2
      omega
  have hvl : v.toList = (r.map (zcv ad')).toList := by
    cases hv
    rfl
  have hG := kont r M' ad' T'.heap (locs ++ L) hK1 hH' hk1 hc1 hc2
  have hG2 := zW_tight (cells := M.1.length + M2.1.length + mc) (slots := zss M.1 + zss M2.1 + ms) hH'.2.2.2.2.2.2.2.2.2.2.1 hH'.2.2.2.2.2.2.2.2.2.2.2 hG
  obtain ⟨t2, a1, b1⟩ := hG2 T' rfl X'
  refine ⟨t2, st t2 ?_, b1⟩
  rw [hvl]
  exact a1
/-- ahead of a call of the first world -/
theorem lpre {avs : List Value} (hK : va_K D vwCl (zTY Y) s) (hE : zEX ad0 (fun q => s.heap.size ≤ q) s) (hH : lH D Y ad0 s ad M ad2 M2 H locs) (hv : ∀ v ∈ avs, zov M.1 v) :
    PreS s H (va_Pc (avs.map (zcv ad)) (fun U => U.heap.size = H.size ∧ va_P D vwCl (zwl Y ad M) U.heap ∧ va_D (fun _ => True) (zwl Y ad M) ∧ va_K D vwCl (zTY Y) U ∧ zEX ad (zAA ad M.1 H.size) U ∧ zom M ∧ ∀ v ∈ avs, zov M.1 v)) (avs.map (zcv ad)) := by
  refine ⟨fun a U g mk q => ?_, fun U hU hWm => ⟨rfl, by rw [hU], by rw [hU]; exact hH.1, hH.2.2.1.weaken (fun _ _ _ _ => trivial), va_K.moved hWm.alike hK, ?_, hH.2.2.2.2.2.2.1, hv⟩⟩
  · obtain ⟨q0, q1, qP, qD, qK, qE, qO, qV⟩ := q
    exact ⟨q0, q1, qP, qD, va_K.moved (u := U) (U := U.calling g mk a) (Vm.Alike.refl U.vm) qK, zEX.same (u := U) rfl rfl qE, qO, qV⟩
  · exact zEX.later hWm (fun q h1 h2 => hH.lo h2) (fun q h1 h2 => by rw [hU]; exact hH.2.2.2.2.2.1.2.1 q h1 h2) hH.2.2.2.2.2.2.2.2.1 hE
/-- a method of the first world's object k -/
theorem lV {y : MethodName} {bytes : ByteArray} {maxL idx n fr lo : Nat} {rt : Option FieldType} {Cc : List Value → zMm → zKt → Prop} {ci nf : Nat} {Tc : u_T} {Cn own : String} {kk : Nat} {as' : List Value} {nL : Nat} {cc : ByteArray}
    (C : p.tables.exec = Jvm.exec ∧ c.code = cc ∧ c.maxLocals = nL ∧ s.vm.findClass own = some m.cls ∧ ∀ w ∈ gT, w.before args s = true) (hK : va_K D vwCl (zTY Y) s) (hE : zEX ad0 (fun q => s.heap.size ≤ q) s)
    (hH : lH D Y ad0 s ad M ad2 M2 H locs)
    (hc : vwCl[ci]? = some (Cn, Tc, nf)) (hcn : y.cls = Cn) (hM : zMt l D Y y bytes maxL rt fr lo mc ms Cc) (hco : Cond.code y bytes maxL rt ∈ gT) (hlk : Cond.methodLink own idx y ∈ gT) (him : Cond.instanceMethod y ∈ gT) (hse : Cond.selects Cn y y ∈ gT) (hin : Cond.initialized y.cls ∈ gT)
    (hdn : y.cls ≠ "java/lang/invoke/MethodHandle" ∧ y.cls ≠ "java/lang/invoke/VarHandle" ∧ (parseMethodDescriptor y.desc).map (fun d => d.parameters.length) = some n) (hR : fr + 1 ≤ R.frames ∧ 8 + (maxL + 11) + lo ≤ R.locals) (hd : decode cc pc = .ok (.invokevirtual idx, 3))
    (hsh : zsh kk = (5, ci, nf)) (hkL : kk ∈ M.1) (hints : ∀ v ∈ as', ∃ x, v = Value.int x) (hlen : as'.length = n) (hsz : lsA.size = nL) (hst : st0 = as'.reverse ++ Value.ref (ad kk) :: rest) (hrest : (rest.map fun v => v.category).sum ≤ 8) (hroom : M.1.length + M2.1.length + mc ≤ R.cells ∧ zss M.1 + zss M2.1 + ms ≤ R.slots)
    (hC : Cc (.ref kk :: as') M K1)
    (kont : ∀ (r : Option Value) (M' : zMm) (ad' : Nat → Nat) (H' : Heap) (locs' : List Loc), K1 r M' → lH D Y ad0 s ad' M' ad2 M2 H' locs' → (∀ k ∈ M.1, k ∈ M'.1 ∧ ad' k = ad k) → M'.1.length ≤ M.1.length + mc → zss M'.1 ≤ zss M.1 + ms → W p l e R s m args below meth c H' locs' (M'.1.length + M2.1.length) (zss M'.1 + zss M2.1) Z (F0 m (pc + 3) lsA ((r.map (zcv ad')).toList ++ rest))) :
    W p l e R s m args below meth c H locs (M.1.length + M2.1.length) (zss M.1 + zss M2.1) Z (F0 m pc lsA st0) := by
  have hmap : as'.map (zcv ad) = as' := by
    have : ∀ (L : List Value), (∀ v ∈ L, ∃ x, v = Value.int x) → L.map (zcv ad) = L := by
      intro L
      induction L with
      | nil => intro _; rfl
      | cons v L ih =>
        intro h
        obtain ⟨x, rfl⟩ := h v List.mem_cons_self
        rw [List.map_cons, ih (fun w hw => h w (List.mem_cons_of_mem _ hw))]
        rfl
    exact this _ hints
  have hov : ∀ v ∈ (Value.ref kk :: as'), zov M.1 v := by
    intro v hv
    rcases List.mem_cons.mp hv with rfl | hv
    · exact Or.inl hkL
    · obtain ⟨x, rfl⟩ := hints v hv
      trivial
  have hws : ∀ w ∈ (Cond.code y bytes maxL rt :: gT), w ∈ gT := List.forall_mem_cons.mpr ⟨hco, fun _ h => h⟩
  obtain ⟨q, hq, hw⟩ := zwl_at (Y := Y) (ad := ad) hkL
  rw [zen_obj hsh] at hw
  have hpre := lpre hK hE hH hov
  have hts := C.2.2.2.2
  rw [List.map_cons, hmap] at hpre
  have hMet := hM ad M (.ref kk :: as') K1 H.size hC
  rw [List.map_cons, hmap] at hMet
  subst hst
  exact lcall hH (va_runV (Ts := gT) (b := ad kk) (As := as') (rest := rest) C hMet ⟨callB_of n hts (gT_good hws) rfl rfl rfl (hts _ hin) (hts _ hlk) hdn hR, hts _ him, hts _ hse⟩ ⟨hpre.1, va_recv hK hH.1 hc hw, hpre.2⟩ rfl hlen hsz rfl (lv_room hrest) hd hroom) kont
end LW
