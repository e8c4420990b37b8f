/-! THE CONTEXT of a method's body, what its soundness is, and the heap's measure -/
abbrev zCt : Type := Program × Launch × Env × Room × State × MethodId × Array Value × List Frame × Method × Code × va_G × (Nat → ClassId) × (Nat → Nat) × zMm × zKt
def zCX (X : zCt) (own nm : String) (cc : ByteArray) (nL : Nat) (ret : Option FieldType) : Prop := match X with
  | (p, _, _, _, s, m, args, _, meth, c, D, Y, ad0, M0, _) => p.tables.exec = Jvm.exec ∧ c.code = cc ∧ c.maxLocals = nL ∧ meth.sig.returnType = ret ∧ s.vm.findClass own = some m.cls ∧ (∀ w ∈ gT, w.before args s = true) ∧ meth.locks = false ∧ va_K D vwCl (zTY Y) s ∧ zEX ad0 (zAA ad0 M0.1 s.heap.size) s ∧ meth.name = nm
def zGD (X : zCt) (nL pc : Nat) (M : zMm) (ls : zLo) (st : List Value) : Prop := match X with
  | (p, l, e, R, s, m, args, below, meth, c, D, Y, ad0, M0, K) => ∀ (ad : Nat → Nat) (H : Heap) (locs : List Loc) (lsA : Array Slot), zWH D Y ad0 M0.1 s R ad M H locs → zoL M.1 ls st → lv_has lsA nL (zlcv ad 0 ls) →
      W p l e R s m args below meth c H locs (zdc M0.1 M.1) (zds M0.1 M.1) (MQ below (zQt D Y K ad0 M0 s.heap.size R.cells R.slots) args s R.cells R.slots (zAA ad0 M0.1 s.heap.size)) (F0 m pc lsA (st.map (zcv ad)))
/-- P is sound at pc -/
def zSd (X : zCt) (own nm : String) (cc : ByteArray) (nL : Nat) (ret : Option FieldType) (pc : Nat) (P : zPP) : Prop := zCX X own nm cc nL ret → ∀ M ls st, P M ls st → zGD X nL pc M ls st
def zKX (X : zCt) : zKt := X.2.2.2.2.2.2.2.2.2.2.2.2.2.2
def zRX (X : zCt) : Room := X.2.2.2.1
def zMX (X : zCt) : zMm := X.2.2.2.2.2.2.2.2.2.2.2.2.2.1
/-- the room that is left, as limits of the list of cells and of their slots -/
def zlc (X : zCt) : Nat := (zMX X).1.length + (zRX X).cells
def zls (X : zCt) : Nat := zss (zMX X).1 + (zRX X).slots
theorem zSd.imp {X : zCt} {own nm : String} {cc : ByteArray} {nL : Nat} {ret : Option FieldType} {pc : Nat} {P P' : zPP} (h : zSd X own nm cc nL ret pc P') (hi : ∀ M ls st, P M ls st → P' M ls st) : zSd X own nm cc nL ret pc P := fun c M ls st hp => h c M ls st (hi M ls st hp)
/-! ### the measure of heaps -/
theorem zhs_same {s T : State} {locs : List Loc} {cells slots : Nat} (h : s.sameButNew T locs cells slots) : zhs T.heap = zhs s.heap + ((T.heap.toList.drop s.heap.size).map (·.slots.size)).sum := by
  obtain ⟨-, h1, -, -, -, h5⟩ := h
  have hpre : (T.heap.toList.take s.heap.size).map (·.slots.size) = s.heap.toList.map (·.slots.size) := by
    apply List.ext_getElem?
    intro i
    rw [List.getElem?_map, List.getElem?_map]
    by_cases hi : i < s.heap.size
    · rw [List.getElem?_take_of_lt hi]
      have hs : s.heap[i]? = some s.heap[i] := Array.getElem?_eq_getElem hi
      obtain ⟨c', g1, g2, g3, -⟩ := h5 i _ hs
      rw [Array.getElem?_toList, Array.getElem?_toList, g1, hs]
      simp [g3]
    · have e1 : (T.heap.toList.take s.heap.size)[i]? = none := by
        rw [List.getElem?_eq_none_iff]
        rw [List.length_take]
        omega
      have e2 : s.heap.toList[i]? = none := by
        rw [List.getElem?_eq_none_iff, Array.length_toList]
        omega
      rw [e1, e2]
  unfold zhs
  rw [← hpre, ← List.sum_append, ← List.map_append, List.take_append_drop]
section ZT
variable {p : Program} {l : Launch} {e : Env} {R : Room} {s : State} {m : MethodId} {args : Array Value} {below : List Frame} {meth : Method} {c : Code} {H : Heap} {locs : List Loc} {cells slots : Nat} {Q : State → Prop}
theorem zW_know {g : JFrame} (kk : H.size ≤ s.heap.size + cells → zhs H ≤ zhs s.heap + slots → W p l e R s m args below meth c H locs cells slots Q g) : W p l e R s m args below meth c H locs cells slots Q g := by
  intro T hT X
  have hs := X.same
  have h1 : T.heap.size ≤ s.heap.size + cells := hs.2.2.1
  have h2 := zhs_same hs
  have h3 := hs.2.2.2.2.1
  have h2' : zhs T.heap = zhs s.heap + ((T.heap.toList.drop s.heap.size).map (·.slots.size)).sum := h2
  have h3' : ((T.heap.toList.drop s.heap.size).map (·.slots.size)).sum ≤ slots := h3
  refine kk (by rw [← hT]; exact h1) ?_ T hT X
  rw [← hT]
  omega
theorem zW_tight {g : JFrame} {k n : Nat} (h1 : H.size ≤ s.heap.size + k) (h2 : zhs H ≤ zhs s.heap + n) (kk : W p l e R s m args below meth c H locs k n Q g) : W p l e R s m args below meth c H locs cells slots Q g := by
  intro T hT X
  refine kk T hT { X with same := ?_ }
  have hs := X.same
  have h3 := zhs_same hs
  have h3' : zhs T.heap = zhs s.heap + ((T.heap.toList.drop s.heap.size).map (·.slots.size)).sum := h3
  obtain ⟨g1, g2, g3, g4, g5, g6⟩ := hs
  refine ⟨g1, g2, ?_, g4, ?_, g6⟩
  · have : T.heap.size ≤ s.heap.size + k := by rw [hT]; exact h1
    exact this
  · have : ((T.heap.toList.drop s.heap.size).map (·.slots.size)).sum ≤ n := by
      rw [hT] at h3' ⊢
      omega
    exact this
end ZT
/-! ### from a sound body to the contract -/
theorem zlg_ent : ∀ (vs : List Value) (i : Nat) (v : Value), zlg (vs.map some) i = some v → v ∈ vs
  | [], i, v, h => by simp [zlg] at h
  | a :: l, 0, v, h => by simp [zlg] at h; rw [h]; exact List.mem_cons_self
  | a :: l, i + 1, v, h => List.mem_cons_of_mem _ (zlg_ent l i v h)
/-- the locals at a method's entry: a long takes two places -/
def zent : List Value → zLo
  | [] => []
  | .long x :: l => some (.long x) :: none :: zent l
  | .double x :: l => some (.double x) :: none :: zent l
  | v :: l => some v :: zent l
theorem zent_ok {L : List Nat} : ∀ (vs : List Value), (∀ v ∈ vs, zov L v) → ∀ (i : Nat) (v : Value), zlg (zent vs) i = some v → zov L v
  | [], _, i, v, h => by simp [zent, zlg] at h
  | a :: l, hl, i, v, h => by
    have ih := zent_ok l (fun v hv => hl v (List.mem_cons_of_mem _ hv))
    have h0 := hl a List.mem_cons_self
    have aux : ∀ w, (zlg (some w :: zent l) i = some v) → zov L w → zov L v := by
      intro w hw ow
      cases i with
      | zero => simp [zlg] at hw; rw [← hw]; exact ow
      | succ i => exact ih i v hw
    have aux2 : ∀ w, (zlg (some w :: none :: zent l) i = some v) → zov L w → zov L v := by
      intro w hw ow
      match i, hw with
      | 0, hw => simp [zlg] at hw; rw [← hw]; exact ow
      | 1, hw => simp [zlg] at hw
      | i + 2, hw => exact ih i v hw
    cases a with
    | long x => exact aux2 _ h trivial
    | double x => exact aux2 _ h trivial
    | _ => exact aux _ h h0
theorem zlcv_none (ad : Nat → Nat) (m : Nat) : ∀ (n : Nat), zlcv ad n (List.replicate m none) = [] := by
  induction m with
  | zero => intro n; rfl
  | succ m ih => intro n; rw [List.replicate_succ]; exact ih (n + 1)
theorem zlcv_ent (ad : Nat → Nat) (m : Nat) : ∀ (vs : List Value) (n : Nat), zlcv ad n (zent vs ++ List.replicate m none) = lv_args n (vs.map (zcv ad))
  | [], n => by
    rw [show zent [] ++ List.replicate m none = List.replicate m none from rfl, zlcv_none]
    rfl
  | a :: l, n => by
    cases a with
    | long x => exact congrArg (List.cons _) (zlcv_ent ad m l (n + 2))
    | double x => exact congrArg (List.cons _) (zlcv_ent ad m l (n + 2))
    | int x => exact congrArg (List.cons _) (zlcv_ent ad m l (n + 1))
    | float x => exact congrArg (List.cons _) (zlcv_ent ad m l (n + 1))
    | null => exact congrArg (List.cons _) (zlcv_ent ad m l (n + 1))
    | ref x => exact congrArg (List.cons _) (zlcv_ent ad m l (n + 1))
    | retAddr x => exact congrArg (List.cons _) (zlcv_ent ad m l (n + 1))
theorem zlg_app : ∀ (a : zLo) (m i : Nat) (v : Value), zlg (a ++ List.replicate m none) i = some v → zlg a i = some v
  | [], m, i, v, h => by
    induction m generalizing i with
    | zero => exact h
    | succ m ih =>
      cases i with
      | zero => simp [List.replicate_succ, zlg] at h
      | succ i =>
        have := ih i h
        simp [zlg] at this
  | a :: l, m, 0, v, h => h
  | a :: l, m, i + 1, v, h => zlg_app l m i v h
theorem zlen_sl (ad : Nat → Nat) : ∀ (vs : List Value), (lg_sl (vs.map (zcv ad))).length = (zent vs).length
  | [] => rfl
  | a :: l => by
    cases a with
    | long x => exact congrArg (· + 2) (zlen_sl ad l)
    | double x => exact congrArg (· + 2) (zlen_sl ad l)
    | int x => exact congrArg (· + 1) (zlen_sl ad l)
    | float x => exact congrArg (· + 1) (zlen_sl ad l)
    | null => exact congrArg (· + 1) (zlen_sl ad l)
    | ref x => exact congrArg (· + 1) (zlen_sl ad l)
    | retAddr x => exact congrArg (· + 1) (zlen_sl ad l)
/-- THE CONTRACT of a method out of a body that is sound at 0: C gives the body's start -/
theorem zMt.of {l : Launch} {D : va_G} {Y : Nat → ClassId} {y : MethodName} {cc : ByteArray} {maxL : Nat} {ret : Option FieldType} {fr lo mc ms : Nat} {C : List Value → zMm → zKt → Prop} (hy : plainName y.cls = true)
    (h : ∀ X : zCt, X.2.1 = l → zRX X = { frames := fr, cells := mc, slots := ms, locals := lo } → X.2.2.2.2.2.2.2.2.2.2.1 = D → X.2.2.2.2.2.2.2.2.2.2.2.1 = Y → ∀ avs, C avs (zMX X) (zKX X) →
      (zent avs).length ≤ maxL ∧ ∃ P : zPP, zSd X y.cls y.name cc maxL ret 0 P ∧ P (zMX X) (zent avs ++ List.replicate (maxL - (zent avs).length) none) []) : zMt l D Y y cc maxL ret fr lo mc ms C := by
  intro ad0 M0 avs K sz hC
  refine Met.ofW (cc := cc) (maxL := maxL) (ret := ret) hy rfl ?_
  intro p e s m args below meth c s₁ B hml hv
  obtain ⟨rfl, hsz, hP, hD0, hK, hE, hO, hA⟩ := hv
  subst hsz
  have hts := atoms_spec (ws := Cond.code y cc maxL ret :: gT) B.pre
  obtain ⟨hlen, P, hS, hP0⟩ := h (p, l, e, { frames := fr, cells := mc, slots := ms, locals := lo }, s, m, (avs.map (zcv ad0)).toArray, below, meth, c, D, Y, ad0, M0, K) rfl rfl rfl rfl avs hC
  have hG := hS ⟨B.exec, B.bytes, hml, B.returns, findClass_of_methodNamed B.named, fun w hw => hts w (List.mem_cons_of_mem _ hw), B.notSynchronized, hK, hE, (name_of_methodNamed B.named B.method).1⟩ M0 _ [] hP0
  have hlen' : (lg_sl (avs.map (zcv ad0))).length ≤ maxL := by rw [zlen_sl]; exact hlen
  have hl := lv_entry (avs.map (zcv ad0)) (n := maxL) hlen'
  rw [lg_entry_eq]
  have hz1 : zdc M0.1 M0.1 = 0 := Nat.sub_self _
  have hz2 : zds M0.1 M0.1 = 0 := Nat.sub_self _
  have hG' := hG ad0 s.heap [] _ ⟨hP, ⟨hD0.1, fun k q hk => by
      obtain ⟨k', hk', rfl⟩ := List.mem_map.mp (List.mem_of_getElem? hk)
      exact Or.inl ⟨k', hk', rfl⟩⟩, va_S.rf, hO, fun k hk => ⟨hk, rfl⟩, fun k _ => rfl, Nat.le_refl _, Nat.le_refl _, Nat.le_add_right _ _, Nat.le_add_right _ _⟩
    ⟨fun v hv => absurd hv List.not_mem_nil, fun i v hi => zent_ok avs hA i v (zlg_app _ _ i v hi)⟩ (by rw [zlcv_ent]; exact hl)
  simp only [zMX] at hG'
  rw [hz1, hz2] at hG'
  exact hG'
