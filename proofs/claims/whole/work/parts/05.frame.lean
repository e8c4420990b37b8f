/-! THE ABSTRACT MACHINE: memory by numbered cells, locals, operand stack; 'zGd' ties it to the kit's W -/
abbrev zMm : Type := List Nat × (Nat → Nat → Int32) × (Nat → Nat → Int64) × (Nat → Nat → Option Nat)
abbrev zKt : Type := Option Value → zMm → Prop
abbrev zLo : Type := List (Option Value)
abbrev zPP : Type := zMm → zLo → List Value → Prop
def zcv (ad : Nat → Nat) (v : Value) : Value := match v with
  | .ref a => .ref (ad a)
  | .int x => .int x
  | .long x => .long x
  | .float x => .float x
  | .double x => .double x
  | .null => .null
  | .retAddr x => .retAddr x
theorem zcv_cat (ad : Nat → Nat) (v : Value) : (zcv ad v).category = v.category := by cases v <;> rfl
theorem zcv_rf (ad : Nat → Nat) (r : Option Nat) : zcv ad (va_rf r) = va_rf (r.map ad) := by cases r <;> rfl
def zw2 {α : Type} (f : Nat → Nat → α) (k i : Nat) (v : α) : Nat → Nat → α := fun k' => if k' = k then va_up (f k) i v else f k'
theorem zw2_s {α : Type} {f : Nat → Nat → α} {k i : Nat} {v : α} : zw2 f k i v k = va_up (f k) i v := by simp [zw2]
theorem zw2_n {α : Type} {f : Nat → Nat → α} {k k' i : Nat} {v : α} (h : k' ≠ k) : zw2 f k i v k' = f k' := by simp [zw2, h]
def zlg : zLo → Nat → Option Value
  | [], _ => none
  | a :: _, 0 => a
  | _ :: l, n + 1 => zlg l n
def zlset : zLo → Nat → Option Value → zLo
  | [], _, _ => []
  | _ :: l, 0, v => v :: l
  | a :: l, n + 1, v => a :: zlset l n v
def zlpr : zLo → Nat → Option Value
  | _, 0 => none
  | l, n + 1 => zlg l n
def zlcv (ad : Nat → Nat) : Nat → zLo → List (Nat × Value)
  | _, [] => []
  | n, none :: l => zlcv ad (n + 1) l
  | n, some v :: l => (n, zcv ad v) :: zlcv ad (n + 1) l
theorem zlcv_mem {ad : Nat → Nat} : ∀ {l : zLo} {n : Nat} {q : Nat × Value}, q ∈ zlcv ad n l ↔ ∃ (i : Nat) (v : Value), zlg l i = some v ∧ q = (n + i, zcv ad v)
  | [], n, q => by simp [zlcv, zlg]
  | none :: l, n, q => by
    rw [zlcv, zlcv_mem (l := l)]
    constructor
    · rintro ⟨i, v, h, rfl⟩
      exact ⟨i + 1, v, h, by rw [Nat.add_assoc, Nat.add_comm 1 i]⟩
    · rintro ⟨i, v, h, rfl⟩
      cases i with
      | zero => simp [zlg] at h
      | succ i => exact ⟨i, v, h, by rw [Nat.add_assoc, Nat.add_comm 1 i]⟩
  | some w :: l, n, q => by
    rw [zlcv, List.mem_cons, zlcv_mem (l := l)]
    constructor
    · rintro (rfl | ⟨i, v, h, rfl⟩)
      · exact ⟨0, w, rfl, rfl⟩
      · exact ⟨i + 1, v, h, by rw [Nat.add_assoc, Nat.add_comm 1 i]⟩
    · rintro ⟨i, v, h, rfl⟩
      cases i with
      | zero => left; simp [zlg] at h; rw [h]; rfl
      | succ i => exact Or.inr ⟨i, v, h, by rw [Nat.add_assoc, Nat.add_comm 1 i]⟩
theorem zlg_set : ∀ {l : zLo} {i j : Nat} {v : Option Value} {w : Value}, zlg (zlset l i v) j = some w → (j = i ∧ v = some w) ∨ (j ≠ i ∧ zlg l j = some w)
  | [], i, j, v, w, h => by simp [zlset, zlg] at h
  | a :: l, 0, 0, v, w, h => Or.inl ⟨rfl, h⟩
  | a :: l, 0, j + 1, v, w, h => Or.inr ⟨by omega, h⟩
  | a :: l, i + 1, 0, v, w, h => Or.inr ⟨by omega, h⟩
  | a :: l, i + 1, j + 1, v, w, h => by
    rcases zlg_set (l := l) h with ⟨h1, h2⟩ | ⟨h1, h2⟩
    · exact Or.inl ⟨by omega, h2⟩
    · exact Or.inr ⟨by omega, h2⟩
theorem zlv_get {ad : Nat → Nat} {ls : zLo} {lsA : Array Slot} {nL i : Nat} {v : Value} (hl : lv_has lsA nL (zlcv ad 0 ls)) (h : zlg ls i = some v) : lsA[i]? = some (.val (zcv ad v)) :=
  hl.2.2 (i, zcv ad v) (zlcv_mem.mpr ⟨i, v, h, by rw [Nat.zero_add]⟩)
theorem zlv_less {lsA : Array Slot} {nL : Nat} {a b : List (Nat × Value)} (hl : lv_has lsA nL a) (h : ∀ q ∈ b, q ∈ a) : lv_has lsA nL b := ⟨hl.1, hl.2.1, fun q hq => hl.2.2 q (h q hq)⟩
/-- the list of locals behind a store of one word -/
theorem zlv_st1 {ad : Nat → Nat} {ls : zLo} {lsA : Array Slot} {nL i : Nat} {v : Value} (hp : ∀ x, zlpr ls i ≠ some (.long x)) (hp2 : ∀ x, zlpr ls i ≠ some (.double x))
    (hl : lv_has lsA nL ((i, zcv ad v) :: (zlcv ad 0 ls).filter (fun q => !(q.1 == i) && !(q.1 + 1 == i && q.2.category == 2)))) : lv_has lsA nL (zlcv ad 0 (zlset ls i (some v))) := by
  refine zlv_less hl fun q hq => ?_
  obtain ⟨j, w, h, rfl⟩ := zlcv_mem.mp hq
  rcases zlg_set h with ⟨rfl, h2⟩ | ⟨h1, h2⟩
  · cases h2
    rw [Nat.zero_add]
    exact List.mem_cons_self
  · refine List.mem_cons_of_mem _ (List.mem_filter.mpr ⟨zlcv_mem.mpr ⟨j, w, h2, rfl⟩, ?_⟩)
    rw [zcv_cat]
    simp only [Nat.zero_add, Bool.and_eq_true, Bool.not_eq_true', beq_eq_false_iff_ne, ne_eq, Bool.and_eq_false_iff]
    refine ⟨h1, ?_⟩
    by_cases hji : j + 1 = i
    · right
      subst hji
      have hw : zlpr ls (j + 1) = some w := h2
      cases w with
      | long x => exact absurd hw (hp x)
      | double x => exact absurd hw (hp2 x)
      | _ => simp [Value.category]
    · exact Or.inl hji
theorem zlv_st2 {ad : Nat → Nat} {ls : zLo} {lsA : Array Slot} {nL i : Nat} {v : Value} (hp : ∀ x, zlpr ls i ≠ some (.long x)) (hp2 : ∀ x, zlpr ls i ≠ some (.double x))
    (hl : lv_has lsA nL ((i, zcv ad v) :: (zlcv ad 0 ls).filter (fun q => !(q.1 == i) && (!(q.1 == i + 1) && !(q.1 + 1 == i && q.2.category == 2))))) : lv_has lsA nL (zlcv ad 0 (zlset (zlset ls i (some v)) (i + 1) none)) := by
  refine zlv_less hl fun q hq => ?_
  obtain ⟨j, w, h, rfl⟩ := zlcv_mem.mp hq
  rcases zlg_set h with ⟨rfl, h2⟩ | ⟨h0, h⟩
  · cases h2
  rcases zlg_set h with ⟨rfl, h2⟩ | ⟨h1, h2⟩
  · cases h2
    rw [Nat.zero_add]
    exact List.mem_cons_self
  · refine List.mem_cons_of_mem _ (List.mem_filter.mpr ⟨zlcv_mem.mpr ⟨j, w, h2, rfl⟩, ?_⟩)
    rw [zcv_cat]
    simp only [Nat.zero_add, Bool.and_eq_true, Bool.not_eq_true', beq_eq_false_iff_ne, ne_eq, Bool.and_eq_false_iff]
    refine ⟨h1, h0, ?_⟩
    by_cases hji : j + 1 = i
    · right
      subst hji
      have hw : zlpr ls (j + 1) = some w := h2
      cases w with
      | long x => exact absurd hw (hp x)
      | double x => exact absurd hw (hp2 x)
      | _ => simp [Value.category]
    · exact Or.inl hji
/-! ### the memory as cells of the heap -/
def zfv (ad : Nat → Nat) (M : zMm) (k j t : Nat) : Value := match t with
  | 0 => .int (M.2.1 k j)
  | 1 => .long (M.2.2.1 k j)
  | _ => va_rf ((M.2.2.2 k j).map ad)
def zfl (ad : Nat → Nat) (M : zMm) (k c n : Nat) : List Value := (List.range n).map fun j => zfv ad M k j (zft c j)
def zen (Y : Nat → ClassId) (ad : Nat → Nat) (M : zMm) (k : Nat) : va_E := match zsh k with
  | (0, n, _) => .inl (Y 0, n, .inl (M.2.1 k))
  | (1, n, _) => .inl (Y 1, n, .inl (M.2.1 k))
  | (2, n, _) => .inl (Y 2, n, .inl (M.2.1 k))
  | (3, n, _) => .inl (Y 3, n, .inr (.inl (M.2.2.1 k)))
  | (4, n, _) => .inl (Y 4, n, .inr (.inr (.inr (.inr fun i => (M.2.2.2 k i).map ad))))
  | (_, c, n) => .inr (c, zfl ad M k c n)
def zwl (Y : Nat → ClassId) (ad : Nat → Nat) (M : zMm) : va_W := M.1.map fun k => (ad k, zen Y ad M k)
def zsz (k : Nat) : Nat := match zsh k with
  | (5, _, n) => n
  | (_, n, _) => n
def zss (L : List Nat) : Nat := (L.map zsz).sum
def zhs (H : Heap) : Nat := (H.toList.map (·.slots.size)).sum
def zTY (Y : Nat → ClassId) : List (ClassId × FieldType) := [(Y 0, .int), (Y 1, .boolean), (Y 2, .byte), (Y 3, .long), (Y 4, .object RX6)]
def zAA (ad0 : Nat → Nat) (L0 : List Nat) (sz : Nat) : Nat → Prop := fun q => (∃ k ∈ L0, q = ad0 k) ∨ sz ≤ q
def zov (L : List Nat) (v : Value) : Prop := match v with
  | .ref k => k ∈ L ∨ 2000 ≤ k
  | _ => True
def zom (M : zMm) : Prop := M.1.Nodup ∧ (∀ k ∈ M.1, k < 2000) ∧ ∀ k ∈ M.1, ∀ j t, M.2.2.2 k j = some t → t ∈ M.1
def zoL (L : List Nat) (ls : zLo) (st : List Value) : Prop := (∀ v ∈ st, zov L v) ∧ ∀ i v, zlg ls i = some v → zov L v
def zdc (L0 L : List Nat) : Nat := L.length - L0.length
def zds (L0 L : List Nat) : Nat := zss L - zss L0
def zWH (D : va_G) (Y : Nat → ClassId) (ad0 : Nat → Nat) (L0 : List Nat) (s : State) (R : Room) (ad : Nat → Nat) (M : zMm) (H : Heap) (locs : List Loc) : Prop :=
  va_P D vwCl (zwl Y ad M) H ∧ va_D (zAA ad0 L0 s.heap.size) (zwl Y ad M) ∧ va_S (zAA ad0 L0 s.heap.size) s.heap H locs ∧ zom M ∧
  (∀ k ∈ L0, k ∈ M.1 ∧ ad k = ad0 k) ∧ (∀ k, 2000 ≤ k → ad k = ad0 k) ∧ L0.length ≤ M.1.length ∧ zss L0 ≤ zss M.1 ∧ M.1.length ≤ L0.length + R.cells ∧ zss M.1 ≤ zss L0 + R.slots
/-- what the body of a method knows at its end -/
def zQt (D : va_G) (Y : Nat → ClassId) (K : zKt) (ad0 : Nat → Nat) (M0 : zMm) (sz mc ms : Nat) : Array Value → State → Outcome → State → Prop := fun _ st oc t =>
  (∃ (r : Option Value) (M : zMm) (ad : Nat → Nat), oc = .returned (r.map (zcv ad)) ∧ K r M ∧ (∀ v, r = some v → zov M.1 v) ∧ va_P D vwCl (zwl Y ad M) t.heap ∧ va_D (zAA ad0 M0.1 sz) (zwl Y ad M) ∧ zom M ∧
    (∀ k ∈ M0.1, k ∈ M.1 ∧ ad k = ad0 k) ∧ (∀ k, 2000 ≤ k → ad k = ad0 k) ∧ M0.1.length ≤ M.1.length ∧ zss M0.1 ≤ zss M.1 ∧ M.1.length ≤ M0.1.length + mc ∧ zss M.1 ≤ zss M0.1 + ms ∧ t.heap.size ≤ st.heap.size + zdc M0.1 M.1 ∧ zhs t.heap ≤ zhs st.heap + zds M0.1 M.1) ∧ va_F (zAA ad0 M0.1 sz) st t
/-- the String constants of the Reader: their places in its pool, their texts' lengths and bytes -/
def zSi (i : Nat) : Nat := match i with
  | 0 => 45 | 1 => 78 | 2 => 80 | 3 => 82 | 4 => 84 | 5 => 71 | 6 => 73 | _ => 39
def zSt (i : Nat) : String := match i with
  | 0 => "year" | 1 => "dyke" | 2 => "open" | 3 => "cut" | 4 => "dredge" | 5 => "by" | 6 => "to" | _ => ";"
def zSl : List Nat := [4, 4, 4, 3, 6, 2, 2, 1]
def zSb : List (List Int32) := [[121, 101, 97, 114], [100, 121, 107, 101], [111, 112, 101, 110], [99, 117, 116], [100, 114, 101, 100, 103, 101], [98, 121], [116, 111], [59]]
def zXs (j : Nat) : Int32 := match j with
  | 0 => 1 | 1 => 0 | 2 => -1 | _ => 0
def zYs (j : Nat) : Int32 := match j with
  | 0 => 0 | 1 => 1 | 2 => 0 | _ => -1
def zNw : List (String × Nat × MethodName × String) := [(RX7, 18, yX4_init, RX7), (RX7, 25, yX0_init, RX7), (RX7, 32, yX5_init, RX7), (RX7, 45, yX2_init, RX7), (RX1, 35, yX7_cellAt, RX7), (RX3, 113, yX7_within, RX7), (RX7, 199, yX6_init, RX7), (RX2, 41, yX7_cellAt, RX7), (RX5, 99, yX7_cellAt, RX7)]
/-- what is given of the tables and of cells outside the world: nobody writes there. External cells: 2001 SIDE_X, 2002 SIDE_Y, 2010 + i the i-th String, 2020 + i its bytes -/
def zEX (ad : Nat → Nat) (A : Nat → Prop) (U : State) : Prop :=
  (∀ q ∈ zNw, va_Nw (.methodLinkNest q.1 q.2.1 q.2.2.1 q.2.2.2) U) ∧ va_Nw (.fieldLinkNest RX5 89 "DeltaRuns" "SIDE_X" "[I" "DeltaRuns") U ∧ va_Nw (.fieldLinkNest RX5 92 "DeltaRuns" "SIDE_Y" "[I" "DeltaRuns") U ∧ va_AO RX6 U ∧
  va_Z "DeltaRuns" "SIDE_X" "[I" (.ref (ad 2001)) A U U.heap ∧ va_T .int (ad 2001) 4 (fun j => .int (zXs j)) A U U.heap ∧ va_Z "DeltaRuns" "SIDE_Y" "[I" (.ref (ad 2002)) A U U.heap ∧ va_T .int (ad 2002) 4 (fun j => .int (zYs j)) A U U.heap ∧
  vk_S 8 zSl zSb (fun i => ad (2010 + i)) (fun i => ad (2020 + i)) A U U.heap ∧ (∀ i, i < 8 → vk_R RX3 (zSi i) (zSt i) (ad (2010 + i)) U) ∧
  va_Z "java/lang/String" "COMPACT_STRINGS" "Z" (.int 1) A U U.heap ∧ (va_Z "jdk/internal/util/Preconditions" "SIOOBE_FORMATTER" "Ljava/util/function/BiFunction;" .null A U U.heap ∨ va_Z "jdk/internal/util/Preconditions" "SIOOBE_FORMATTER" "Ljava/util/function/BiFunction;" (.ref (ad 2003)) A U U.heap)
theorem zEX.same {ad : Nat → Nat} {A : Nat → Prop} {u U : State} (hv : u.vm = U.vm) (hh : U.heap = u.heap) (h : zEX ad A u) : zEX ad A U := by
  have hvm : u.vm.Alike U.vm := by rw [hv]; exact Vm.Alike.refl _
  obtain ⟨h1, h2, h3, h4, h5, h6, h7, h8, h9, h10, h11, h12⟩ := h
  rw [← hh] at h5 h6 h7 h8 h9 h11 h12
  refine ⟨fun q hq => va_Nw.same rfl hv (h1 q hq), va_Nw.same rfl hv h2, va_Nw.same rfl hv h3, h4.moved hvm, h5.moved hvm, h6.moved hvm, h7.moved hvm, h8.moved hvm, h9.moved hvm, fun i hi => (h10 i hi).same hv.symm, h11.moved hvm, ?_⟩
  rcases h12 with h | h
  · exact Or.inl (h.moved hvm)
  · exact Or.inr (h.moved hvm)
/-- at a later state whose tables are warmer, and whose heap is the same outside of A; for a smaller A -/
theorem zEX.later {ad ad' : Nat → Nat} {A B : Nat → Prop} {s U : State} (hW : s.WarmedH U.vm) (hB : ∀ q, q < s.heap.size → B q → A q) (hk : ∀ q : Nat, q < s.heap.size → ¬ A q → U.heap[q]? = s.heap[q]?) (had : ∀ k, 2000 ≤ k → ad' k = ad k) (h : zEX ad A s) : zEX ad' B U := by
  have hvm := hW.alike
  obtain ⟨h1, h2, h3, h4, h5, h6, h7, h8, h9, h10, h11, h12⟩ := h
  have e1 : ad' 2001 = ad 2001 := had _ (by decide)
  have e2 : ad' 2002 = ad 2002 := had _ (by decide)
  have e3 : (fun i => ad' (2010 + i)) = (fun i => ad (2010 + i)) := funext fun i => had _ (by omega)
  have e4 : (fun i => ad' (2020 + i)) = (fun i => ad (2020 + i)) := funext fun i => had _ (by omega)
  have zz : ∀ {C n d : String} {v : Value}, va_Z C n d v A s s.heap → va_Z C n d v B U U.heap := by
    intro C n d v h
    obtain ⟨cf, kf, fi, f, a, cell, g1, g2, g3, g4, g5, g6, g7, g8⟩ := (h.kept hk).moved hvm
    obtain ⟨cf', kf', fi', f', a', cell', m1, m2, m3, m4, m5, m6, m7, m8⟩ := h.moved hvm
    rw [g1] at m1
    cases m1
    rw [g4] at m4
    cases m4
    exact ⟨cf, kf, fi, f, a, cell, g1, g2, g3, g4, g5, g6, g7, fun z => g8 (hB a (Array.getElem?_eq_some_iff.mp m5).1 z)⟩
  have tt : ∀ {ty : FieldType} {t N : Nat} {f : Nat → Value}, va_T ty t N f A s s.heap → va_T ty t N f B U U.heap := by
    intro ty t N f h
    have hlt : t < s.heap.size := by
      obtain ⟨cell, g1, -⟩ := h
      exact (Array.getElem?_eq_some_iff.mp g1).1
    obtain ⟨cell, g1, g2, g3, g4, g5, g6, g7⟩ := (h.kept hk).moved hvm
    exact ⟨cell, g1, g2, g3, g4, g5, g6, fun z => g7 (hB t hlt z)⟩
  refine ⟨fun q hq => (h1 q hq).warmM hW, h2.warmF hW, h3.warmF hW, h4.moved hvm, by rw [e1]; exact zz h5, by rw [e1]; exact tt h6, by rw [e2]; exact zz h7, by rw [e2]; exact tt h8, ?_, fun i hi => by rw [had (2010 + i) (by omega)]; exact (h10 i hi).warm hW, zz h11, ?_⟩
  · rw [e3, e4]
    refine ⟨fun i hi => ?_, h9.2⟩
    obtain ⟨a1, a2, a3, a4⟩ := h9.1 i hi
    have hlt : ad (2010 + i) < s.heap.size := by
      obtain ⟨cell, g1, -⟩ := a1
      exact (Array.getElem?_eq_some_iff.mp g1).1
    have oo : ∀ {o n d : String} {v : Value}, va_OF o n d v (ad (2010 + i)) A s s.heap → va_OF o n d v (ad (2010 + i)) B U U.heap := by
      intro o n d v h
      obtain ⟨cf, k, j, f, cell, g1, g2, g3, g4, g5, g6⟩ := (h.kept hk).moved hvm
      exact ⟨cf, k, j, f, cell, g1, g2, g3, g4, g5, fun z => g6 (hB _ hlt z)⟩
    refine ⟨?_, oo a2, oo a3, tt a4⟩
    obtain ⟨cell, g1, g2, g3, g4⟩ := (a1.kept hk).moved hvm
    exact ⟨cell, g1, g2, g3, fun z => g4 (hB _ hlt z)⟩
  · rcases h12 with h | h
    · exact Or.inl (zz h)
    · exact Or.inr (by rw [had 2003 (by decide)]; exact zz h)
/-- a method's contract: from every memory with 'C args memory K' it comes to an end with K -/
def zMt (l : Launch) (D : va_G) (Y : Nat → ClassId) (y : MethodName) (cc : ByteArray) (maxL : Nat) (ret : Option FieldType) (fr lo mc ms : Nat) (C : List Value → zMm → zKt → Prop) : Prop :=
  ∀ (ad0 : Nat → Nat) (M0 : zMm) (avs : List Value) (K : zKt) (sz : Nat), C avs M0 K →
    Met l y (.code y cc maxL ret :: gT) { frames := fr, cells := mc, slots := ms, locals := lo }
      (va_Pc (avs.map (zcv ad0)) (fun U => U.heap.size = sz ∧ va_P D vwCl (zwl Y ad0 M0) U.heap ∧ va_D (fun _ => True) (zwl Y ad0 M0) ∧ va_K D vwCl (zTY Y) U ∧ zEX ad0 (zAA ad0 M0.1 sz) U ∧ zom M0 ∧ ∀ v ∈ avs, zov M0.1 v))
      (zQt D Y K ad0 M0 sz mc ms) mc ms (zAA ad0 M0.1 sz)
