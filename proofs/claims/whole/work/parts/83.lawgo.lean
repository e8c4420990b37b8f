/-! THE LAW: one turn -/
def lCx (p : Program) (s : State) (m : MethodId) (meth : Method) (c : Code) (b L : Nat) (xs : Nat → Int32) (D : va_G) (Y : Nat → ClassId) (ad0 : Nat → Nat) : Prop := lw_At p s m meth c b L xs ∧ va_K D vwCl (zTY Y) s ∧ zEX ad0 (fun q => s.heap.size ≤ q) s
def lS (D : va_G) (Y : Nat → ClassId) (ad0 : Nat → Nat) (s : State) (b i t : Nat) (F : wFS) (adX : Nat → Nat) (MX : zMm) (adM : Nat → Nat) (MM : zMm) (H : Heap) (locs : List Loc) (ls : Array Slot) : Prop :=
  lH D Y ad0 s adX MX adM MM H locs ∧ (∃ pk dk q, q ≤ t ∧ zXF MX F pk dk q) ∧ zMF MM F ∧ (MM.1.length ≤ 23 ∧ zss MM.1 ≤ 3038) ∧ 0 ∈ MX.1 ∧ 200 ∈ MM.1 ∧ lv_has ls 4 [(0, .ref b), (1, .ref (adX 0)), (2, .ref (adM 200)), (3, .int (nI i))]
def lGo (p : Program) (l : Launch) (e : Env) (s : State) (m : MethodId) (below : List Frame) (meth : Method) (c : Code) (b : Nat) (D : va_G) (Y : Nat → ClassId) (ad0 : Nat → Nat) (i t pc : Nat) (F : wFS) : Prop :=
  ∀ (adX : Nat → Nat) (MX : zMm) (adM : Nat → Nat) (MM : zMm) (H : Heap) (locs : List Loc) (ls : Array Slot), lS D Y ad0 s b i t F adX MX adM MM H locs ls → W p l e room_1 s m #[Value.ref b] below meth c H locs (MX.1.length + MM.1.length) (zss MX.1 + zss MM.1) (lw_Z below #[Value.ref b] s) (F0 m pc ls [])
theorem zXF_room {M : zMm} {F : wFS} {pk dk q : Nat} (h : zXF M F pk dk q) : M.1.length ≤ 105 + q ∧ zss M.1 ≤ 18929 + 5 * q := by
  obtain ⟨⟨-, -, -, -, -, -, -, -, -, -, -, h1, h2, -⟩, -⟩ := h
  have := wct_le (zlv M) 36
  omega
section LT
variable {p : Program} {l : Launch} {e : Env} {s : State} {m : MethodId} {below : List Frame} {meth : Method} {c : Code} {b L : Nat} {xs : Nat → Int32} {D : va_G} {Y : Nat → ClassId} {ad0 : Nat → Nat} {Z : State → Prop}
/-- an int of the script -/
theorem lpush (C : lCx p s m meth c b L xs D Y ad0) {H : Heap} {locs : List Loc} {cells slots : Nat} {ls : Array Slot} {rest : List Value} {i j pc : Nat} {R : Room} {jj : Int} (hS : va_S (fun q => s.heap.size ≤ q) s.heap H locs) (hl0 : ls[0]? = some (.val (.ref b))) (hl3 : ls[3]? = some (.val (.int (nI i)))) (hL : L ≤ 3072) (hj : i + j < L) (hjj : Int32.ofInt jj = nI j)
    (d0 : decode code pc = .ok (.aload_n 0, 1)) (d1 : decode code (pc + 1) = .ok (.iload_n 3, 1)) (d2 : decode code (pc + 2) = .ok (.iconst jj, 1)) (d3 : decode code (pc + 3) = .ok (.iadd, 1)) (d4 : decode code (pc + 4) = .ok (.iaload, 1))
    (kk : W p l e R s m #[Value.ref b] below meth c H locs cells slots Z (F0 m (pc + 5) ls (.int (xs (i + j)) :: rest))) : W p l e R s m #[Value.ref b] below meth c H locs cells slots Z (F0 m pc ls rest) := by
  obtain ⟨hx, hb, hr, hml, hown, hts, hX, hbl, hlocks, hgv⟩ := C.1
  refine lv_aload_n hx hb d0 rfl hl0 ?_
  refine lv_iload_n hx hb d1 rfl hl3 ?_
  refine lv_iconst hx hb d2 hjj ?_
  refine lv_iadd hx hb d3 ?_
  rw [nI_add]
  have hin : vp_in (nI (i + j)) L := vp_in_nI hj (by omega)
  refine va_sld hx hb hX hbl (Nat.not_le.mpr hbl) hS hin d4 ?_
  rw [nI_clamp (by omega)]
  exact kk
/-- the frame of a turn: the class's call, the Model's call, the same answer -/
theorem lturn (C : lCx p s m meth c b L xs D Y ad0) {i t pc pcX pcM : Nat} {F F' : wFS} {v : Int32} {as' : List Value} {n : Nat} {off : Int} (ht : t ≤ 512) (hints : ∀ v ∈ as', ∃ x, v = Value.int x) (hlen : as'.length = n)
    (pX : ∀ (H : Heap) (locs : List Loc) (cells slots : Nat) (ls : Array Slot) (q : Nat), va_S (fun q => s.heap.size ≤ q) s.heap H locs → ls[0]? = some (.val (.ref b)) → ls[1]? = some (.val (.ref q)) → ls[3]? = some (.val (.int (nI i))) → W p l e room_1 s m #[Value.ref b] below meth c H locs cells slots (lw_Z below #[Value.ref b] s) (F0 m pcX ls (as'.reverse ++ [.ref q])) → W p l e room_1 s m #[Value.ref b] below meth c H locs cells slots (lw_Z below #[Value.ref b] s) (F0 m pc ls []))
    (pM : ∀ (H : Heap) (locs : List Loc) (cells slots : Nat) (ls : Array Slot) (q : Nat) (x : Int32), va_S (fun q => s.heap.size ≤ q) s.heap H locs → ls[0]? = some (.val (.ref b)) → ls[2]? = some (.val (.ref q)) → ls[3]? = some (.val (.int (nI i))) → W p l e room_1 s m #[Value.ref b] below meth c H locs cells slots (lw_Z below #[Value.ref b] s) (F0 m pcM ls (as'.reverse ++ .ref q :: [.int x])) → W p l e room_1 s m #[Value.ref b] below meth c H locs cells slots (lw_Z below #[Value.ref b] s) (F0 m (pcX + 3) ls [.int x]))
    {yX : MethodName} {bX : ByteArray} {maxX idX frX loX mc ms : Nat} {rtX : Option FieldType} {CX : List Value → zMm → zKt → Prop} (hcX : yX.cls = RX7) (hMX : zMt l D Y yX bX maxX rtX frX loX mc ms CX) (hcoX : Cond.code yX bX maxX rtX ∈ gT) (hlkX : Cond.methodLink RL idX yX ∈ gT) (himX : Cond.instanceMethod yX ∈ gT) (hseX : Cond.selects RX7 yX yX ∈ gT) (hinX : Cond.initialized yX.cls ∈ gT)
    (hdnX : yX.cls ≠ "java/lang/invoke/MethodHandle" ∧ yX.cls ≠ "java/lang/invoke/VarHandle" ∧ (parseMethodDescriptor yX.desc).map (fun d => d.parameters.length) = some n) (hRX : frX + 1 ≤ room_1.frames ∧ 8 + (maxX + 11) + loX ≤ room_1.locals) (hmc : mc ≤ 1000 ∧ ms ≤ 100000) (hdX : decode code pcX = .ok (.invokevirtual idX, 3))
    {yM : MethodName} {bM : ByteArray} {maxM idM frM loM : Nat} {rtM : Option FieldType} {CM : List Value → zMm → zKt → Prop} (hcM : yM.cls = RX8) (hMM : zMt l D Y yM bM maxM rtM frM loM 0 0 CM) (hcoM : Cond.code yM bM maxM rtM ∈ gT) (hlkM : Cond.methodLink RL idM yM ∈ gT) (himM : Cond.instanceMethod yM ∈ gT) (hseM : Cond.selects RX8 yM yM ∈ gT) (hinM : Cond.initialized yM.cls ∈ gT)
    (hdnM : yM.cls ≠ "java/lang/invoke/MethodHandle" ∧ yM.cls ≠ "java/lang/invoke/VarHandle" ∧ (parseMethodDescriptor yM.desc).map (fun d => d.parameters.length) = some n) (hRM : frM + 1 ≤ room_1.frames ∧ 8 + (maxM + 11) + loM ≤ room_1.locals) (hdM : decode code pcM = .ok (.invokevirtual idM, 3))
    (hdc : decode code (pcM + 3) = .ok (.if_icmp .eq off, 3)) (hoff : ((pcM + 3 : Nat) : Int) + off = ((784 : Nat) : Int))
    (hCX : ∀ (MX : zMm) (pk dk q : Nat), q ≤ t → zXF MX F pk dk q → CX (.ref 0 :: as') MX (fun r M' => r = some (.int v) ∧ ∃ pk dk q, q ≤ t + 1 ∧ zXF M' F' pk dk q))
    (hCM : ∀ (MM : zMm), zMF MM F → CM (.ref 200 :: as') MM (fun r M' => r = some (.int v) ∧ zMF M' F'))
    (nx : lGo p l e s m below meth c b D Y ad0 i (t + 1) 784 F') : lGo p l e s m below meth c b D Y ad0 i t pc F := by
  intro adX MX adM MM H locs ls hS
  obtain ⟨hH, ⟨pk, dk, q, hq, hXF⟩, hMF, ⟨hm1, hm2⟩, h0, h200, hl⟩ := hS
  obtain ⟨⟨hx, hb, hr, hml, hown, hts, hX, hbl, hlocks, hgv⟩, hK, hE⟩ := id C
  have htg : ∀ w ∈ gT, w.before #[Value.ref b] s = true := fun w hw => hts w (gT_sub hw)
  have CF : p.tables.exec = Jvm.exec ∧ c.code = code ∧ c.maxLocals = 4 ∧ s.vm.findClass RL = some m.cls ∧ ∀ w ∈ gT, w.before #[Value.ref b] s = true := ⟨hx, hb, hml, hown, htg⟩
  have hroom := zXF_room hXF
  refine pX H locs _ _ ls (adX 0) hH.2.2.2.2.2.1 (lv_at hl 0 rfl) (lv_at hl 1 rfl) (lv_at hl 3 rfl) ?_
  refine lV (ci := 7) (nf := 9) (Tc := TX7) (rest := []) CF hK hE hH rfl hcX hMX hcoX hlkX himX hseX hinX hdnX hRX hdX rfl h0 hints hlen hl.1 rfl (by decide) ?_ (hCX MX pk dk q hq hXF) (fun r MX' adX' H' locs' hK1 hH' hk1 hl1 hl2 => ?_)
  · have : room_1.cells = 600000 := rfl
    have : room_1.slots = 7302250 := rfl
    omega
  · obtain ⟨rfl, pk', dk', q', hq', hXF'⟩ := hK1
    have hroom' := zXF_room hXF'
    have hl' : lv_has ls 4 [(0, .ref b), (1, .ref (adX' 0)), (2, .ref (adM 200)), (3, .int (nI i))] := by rw [(hk1 0 h0).2]; exact hl
    refine pM H' locs' _ _ ls (adM 200) v hH'.2.2.2.2.2.1 (lv_at hl' 0 rfl) (lv_at hl' 2 rfl) (lv_at hl' 3 rfl) ?_
    rw [Nat.add_comm MX'.1.length, Nat.add_comm (zss MX'.1)]
    refine lV (ci := 8) (nf := 38) (Tc := TX8) (rest := [.int v]) CF hK hE hH'.swap rfl hcM hMM hcoM hlkM himM hseM hinM hdnM hRM hdM rfl h200 hints hlen hl'.1 rfl (by show (1 : Nat) + 0 ≤ 8; decide) ?_ (hCM MM hMF) (fun r MM' adM' H2 locs2 hK2 hH2 hk2 hl3 hl4 => ?_)
    · have : room_1.cells = 600000 := rfl
      have : room_1.slots = 7302250 := rfl
      omega
    · obtain ⟨rfl, hMF'⟩ := hK2
      refine lv_icmp_eq (tgt := 784) hx hb hdc hoff (fun _ => ?_) (fun z => absurd rfl z)
      rw [Nat.add_comm MM'.1.length, Nat.add_comm (zss MM'.1)]
      exact nx adX' MX' adM' MM' H2 locs2 ls ⟨hH2.swap, ⟨pk', dk', q', hq', hXF'⟩, hMF', ⟨by omega, by omega⟩, (hk1 0 h0).1, (hk2 200 h200).1, by rw [(hk2 200 h200).2]; exact hl'⟩
end LT
