/-! MAKING, Object's constructor, Math, what stands outside -/
/-- a new row in the memory: zero, null -/
def zrw {α : Type} (f : Nat → Nat → α) (k : Nat) (v : α) : Nat → Nat → α := fun k' => if k' = k then (fun _ => v) else f k'
theorem zrw_s {α : Type} {f : Nat → Nat → α} {k : Nat} {v : α} : zrw f k v k = fun _ => v := by simp [zrw]
theorem zrw_n {α : Type} {f : Nat → Nat → α} {k k' : Nat} {v : α} (h : k' ≠ k) : zrw f k v k' = f k' := by simp [zrw, h]
def znw (M : zMm) (k : Nat) : zMm := (M.1 ++ [k], zrw M.2.1 k 0, zrw M.2.2.1 k 0, zrw M.2.2.2 k none)
theorem zss_app (L : List Nat) (k : Nat) : zss (L ++ [k]) = zss L + zsz k := by simp [zss]
theorem zen_new {Y : Nat → ClassId} {ad : Nat → Nat} {M : zMm} (hO : zom M) {k k' q : Nat} (hk : k ∉ M.1) (hk' : k' ∈ M.1) : zen Y (va_up ad k q) (znw M k) k' = zen Y ad M k' := by
  have hne : k' ≠ k := fun e => hk (e ▸ hk')
  have h1 : (znw M k).2.1 k' = M.2.1 k' := zrw_n hne
  have h2 : (znw M k).2.2.1 k' = M.2.2.1 k' := zrw_n hne
  have h3 : (znw M k).2.2.2 k' = M.2.2.2 k' := zrw_n hne
  have h4 : ∀ j, ((M.2.2.2 k' j).map (va_up ad k q)) = (M.2.2.2 k' j).map ad := by
    intro j
    cases hj : M.2.2.2 k' j with
    | none => rfl
    | some t =>
      have ht : t ≠ k := fun e => hk (e ▸ hO.2.2 k' hk' j t hj)
      simp [va_up, ht]
  have h5 : ∀ j t, zfv (va_up ad k q) (znw M k) k' j t = zfv ad M k' j t := by
    intro j t
    unfold zfv
    rw [h1, h2, h3, h4]
  unfold zen zfl
  rw [h1, h2, h3]
  simp only [h4, h5]
theorem zwl_new {Y : Nat → ClassId} {ad : Nat → Nat} {M : zMm} (hO : zom M) {k q : Nat} (hk : k ∉ M.1) {e : va_E} (he : zen Y (va_up ad k q) (znw M k) k = e) : zwl Y (va_up ad k q) (znw M k) = zwl Y ad M ++ [(q, e)] := by
  unfold zwl
  rw [show (znw M k).1 = M.1 ++ [k] from rfl, List.map_append]
  congr 1
  · refine List.map_congr_left fun k' hk' => ?_
    have hne : k' ≠ k := fun e => hk (e ▸ hk')
    rw [zen_new hO hk hk', zup_n hne]
  · simp only [List.map_cons, List.map_nil]
    rw [he, zup_s]
theorem zom_new {M : zMm} (hO : zom M) {k : Nat} (hk : k ∉ M.1) (hk2 : k < 2000) : zom (znw M k) := by
  refine ⟨?_, fun k' h => ?_, fun k' h j t ht => ?_⟩
  · show (M.1 ++ [k]).Nodup
    rw [List.nodup_append]
    refine ⟨hO.1, by simp, fun a ha b hb => ?_⟩
    have : b = k := by simpa using hb
    subst this
    exact fun e => hk (e ▸ ha)
  · rcases List.mem_append.mp (show k' ∈ M.1 ++ [k] from h) with h | h
    · exact hO.2.1 k' h
    · have : k' = k := by simpa using h
      omega
  · rcases List.mem_append.mp (show k' ∈ M.1 ++ [k] from h) with h | h
    · have hne : k' ≠ k := fun e => hk (e ▸ h)
      have h3 : (znw M k).2.2.2 k' = M.2.2.2 k' := zrw_n hne
      rw [h3] at ht
      exact List.mem_append_left _ (hO.2.2 k' h j t ht)
    · have : k' = k := by simpa using h
      subst this
      have h3 : (znw M k').2.2.2 k' = fun _ => none := zrw_s
      rw [h3] at ht
      cases ht
theorem zWH.new {D : va_G} {Y : Nat → ClassId} {ad0 ad : Nat → Nat} {L0 : List Nat} {s : State} {R : Room} {M : zMm} {H H1 : Heap} {locs : List Loc} {k q : Nat} {e : va_E} (h : zWH D Y ad0 L0 s R ad M H locs) (hk : k ∉ M.1) (hk2 : k < 2000) (he : zen Y (va_up ad k q) (znw M k) k = e) (hl1 : M.1.length + 1 ≤ L0.length + R.cells) (hl2 : zss M.1 + zsz k ≤ zss L0 + R.slots)
    (hP : va_P D vwCl (zwl Y ad M ++ [(q, e)]) H1) (hD : va_D (zAA ad0 L0 s.heap.size) (zwl Y ad M ++ [(q, e)])) (hS : va_S (zAA ad0 L0 s.heap.size) s.heap H1 locs) : zWH D Y ad0 L0 s R (va_up ad k q) (znw M k) H1 locs := by
  have e1 := zwl_new (Y := Y) (ad := ad) h.2.2.2.1 hk he
  refine ⟨by rw [e1]; exact hP, by rw [e1]; exact hD, hS, zom_new h.2.2.2.1 hk hk2, fun k' hk' => ?_, fun k' hk' => ?_, ?_, ?_, ?_, ?_⟩
  · obtain ⟨h1, h2⟩ := h.2.2.2.2.1 k' hk'
    have hne : k' ≠ k := fun e => hk (e ▸ h1)
    exact ⟨List.mem_append_left _ h1, by rw [zup_n hne]; exact h2⟩
  · rw [zup_n (by omega)]
    exact h.2.2.2.2.2.1 k' hk'
  · have := h.2.2.2.2.2.2.1
    show _ ≤ (M.1 ++ [k]).length
    simp
    omega
  · have := h.2.2.2.2.2.2.2.1
    show _ ≤ zss (M.1 ++ [k])
    rw [zss_app]
    omega
  · show (M.1 ++ [k]).length ≤ _
    simp
    omega
  · show zss (M.1 ++ [k]) ≤ _
    rw [zss_app]
    omega
theorem zdc_new {L0 L : List Nat} {k : Nat} (h : L0.length ≤ L.length) : zdc L0 (L ++ [k]) = zdc L0 L + 1 := by
  unfold zdc
  simp
  omega
theorem zds_new {L0 L : List Nat} {k : Nat} (h : zss L0 ≤ zss L) : zds L0 (L ++ [k]) = zds L0 L + zsz k := by
  unfold zds
  rw [zss_app]
  omega
section ZM
variable {X : zCt} {own nm : String} {cc : ByteArray} {nL : Nat} {ret : Option FieldType} {pc : Nat} {P : zPP}
/-- 'new': any free number of the right shape may be taken -/
def zT_new (ci n lc lz : Nat) (P : zPP) : zPP := fun M ls st => ∃ k, k ∉ M.1 ∧ zsh k = (5, ci, n) ∧ M.1.length + 1 ≤ lc ∧ zss M.1 + n ≤ lz ∧ P (znw M k) ls (.ref k :: st)
def zT_newa (tag lc lz : Nat) (P : zPP) : zPP := fun M ls st => match st with
  | .int x :: r => ∃ k, k ∉ M.1 ∧ zsh k = (tag, x.toNatClampNeg, 0) ∧ ¬ x < 0 ∧ x.toNatClampNeg ≤ 1000 ∧ M.1.length + 1 ≤ lc ∧ zss M.1 + x.toNatClampNeg ≤ lz ∧ P (znw M k) ls (.ref k :: r)
  | _ => False
theorem zsz_obj {k c n : Nat} (h : zsh k = (5, c, n)) : zsz k = n := by
  unfold zsz
  rw [h]
  rfl
/-- the frame behind a making -/
theorem zmk {p : Program} {l : Launch} {e : Env} {R : Room} {s : State} {m : MethodId} {args : Array Value} {below : List Frame} {meth : Method} {c : Code} {D : va_G} {Y : Nat → ClassId} {ad0 ad : Nat → Nat} {M0 M : zMm} {K : zKt} {H H1 : Heap} {locs : List Loc} {lsA : Array Slot} {ls : zLo} {r : List Value} {k q pc' : Nat} {en : va_E}
    (hG : zGD (p, l, e, R, s, m, args, below, meth, c, D, Y, ad0, M0, K) nL pc' (znw M k) ls (.ref k :: r)) (hW : zWH D Y ad0 M0.1 s R ad M H locs) (ho : zoL M.1 ls r) (hl : lv_has lsA nL (zlcv ad 0 ls)) (hk : k ∉ M.1) (hk2 : k < 2000) (he : zen Y (va_up ad k q) (znw M k) k = en) (hl1 : M.1.length + 1 ≤ M0.1.length + R.cells) (hl2 : zss M.1 + zsz k ≤ zss M0.1 + R.slots)
    (hP : va_P D vwCl (zwl Y ad M ++ [(q, en)]) H1) (hD : va_D (zAA ad0 M0.1 s.heap.size) (zwl Y ad M ++ [(q, en)])) (hS : va_S (zAA ad0 M0.1 s.heap.size) s.heap H1 locs) :
    W p l e R s m args below meth c H1 locs (zdc M0.1 M.1 + 1) (zds M0.1 M.1 + zsz k) (MQ below (zQt D Y K ad0 M0 s.heap.size R.cells R.slots) args s R.cells R.slots (zAA ad0 M0.1 s.heap.size)) (F0 m pc' lsA (.ref q :: r.map (zcv ad))) := by
  have h1 : ∀ k' ∈ M.1, va_up ad k q k' = ad k' := fun k' h => zup_n (fun e => hk (e ▸ h))
  have h2 : ∀ k', 2000 ≤ k' → va_up ad k q k' = ad k' := fun k' h => zup_n (by omega)
  have hup : ∀ v, zov M.1 v → zov (M.1 ++ [k]) v := by
    intro v hv
    cases v with
    | ref t => exact hv.elim (fun h => Or.inl (List.mem_append_left _ h)) Or.inr
    | _ => trivial
  have hG2 := hG (va_up ad k q) H1 locs lsA (hW.new hk hk2 he hl1 hl2 hP hD hS) ⟨fun v hv => by
      rcases List.mem_cons.mp hv with rfl | hv
      · exact Or.inl (List.mem_append_right _ List.mem_cons_self)
      · exact hup v (ho.1 v hv), fun i v hv => hup v (ho.2 i v hv)⟩ (zlv_eq h1 h2 ho.2 hl)
  rw [List.map_cons, zmap_eq h1 h2 ho.1] at hG2
  have e3 : zcv (va_up ad k q) (.ref k) = .ref q := by
    show Value.ref (va_up ad k q k) = _
    rw [zup_s]
  rw [e3] at hG2
  have e4 : zdc M0.1 (znw M k).1 = zdc M0.1 M.1 + 1 := zdc_new hW.2.2.2.2.2.2.1
  have e5 : zds M0.1 (znw M k).1 = zds M0.1 M.1 + zsz k := zds_new hW.2.2.2.2.2.2.2.1
  rw [e4, e5] at hG2
  exact hG2
theorem zs_new {ci n idx lc lz : Nat} {Cn : String} {T : u_T} {ty0 : Nat → FieldType} (hc : vwCl[ci]? = some (Cn, T, n)) (hin : ∀ w ∈ u_ws Cn T n, w ∈ gT) (hty : ∀ k, k < n → parseFieldDescriptor (T k).2.2.1 = some (ty0 k)) (hcl : Cond.classLink own idx Cn ∈ gT) (hit : Cond.instantiable Cn n ∈ gT) (hini : Cond.initialized Cn ∈ gT) (hdf : ∀ j, j < n → defaultValue (ty0 j) = (match zft ci j with | 0 => .int 0 | 1 => .long 0 | _ => .null)) (h1 : lc = zlc X) (h2 : lz = zls X) (hd : decode cc pc = .ok (.new idx, 3)) (kk : zSd X own nm cc nL ret (pc + 3) P) : zSd X own nm cc nL ret pc (zT_new ci n lc lz P) := by
  intro C M ls st h
  obtain ⟨k, hk, hsh, g1, g2, hp⟩ := h
  subst h1 h2
  have hG := kk C _ ls _ hp
  obtain ⟨p, l, e, R, s, m, args, below, meth, c, D, Y, ad0, M0, K⟩ := X
  intro ad H locs lsA hW ho hl
  have g1' : M.1.length + 1 ≤ M0.1.length + R.cells := g1
  have g2' : zss M.1 + n ≤ zss M0.1 + R.slots := g2
  have b1 := hW.2.2.2.2.2.2.1
  have b2 := hW.2.2.2.2.2.2.2.1
  have hz := zsz_obj hsh
  have hen : ∀ q, zen Y (va_up ad k q) (znw M k) k = .inr (ci, zfl (va_up ad k q) (znw M k) k ci n) := fun q => zen_obj hsh
  have hfl : ∀ q, zfl (va_up ad k q) (znw M k) k ci n = zfl ad (znw M k) k ci n := by
    intro q
    unfold zfl
    refine List.map_congr_left fun j _ => ?_
    unfold zfv
    rw [show (znw M k).2.2.2 k = fun _ => none from zrw_s]
    rfl
  refine va_new (fs := zfl ad (znw M k) k ci n) C.1 C.2.1 C.2.2.2.2.2.1 hin ty0 hty C.2.2.2.2.1 (C.2.2.2.2.2.1 _ hcl) (C.2.2.2.2.2.1 _ hit) (C.2.2.2.2.2.1 _ hini) C.2.2.2.2.2.2.2.1 hW.1 hW.2.1 hW.2.2.1 (fun q h => Or.inr h) hc ?_ (by unfold zdc; omega) (by unfold zds; omega) hd (fun q H1 hP hD hS => ?_)
  · intro j hj
    have hv : vp_V (zfl ad (znw M k) k ci n) j = zfv ad (znw M k) k j (zft ci j) := by
      unfold vp_V
      rw [List.getD_eq_getElem?_getD, zfl_get hj]
      rfl
    rw [hdf j hj, hv]
    unfold zfv
    rw [show (znw M k).2.1 k = fun _ => 0 from zrw_s, show (znw M k).2.2.1 k = fun _ => 0 from zrw_s, show (znw M k).2.2.2 k = fun _ => none from zrw_s]
    generalize zft ci j = t
    rcases t with _ | _ | t <;> rfl
  · have hr := zmk (q := q) (en := .inr (ci, zfl ad (znw M k) k ci n)) hG hW ho hl hk (zsh_lt hsh (by decide)) (by rw [hen q, hfl q]) g1' (by rw [hz]; exact g2') hP hD hS
    rw [hz] at hr
    exact hr
theorem zcls {s : State} {a b : ClassId} {ty : FieldType} (h1 : s.vm.findClass ("[" ++ ty.toString) = some a) (h2 : s.vm.findClass ("[" ++ ty.toString) = some b) : a = b := Option.some.inj (h1.symm.trans h2)
theorem zs_newI {lc lz : Nat} (hac : Cond.arrayClass .int ∈ gT) (h1 : lc = zlc X) (h2 : lz = zls X) (hd : decode cc pc = .ok (.newarray .int, 2)) (kk : zSd X own nm cc nL ret (pc + 2) P) : zSd X own nm cc nL ret pc (zT_newa 0 lc lz P) := by
  intro C M ls st h
  unfold zT_newa at h
  split at h
  · next x r =>
    obtain ⟨k, hk, hsh, hx0, hx1, g1, g2, hp⟩ := h
    subst h1 h2
    have hG := kk C _ ls _ hp
    obtain ⟨p, l, e, R, s, m, args, below, meth, c, D, Y, ad0, M0, K⟩ := X
    intro ad H locs lsA hW ho hl
    have g1' : M.1.length + 1 ≤ M0.1.length + R.cells := g1
    have g2' : zss M.1 + x.toNatClampNeg ≤ zss M0.1 + R.slots := g2
    have b1 := hW.2.2.2.2.2.2.1
    have b2 := hW.2.2.2.2.2.2.2.1
    have hz : zsz k = x.toNatClampNeg := by unfold zsz; rw [hsh]; rfl
    refine va_newa (a0 := (x.toNatClampNeg, .inl (fun _ => 0))) (atype := .int) (ty := .int) C.1 C.2.1 (C.2.2.2.2.2.1 _ hac) rfl C.2.2.2.2.2.2.2.1 hW.1 hW.2.1 hW.2.2.1 (fun q h => Or.inr h) (fun cA => rfl) hx0 rfl (by show x.toNatClampNeg * 4 ≤ _; omega) (by unfold zdc; omega) (by unfold zds; omega) hd (fun q cA H1 hK hP hD hS => ?_)
    have hcA : cA = Y 0 := zcls (ty := .int) (hK.2 5 (cA, .int) rfl).2 (hK.2 0 (Y 0, .int) rfl).2
    subst hcA
    have hr := zmk (q := q) (en := .inl (Y 0, x.toNatClampNeg, .inl (fun _ => 0))) hG hW ho.top.2 hl hk (zsh_lt hsh (by decide)) (by rw [zen_0 (by rw [hsh]), hsh, show (znw M k).2.1 k = fun _ => 0 from zrw_s]) g1' (by rw [hz]; exact g2') hP hD hS
    rw [hz] at hr
    exact hr
  · exact h.elim
theorem zs_newZ {lc lz : Nat} (hac : Cond.arrayClass .boolean ∈ gT) (h1 : lc = zlc X) (h2 : lz = zls X) (hd : decode cc pc = .ok (.newarray .boolean, 2)) (kk : zSd X own nm cc nL ret (pc + 2) P) : zSd X own nm cc nL ret pc (zT_newa 1 lc lz P) := by
  intro C M ls st h
  unfold zT_newa at h
  split at h
  · next x r =>
    obtain ⟨k, hk, hsh, hx0, hx1, g1, g2, hp⟩ := h
    subst h1 h2
    have hG := kk C _ ls _ hp
    obtain ⟨p, l, e, R, s, m, args, below, meth, c, D, Y, ad0, M0, K⟩ := X
    intro ad H locs lsA hW ho hl
    have g1' : M.1.length + 1 ≤ M0.1.length + R.cells := g1
    have g2' : zss M.1 + x.toNatClampNeg ≤ zss M0.1 + R.slots := g2
    have b1 := hW.2.2.2.2.2.2.1
    have b2 := hW.2.2.2.2.2.2.2.1
    have hz : zsz k = x.toNatClampNeg := by unfold zsz; rw [hsh]; rfl
    refine va_newa (a0 := (x.toNatClampNeg, .inl (fun _ => 0))) (atype := .boolean) (ty := .boolean) C.1 C.2.1 (C.2.2.2.2.2.1 _ hac) rfl C.2.2.2.2.2.2.2.1 hW.1 hW.2.1 hW.2.2.1 (fun q h => Or.inr h) (fun cA => rfl) hx0 rfl (by show x.toNatClampNeg * 1 ≤ _; omega) (by unfold zdc; omega) (by unfold zds; omega) hd (fun q cA H1 hK hP hD hS => ?_)
    have hcA : cA = Y 1 := zcls (ty := .boolean) (hK.2 5 (cA, .boolean) rfl).2 (hK.2 1 (Y 1, .boolean) rfl).2
    subst hcA
    have hr := zmk (q := q) (en := .inl (Y 1, x.toNatClampNeg, .inl (fun _ => 0))) hG hW ho.top.2 hl hk (zsh_lt hsh (by decide)) (by rw [zen_1 (by rw [hsh]), hsh, show (znw M k).2.1 k = fun _ => 0 from zrw_s]) g1' (by rw [hz]; exact g2') hP hD hS
    rw [hz] at hr
    exact hr
  · exact h.elim
theorem zs_newB {lc lz : Nat} (hac : Cond.arrayClass .byte ∈ gT) (h1 : lc = zlc X) (h2 : lz = zls X) (hd : decode cc pc = .ok (.newarray .byte, 2)) (kk : zSd X own nm cc nL ret (pc + 2) P) : zSd X own nm cc nL ret pc (zT_newa 2 lc lz P) := by
  intro C M ls st h
  unfold zT_newa at h
  split at h
  · next x r =>
    obtain ⟨k, hk, hsh, hx0, hx1, g1, g2, hp⟩ := h
    subst h1 h2
    have hG := kk C _ ls _ hp
    obtain ⟨p, l, e, R, s, m, args, below, meth, c, D, Y, ad0, M0, K⟩ := X
    intro ad H locs lsA hW ho hl
    have g1' : M.1.length + 1 ≤ M0.1.length + R.cells := g1
    have g2' : zss M.1 + x.toNatClampNeg ≤ zss M0.1 + R.slots := g2
    have b1 := hW.2.2.2.2.2.2.1
    have b2 := hW.2.2.2.2.2.2.2.1
    have hz : zsz k = x.toNatClampNeg := by unfold zsz; rw [hsh]; rfl
    refine va_newa (a0 := (x.toNatClampNeg, .inl (fun _ => 0))) (atype := .byte) (ty := .byte) C.1 C.2.1 (C.2.2.2.2.2.1 _ hac) rfl C.2.2.2.2.2.2.2.1 hW.1 hW.2.1 hW.2.2.1 (fun q h => Or.inr h) (fun cA => rfl) hx0 rfl (by show x.toNatClampNeg * 1 ≤ _; omega) (by unfold zdc; omega) (by unfold zds; omega) hd (fun q cA H1 hK hP hD hS => ?_)
    have hcA : cA = Y 2 := zcls (ty := .byte) (hK.2 5 (cA, .byte) rfl).2 (hK.2 2 (Y 2, .byte) rfl).2
    subst hcA
    have hr := zmk (q := q) (en := .inl (Y 2, x.toNatClampNeg, .inl (fun _ => 0))) hG hW ho.top.2 hl hk (zsh_lt hsh (by decide)) (by rw [zen_2 (by rw [hsh]), hsh, show (znw M k).2.1 k = fun _ => 0 from zrw_s]) g1' (by rw [hz]; exact g2') hP hD hS
    rw [hz] at hr
    exact hr
  · exact h.elim
theorem zs_newJ {lc lz : Nat} (hac : Cond.arrayClass .long ∈ gT) (h1 : lc = zlc X) (h2 : lz = zls X) (hd : decode cc pc = .ok (.newarray .long, 2)) (kk : zSd X own nm cc nL ret (pc + 2) P) : zSd X own nm cc nL ret pc (zT_newa 3 lc lz P) := by
  intro C M ls st h
  unfold zT_newa at h
  split at h
  · next x r =>
    obtain ⟨k, hk, hsh, hx0, hx1, g1, g2, hp⟩ := h
    subst h1 h2
    have hG := kk C _ ls _ hp
    obtain ⟨p, l, e, R, s, m, args, below, meth, c, D, Y, ad0, M0, K⟩ := X
    intro ad H locs lsA hW ho hl
    have g1' : M.1.length + 1 ≤ M0.1.length + R.cells := g1
    have g2' : zss M.1 + x.toNatClampNeg ≤ zss M0.1 + R.slots := g2
    have b1 := hW.2.2.2.2.2.2.1
    have b2 := hW.2.2.2.2.2.2.2.1
    have hz : zsz k = x.toNatClampNeg := by unfold zsz; rw [hsh]; rfl
    refine va_newa (a0 := (x.toNatClampNeg, .inr (.inl (fun _ => 0)))) (atype := .long) (ty := .long) C.1 C.2.1 (C.2.2.2.2.2.1 _ hac) rfl C.2.2.2.2.2.2.2.1 hW.1 hW.2.1 hW.2.2.1 (fun q h => Or.inr h) (fun cA => rfl) hx0 rfl (by show x.toNatClampNeg * 8 ≤ _; omega) (by unfold zdc; omega) (by unfold zds; omega) hd (fun q cA H1 hK hP hD hS => ?_)
    have hcA : cA = Y 3 := zcls (ty := .long) (hK.2 5 (cA, .long) rfl).2 (hK.2 3 (Y 3, .long) rfl).2
    subst hcA
    have hr := zmk (q := q) (en := .inl (Y 3, x.toNatClampNeg, .inr (.inl (fun _ => 0)))) hG hW ho.top.2 hl hk (zsh_lt hsh (by decide)) (by rw [zen_3 (by rw [hsh]), hsh, show (znw M k).2.2.1 k = fun _ => 0 from zrw_s]) g1' (by rw [hz]; exact g2') hP hD hS
    rw [hz] at hr
    exact hr
  · exact h.elim
theorem zs_newq {idx lc lz : Nat} (hcl : Cond.classLink own idx RX6 ∈ gT) (h1 : lc = zlc X) (h2 : lz = zls X) (hd : decode cc pc = .ok (.anewarray idx, 3)) (kk : zSd X own nm cc nL ret (pc + 3) P) : zSd X own nm cc nL ret pc (zT_newa 4 lc lz P) := by
  intro C M ls st h
  unfold zT_newa at h
  split at h
  · next x r =>
    obtain ⟨k, hk, hsh, hx0, hx1, g1, g2, hp⟩ := h
    subst h1 h2
    have hG := kk C _ ls _ hp
    obtain ⟨p, l, e, R, s, m, args, below, meth, c, D, Y, ad0, M0, K⟩ := X
    intro ad H locs lsA hW ho hl
    have g1' : M.1.length + 1 ≤ M0.1.length + R.cells := g1
    have g2' : zss M.1 + x.toNatClampNeg ≤ zss M0.1 + R.slots := g2
    have b1 := hW.2.2.2.2.2.2.1
    have b2 := hW.2.2.2.2.2.2.2.1
    have hz : zsz k = x.toNatClampNeg := by unfold zsz; rw [hsh]; rfl
    refine va_newq C.1 C.2.1 C.2.2.2.2.1 (C.2.2.2.2.2.1 _ hcl) C.2.2.2.2.2.2.2.2.1.2.2.2.1 C.2.2.2.2.2.2.2.1 hW.1 hW.2.1 hW.2.2.1 (fun q h => Or.inr h) hx0 rfl (by omega) (by unfold zdc; omega) (by unfold zds; omega) hd (fun q cA H1 hK hP hD hS => ?_)
    have hcA : cA = Y 4 := by
      obtain ⟨kA, comp, -, -, -, w1⟩ := (hK.2 5 (cA, .object RX6) rfl).2
      obtain ⟨kA', comp', -, -, -, w2⟩ := (hK.2 4 (Y 4, .object RX6) rfl).2
      exact zcls (ty := .object RX6) w1 w2
    subst hcA
    have hr := zmk (q := q) (en := .inl (Y 4, x.toNatClampNeg, .inr (.inr (.inr (.inr (fun _ => none)))))) hG hW ho.top.2 hl hk (zsh_lt hsh (by decide)) (by rw [zen_4 (by rw [hsh]), hsh, show (znw M k).2.2.2 k = fun _ => none from zrw_s]; rfl) g1' (by rw [hz]; exact g2') hP hD hS
    rw [hz] at hr
    exact hr
  · exact h.elim
/-- Object's constructor -/
def zT_oi (P : zPP) : zPP := fun M ls st => match st with
  | .ref _ :: r => r.length ≤ 4 ∧ P M ls r
  | _ => False
theorem zs_oi {idx : Nat} (hlk : Cond.methodLink own idx objectInit ∈ gT) (him : Cond.instanceMethod objectInit ∈ gT) (hco : Cond.code objectInit ⟨#[0xb1]⟩ 1 none ∈ gT) (hR : 1 ≤ (zRX X).frames ∧ 20 ≤ (zRX X).locals) (hd : decode cc pc = .ok (.invokespecial idx, 3)) (k : zSd X own nm cc nL ret (pc + 3) P) : zSd X own nm cc nL ret pc (zT_oi P) := by
  intro C M ls st h
  obtain ⟨p, l, e, R, s, m, args, below, meth, c, D, Y, ad0, M0, K⟩ := X
  unfold zT_oi at h
  split at h
  · next kk r =>
    intro ad H locs lsA hW ho hl
    have hR1 : 1 ≤ R.frames := hR.1
    have hR2 : 20 ≤ R.locals := hR.2
    have hcat := zcat_le (r.map (zcv ad))
    rw [List.length_map] at hcat
    have hroom : 2 * (F0 m pc lsA (Value.ref (ad kk) :: r.map (zcv ad))).monitorRoom + ((r.map (zcv ad)).map fun v => v.category).sum ≤ 8 := lv_room (by have := h.1; omega)
    exact W.objInit C.1 C.2.1 C.2.2.2.2.1 (C.2.2.2.2.2.1 _ hlk) (C.2.2.2.2.2.1 _ him) (C.2.2.2.2.2.1 _ hco) rfl (hl.1.trans C.2.2.1.symm) rfl hd hR1 (Nat.le_trans (Nat.add_le_add_right hroom 12) hR2) (k C M ls _ h.2 ad H locs lsA hW ho.top.2 hl)
  · exact h.elim
def zT_mm (f : Int32 → Int32 → Int32) (P : zPP) : zPP := fun M ls st => match st with
  | .int y :: .int x :: r => r.length ≤ 4 ∧ P M ls (.int (f x y) :: r)
  | _ => False
theorem zs_min {idx : Nat} (hlk : Cond.methodLink own idx Lib.Math.min.name ∈ gT) (hst : Cond.static Lib.Math.min.name ∈ gT) (hin : Cond.initialized "java/lang/Math" ∈ gT) (hco : Cond.code Lib.Math.min.name Lib.Math.min.code 2 (some .int) ∈ gT) (hR : 1 ≤ (zRX X).frames ∧ 21 ≤ (zRX X).locals) (hd : decode cc pc = .ok (.invokestatic idx, 3)) (k : zSd X own nm cc nL ret (pc + 3) P) : zSd X own nm cc nL ret pc (zT_mm (fun x y => if y < x then y else x) P) := by
  intro C M ls st h
  obtain ⟨p, l, e, R, s, m, args, below, meth, c, D, Y, ad0, M0, K⟩ := X
  unfold zT_mm at h
  split at h
  · next x y r =>
    intro ad H locs lsA hW ho hl
    have hR1 : 1 ≤ R.frames := hR.1
    have hR2 : 21 ≤ R.locals := hR.2
    have hcat := zcat_le (r.map (zcv ad))
    rw [List.length_map] at hcat
    exact va_mmin C.1 C.2.1 (C.2.2.1.trans hl.1.symm) C.2.2.2.2.1 (C.2.2.2.2.2.1 _ hlk) (C.2.2.2.2.2.1 _ hst) (C.2.2.2.2.2.1 _ hin) (C.2.2.2.2.2.1 _ hco) hR1 (by have := h.1; omega) (zwid hW).1 (zwid hW).2 hd (k C M ls _ h.2 ad H locs lsA hW (ho.top.2.top.2.push trivial) hl)
  · exact h.elim
theorem zs_max {idx : Nat} (hlk : Cond.methodLink own idx Lib.Math.max.name ∈ gT) (hst : Cond.static Lib.Math.max.name ∈ gT) (hin : Cond.initialized "java/lang/Math" ∈ gT) (hco : Cond.code Lib.Math.max.name Lib.Math.max.code 2 (some .int) ∈ gT) (hR : 1 ≤ (zRX X).frames ∧ 21 ≤ (zRX X).locals) (hd : decode cc pc = .ok (.invokestatic idx, 3)) (k : zSd X own nm cc nL ret (pc + 3) P) : zSd X own nm cc nL ret pc (zT_mm (fun x y => if x < y then y else x) P) := by
  intro C M ls st h
  obtain ⟨p, l, e, R, s, m, args, below, meth, c, D, Y, ad0, M0, K⟩ := X
  unfold zT_mm at h
  split at h
  · next x y r =>
    intro ad H locs lsA hW ho hl
    have hR1 : 1 ≤ R.frames := hR.1
    have hR2 : 21 ≤ R.locals := hR.2
    have hcat := zcat_le (r.map (zcv ad))
    rw [List.length_map] at hcat
    exact va_mmax C.1 C.2.1 (C.2.2.1.trans hl.1.symm) C.2.2.2.2.1 (C.2.2.2.2.2.1 _ hlk) (C.2.2.2.2.2.1 _ hst) (C.2.2.2.2.2.1 _ hin) (C.2.2.2.2.2.1 _ hco) hR1 (by have := h.1; omega) (zwid hW).1 (zwid hW).2 hd (k C M ls _ h.2 ad H locs lsA hW (ho.top.2.top.2.push trivial) hl)
  · exact h.elim
/-- the two tables of sides -/
theorem zs_sx (hown : own = RX5) (hd : decode cc pc = .ok (.getstatic 89, 3)) (k : zSd X own nm cc nL ret (pc + 3) P) : zSd X own nm cc nL ret pc (zT_push (.ref 2001) P) := by
  intro C M ls st h
  obtain ⟨p, l, e, R, s, m, args, below, meth, c, D, Y, ad0, M0, K⟩ := X
  subst hown
  intro ad H locs lsA hW ho hl
  obtain ⟨x1, x2, x3, x4, x5, x6, x7, x8, x9⟩ := C.2.2.2.2.2.2.2.2.1
  have hG := k C M ls _ h ad H locs lsA hW (ho.push (Or.inr (by decide))) hl
  rw [List.map_cons, show zcv ad (.ref 2001) = .ref (ad0 2001) from by show Value.ref (ad 2001) = _; rw [hW.2.2.2.2.2.1 2001 (by decide)]] at hG
  exact va_getsN C.1 C.2.1 x5 hW.2.2.1 C.2.2.2.2.1 (va_Nw.use rfl x2) (fun _ h => h) hd hG
theorem zs_sy (hown : own = RX5) (hd : decode cc pc = .ok (.getstatic 92, 3)) (k : zSd X own nm cc nL ret (pc + 3) P) : zSd X own nm cc nL ret pc (zT_push (.ref 2002) P) := by
  intro C M ls st h
  obtain ⟨p, l, e, R, s, m, args, below, meth, c, D, Y, ad0, M0, K⟩ := X
  subst hown
  intro ad H locs lsA hW ho hl
  obtain ⟨x1, x2, x3, x4, x5, x6, x7, x8, x9⟩ := C.2.2.2.2.2.2.2.2.1
  have hG := k C M ls _ h ad H locs lsA hW (ho.push (Or.inr (by decide))) hl
  rw [List.map_cons, show zcv ad (.ref 2002) = .ref (ad0 2002) from by show Value.ref (ad 2002) = _; rw [hW.2.2.2.2.2.1 2002 (by decide)]] at hG
  exact va_getsN C.1 C.2.1 x7 hW.2.2.1 C.2.2.2.2.1 (va_Nw.use rfl x3) (fun _ h => h) hd hG
def zT_ialX (kx : Nat) (f : Nat → Int32) (P : zPP) : zPP := fun M ls st => match st with
  | .int i :: .ref k :: r => k = kx ∧ vp_in i 4 ∧ P M ls (.int (f i.toNatClampNeg) :: r)
  | _ => False
theorem zs_ialX (hd : decode cc pc = .ok (.iaload, 1)) (k : zSd X own nm cc nL ret (pc + 1) P) : zSd X own nm cc nL ret pc (zT_ialX 2001 zXs P) := by
  intro C M ls st h
  obtain ⟨p, l, e, R, s, m, args, below, meth, c, D, Y, ad0, M0, K⟩ := X
  unfold zT_ialX at h
  split at h
  · next i kk r =>
    intro ad H locs lsA hW ho hl
    obtain ⟨rfl, h2, h3⟩ := h
    obtain ⟨x1, x2, x3, x4, x5, x6, x7, x8, x9⟩ := C.2.2.2.2.2.2.2.2.1
    have hG := k C M ls _ h3 ad H locs lsA hW (ho.top.2.top.2.push trivial) hl
    show W p l e R s m args below meth c H locs _ _ _ (F0 m pc lsA (.int i :: .ref (ad 2001) :: _))
    rw [hW.2.2.2.2.2.1 2001 (by decide)]
    exact va_ti C.1 C.2.1 x6 hW.2.2.1 h2 rfl hd hG
  · exact h.elim
theorem zs_ialY (hd : decode cc pc = .ok (.iaload, 1)) (k : zSd X own nm cc nL ret (pc + 1) P) : zSd X own nm cc nL ret pc (zT_ialX 2002 zYs P) := by
  intro C M ls st h
  obtain ⟨p, l, e, R, s, m, args, below, meth, c, D, Y, ad0, M0, K⟩ := X
  unfold zT_ialX at h
  split at h
  · next i kk r =>
    intro ad H locs lsA hW ho hl
    obtain ⟨rfl, h2, h3⟩ := h
    obtain ⟨x1, x2, x3, x4, x5, x6, x7, x8, x9⟩ := C.2.2.2.2.2.2.2.2.1
    have hG := k C M ls _ h3 ad H locs lsA hW (ho.top.2.top.2.push trivial) hl
    show W p l e R s m args below meth c H locs _ _ _ (F0 m pc lsA (.int i :: .ref (ad 2002) :: _))
    rw [hW.2.2.2.2.2.1 2002 (by decide)]
    exact va_ti C.1 C.2.1 x8 hW.2.2.1 h2 rfl hd hG
  · exact h.elim
theorem zs_ldcS (i : Nat) (hi : i < 8) {idx : Nat} (hx : idx = zSi i) (hown : own = RX3) (hd : decode cc pc = .ok (.ldc idx, 2)) (k : zSd X own nm cc nL ret (pc + 2) P) : zSd X own nm cc nL ret pc (zT_push (.ref (2010 + i)) P) := by
  intro C M ls st h
  obtain ⟨p, l, e, R, s, m, args, below, meth, c, D, Y, ad0, M0, K⟩ := X
  subst hown hx
  intro ad H locs lsA hW ho hl
  obtain ⟨x1, x2, x3, x4, x5, x6, x7, x8, x9, x10, x11⟩ := C.2.2.2.2.2.2.2.2.1
  have hG := k C M ls _ h ad H locs lsA hW (ho.push (Or.inr (Nat.le_trans (by decide) (Nat.le_add_right 2010 i)))) hl
  rw [List.map_cons, show zcv ad (.ref (2010 + i)) = .ref (ad0 (2010 + i)) from by show Value.ref (ad (2010 + i)) = _; rw [hW.2.2.2.2.2.1 (2010 + i) (by omega)]] at hG
  exact va_ldcS C.1 C.2.1 C.2.2.2.2.1 (x10 i hi) hd hG
end ZM
