/-! FIELDS AND ARRAYS of the abstract memory -/
theorem zwl_at {Y : Nat → ClassId} {ad : Nat → Nat} {M : zMm} {k : Nat} (h : k ∈ M.1) : ∃ q : Nat, M.1[q]? = some k ∧ (zwl Y ad M)[q]? = some (ad k, zen Y ad M k) := by
  obtain ⟨q, hq⟩ := List.getElem?_of_mem h
  exact ⟨q, hq, by rw [zwl, List.getElem?_map, hq]; rfl⟩
theorem zwl_set {Y : Nat → ClassId} {ad : Nat → Nat} {M M' : zMm} {k q : Nat} {e : va_E} (hL : M'.1 = M.1) (hn : M.1.Nodup) (hq : M.1[q]? = some k) (he : zen Y ad M' k = e) (ho : ∀ k', k' ≠ k → zen Y ad M' k' = zen Y ad M k') : (zwl Y ad M).set q (ad k, e) = zwl Y ad M' := by
  apply List.ext_getElem?
  intro i
  unfold zwl
  rw [hL]
  by_cases hi : i = q
  · subst hi
    rw [List.getElem?_set_self (by rw [List.length_map]; exact (List.getElem?_eq_some_iff.mp hq).1), List.getElem?_map, hq, ← he]
    rfl
  · rw [List.getElem?_set_ne (Ne.symm hi), List.getElem?_map, List.getElem?_map]
    cases hc : M.1[i]? with
    | none => rfl
    | some k' =>
      have : k' ≠ k := by
        intro e1
        subst e1
        obtain ⟨l1, g1⟩ := List.getElem?_eq_some_iff.mp hc
        obtain ⟨l2, g2⟩ := List.getElem?_eq_some_iff.mp hq
        have hpw := List.pairwise_iff_getElem.mp hn
        rcases Nat.lt_trichotomy i q with z | z | z
        · exact hpw i q l1 l2 z (g1.trans g2.symm)
        · exact hi z
        · exact hpw q i l2 l1 z (g2.trans g1.symm)
      simp only [Option.map_some]
      rw [ho k' this]
theorem zfl_get {ad : Nat → Nat} {M : zMm} {k c n j : Nat} (hj : j < n) : (zfl ad M k c n)[j]? = some (zfv ad M k j (zft c j)) := by
  unfold zfl
  rw [List.getElem?_map, List.getElem?_range hj]
  rfl
theorem zfl_len {ad : Nat → Nat} {M : zMm} {k c n : Nat} : (zfl ad M k c n).length = n := by simp [zfl]
theorem zfl_set {ad : Nat → Nat} {M M' : zMm} {k c n j : Nat} {v : Value} (hj : j < n) (hv : zfv ad M' k j (zft c j) = v) (ho : ∀ i, i ≠ j → zfv ad M' k i (zft c i) = zfv ad M k i (zft c i)) : (zfl ad M k c n).set j v = zfl ad M' k c n := by
  apply List.ext_getElem?
  intro i
  by_cases hi : i = j
  · subst hi
    rw [List.getElem?_set_self (by rw [zfl_len]; exact hj), zfl_get hj, hv]
  · rw [List.getElem?_set_ne (Ne.symm hi)]
    by_cases hn : i < n
    · rw [zfl_get hn, zfl_get hn, ho i hi]
    · rw [List.getElem?_eq_none (by rw [zfl_len]; omega), List.getElem?_eq_none (by rw [zfl_len]; omega)]
/-- the three ways to write: an int, a long, a reference -/
def zwI (M : zMm) (k j : Nat) (x : Int32) : zMm := (M.1, zw2 M.2.1 k j x, M.2.2.1, M.2.2.2)
def zwJ (M : zMm) (k j : Nat) (x : Int64) : zMm := (M.1, M.2.1, zw2 M.2.2.1 k j x, M.2.2.2)
def zwR (M : zMm) (k j : Nat) (x : Option Nat) : zMm := (M.1, M.2.1, M.2.2.1, zw2 M.2.2.2 k j x)
theorem zen_o {Y : Nat → ClassId} {ad : Nat → Nat} {M M' : zMm} {k : Nat} (h1 : M'.2.1 k = M.2.1 k) (h2 : M'.2.2.1 k = M.2.2.1 k) (h3 : M'.2.2.2 k = M.2.2.2 k) : zen Y ad M' k = zen Y ad M k := by
  unfold zen zfl zfv
  rw [h1, h2, h3]
theorem zen_I {Y : Nat → ClassId} {ad : Nat → Nat} {M : zMm} {k j k' : Nat} {x : Int32} (h : k' ≠ k) : zen Y ad (zwI M k j x) k' = zen Y ad M k' := zen_o (zw2_n h) rfl rfl
theorem zen_J {Y : Nat → ClassId} {ad : Nat → Nat} {M : zMm} {k j k' : Nat} {x : Int64} (h : k' ≠ k) : zen Y ad (zwJ M k j x) k' = zen Y ad M k' := zen_o rfl (zw2_n h) rfl
theorem zen_R {Y : Nat → ClassId} {ad : Nat → Nat} {M : zMm} {k j k' : Nat} {x : Option Nat} (h : k' ≠ k) : zen Y ad (zwR M k j x) k' = zen Y ad M k' := zen_o rfl rfl (zw2_n h)
theorem zen_obj {Y : Nat → ClassId} {ad : Nat → Nat} {M : zMm} {k c n : Nat} (h : zsh k = (5, c, n)) : zen Y ad M k = .inr (c, zfl ad M k c n) := by
  unfold zen
  rw [h]
  rfl
theorem zsh_eta {k a : Nat} (h : (zsh k).1 = a) : zsh k = (a, (zsh k).2.1, (zsh k).2.2) := by rw [← h]
theorem zen_0 {Y : Nat → ClassId} {ad : Nat → Nat} {M : zMm} {k : Nat} (h : (zsh k).1 = 0) : zen Y ad M k = .inl (Y 0, (zsh k).2.1, .inl (M.2.1 k)) := by
  unfold zen
  generalize zsh k = z at h ⊢
  obtain ⟨a, b, c⟩ := z
  cases h
  rfl
theorem zen_1 {Y : Nat → ClassId} {ad : Nat → Nat} {M : zMm} {k : Nat} (h : (zsh k).1 = 1) : zen Y ad M k = .inl (Y 1, (zsh k).2.1, .inl (M.2.1 k)) := by
  unfold zen
  generalize zsh k = z at h ⊢
  obtain ⟨a, b, c⟩ := z
  cases h
  rfl
theorem zen_2 {Y : Nat → ClassId} {ad : Nat → Nat} {M : zMm} {k : Nat} (h : (zsh k).1 = 2) : zen Y ad M k = .inl (Y 2, (zsh k).2.1, .inl (M.2.1 k)) := by
  unfold zen
  generalize zsh k = z at h ⊢
  obtain ⟨a, b, c⟩ := z
  cases h
  rfl
theorem zen_3 {Y : Nat → ClassId} {ad : Nat → Nat} {M : zMm} {k : Nat} (h : (zsh k).1 = 3) : zen Y ad M k = .inl (Y 3, (zsh k).2.1, .inr (.inl (M.2.2.1 k))) := by
  unfold zen
  generalize zsh k = z at h ⊢
  obtain ⟨a, b, c⟩ := z
  cases h
  rfl
theorem zen_4 {Y : Nat → ClassId} {ad : Nat → Nat} {M : zMm} {k : Nat} (h : (zsh k).1 = 4) : zen Y ad M k = .inl (Y 4, (zsh k).2.1, .inr (.inr (.inr (.inr fun i => (M.2.2.2 k i).map ad)))) := by
  unfold zen
  generalize zsh k = z at h ⊢
  obtain ⟨a, b, c⟩ := z
  cases h
  rfl
theorem zov_in {L : List Nat} {k : Nat} (h : zov L (.ref k)) (hk : (zsh k).1 < 9) : k ∈ L := by
  rcases h with h | h
  · exact h
  · exact absurd (zsh_lt1 hk) (Nat.not_lt.mpr h)
theorem zov_rf {M : zMm} (hO : zom M) {k : Nat} (hk : k ∈ M.1) (j : Nat) : zov M.1 (va_rf (M.2.2.2 k j)) := by
  cases h : M.2.2.2 k j with
  | none => trivial
  | some t => exact Or.inl (hO.2.2 k hk j t h)
theorem zWH.put {D : va_G} {Y : Nat → ClassId} {ad0 ad : Nat → Nat} {L0 : List Nat} {s : State} {R : Room} {M M' : zMm} {H H1 : Heap} {locs locs1 : List Loc} (h : zWH D Y ad0 L0 s R ad M H locs) (hL : M'.1 = M.1) (hO : zom M') (hP : va_P D vwCl (zwl Y ad M') H1) (hD : va_D (zAA ad0 L0 s.heap.size) (zwl Y ad M')) (hS : va_S (zAA ad0 L0 s.heap.size) s.heap H1 locs1) : zWH D Y ad0 L0 s R ad M' H1 locs1 :=
  ⟨hP, hD, hS, hO, by rw [hL]; exact h.2.2.2.2.1, h.2.2.2.2.2.1, by rw [hL]; exact h.2.2.2.2.2.2.1, by rw [hL]; exact h.2.2.2.2.2.2.2.1, by rw [hL]; exact h.2.2.2.2.2.2.2.2.1, by rw [hL]; exact h.2.2.2.2.2.2.2.2.2⟩
theorem zom_R {M : zMm} (h : zom M) {k j t : Nat} (ht : t ∈ M.1) : zom (zwR M k j (some t)) := by
  refine ⟨h.1, h.2.1, fun k' hk' j' t' h' => ?_⟩
  by_cases e : k' = k
  · subst e
    have h2 : va_up (M.2.2.2 k') j (some t) j' = some t' := by rw [← zw2_s]; exact h'
    unfold va_up at h2
    split at h2
    · cases h2; exact ht
    · exact h.2.2 k' hk' j' t' h2
  · have h2 : M.2.2.2 k' j' = some t' := by rw [← h']; exact (congrFun (zw2_n e) j').symm
    exact h.2.2 k' hk' j' t' h2
theorem zlt9 {k c n : Nat} (h : zsh k = (5, c, n)) : (zsh k).1 < 9 := by
  rw [h]
  show 5 < 9
  omega
theorem zlt9' {k t : Nat} (h : (zsh k).1 = t) (ht : t < 9) : (zsh k).1 < 9 := by omega
section ZH
variable {X : zCt} {own nm : String} {cc : ByteArray} {nL : Nat} {ret : Option FieldType} {pc : Nat} {P : zPP}
def zT_getI (ci j n : Nat) (P : zPP) : zPP := fun M ls st => match st with
  | .ref k :: r => zsh k = (5, ci, n) ∧ P M ls (.int (M.2.1 k j) :: r)
  | _ => False
def zT_getJ (ci j n : Nat) (P : zPP) : zPP := fun M ls st => match st with
  | .ref k :: r => zsh k = (5, ci, n) ∧ P M ls (.long (M.2.2.1 k j) :: r)
  | _ => False
def zT_getR (ci j n : Nat) (P : zPP) : zPP := fun M ls st => match st with
  | .ref k :: r => zsh k = (5, ci, n) ∧ P M ls (va_rf (M.2.2.2 k j) :: r)
  | _ => False
def zT_putI (ci j n : Nat) (P : zPP) : zPP := fun M ls st => match st with
  | .int x :: .ref k :: r => zsh k = (5, ci, n) ∧ P (zwI M k j x) ls r
  | _ => False
def zT_putZ (ci j n : Nat) (P : zPP) : zPP := fun M ls st => match st with
  | .int x :: .ref k :: r => zsh k = (5, ci, n) ∧ (x = 0 ∨ x = 1) ∧ P (zwI M k j x) ls r
  | _ => False
def zT_putJ (ci j n : Nat) (P : zPP) : zPP := fun M ls st => match st with
  | .long x :: .ref k :: r => zsh k = (5, ci, n) ∧ P (zwJ M k j x) ls r
  | _ => False
def zT_putR (ci j n : Nat) (P : zPP) : zPP := fun M ls st => match st with
  | .ref t :: .ref k :: r => zsh k = (5, ci, n) ∧ t < 2000 ∧ P (zwR M k j (some t)) ls r
  | _ => False
theorem zs_getI {ci j n idx : Nat} {Cn : String} {T : u_T} (hc : vwCl[ci]? = some (Cn, T, n)) (hin : ∀ w ∈ u_ws Cn T n, w ∈ gT) (hj : j < n) (hlk : Cond.fieldLink own idx (T j).1 (T j).2.1 (T j).2.2.1 ∈ gT) (ht : zft ci j = 0) (hd : decode cc pc = .ok (.getfield idx, 3)) (k : zSd X own nm cc nL ret (pc + 3) P) : zSd X own nm cc nL ret pc (zT_getI ci j n P) := by
  intro C M ls st h
  obtain ⟨p, l, e, R, s, m, args, below, meth, c, D, Y, ad0, M0, K⟩ := X
  unfold zT_getI at h
  split at h
  · next kk r =>
    intro ad H locs lsA hW ho hl
    obtain ⟨q, hq, hw⟩ := zwl_at (Y := Y) (ad := ad) (zov_in ho.top.1 (zlt9 h.1))
    rw [zen_obj h.1] at hw
    exact va_get (ref := (T j).1) C.1 C.2.1 C.2.2.2.2.2.1 hin C.2.2.2.2.1 C.2.2.2.2.2.2.2.1 hW.1 q hw hc j hj (C.2.2.2.2.2.1 _ hlk) (fun _ h9 => h9) (by rw [zfl_get hj, ht]; rfl) hd (k C M ls _ h.2 ad H locs lsA hW (ho.top.2.push trivial) hl)
  · exact h.elim
theorem zs_getJ {ci j n idx : Nat} {Cn : String} {T : u_T} (hc : vwCl[ci]? = some (Cn, T, n)) (hin : ∀ w ∈ u_ws Cn T n, w ∈ gT) (hj : j < n) (hlk : Cond.fieldLink own idx (T j).1 (T j).2.1 (T j).2.2.1 ∈ gT) (ht : zft ci j = 1) (hd : decode cc pc = .ok (.getfield idx, 3)) (k : zSd X own nm cc nL ret (pc + 3) P) : zSd X own nm cc nL ret pc (zT_getJ ci j n P) := by
  intro C M ls st h
  obtain ⟨p, l, e, R, s, m, args, below, meth, c, D, Y, ad0, M0, K⟩ := X
  unfold zT_getJ at h
  split at h
  · next kk r =>
    intro ad H locs lsA hW ho hl
    obtain ⟨q, hq, hw⟩ := zwl_at (Y := Y) (ad := ad) (zov_in ho.top.1 (zlt9 h.1))
    rw [zen_obj h.1] at hw
    exact va_get (ref := (T j).1) C.1 C.2.1 C.2.2.2.2.2.1 hin C.2.2.2.2.1 C.2.2.2.2.2.2.2.1 hW.1 q hw hc j hj (C.2.2.2.2.2.1 _ hlk) (fun _ h9 => h9) (by rw [zfl_get hj, ht]; rfl) hd (k C M ls _ h.2 ad H locs lsA hW (ho.top.2.push trivial) hl)
  · exact h.elim
theorem zs_getR {ci j n idx : Nat} {Cn : String} {T : u_T} (hc : vwCl[ci]? = some (Cn, T, n)) (hin : ∀ w ∈ u_ws Cn T n, w ∈ gT) (hj : j < n) (hlk : Cond.fieldLink own idx (T j).1 (T j).2.1 (T j).2.2.1 ∈ gT) (ht : zft ci j = 2) (hd : decode cc pc = .ok (.getfield idx, 3)) (k : zSd X own nm cc nL ret (pc + 3) P) : zSd X own nm cc nL ret pc (zT_getR ci j n P) := by
  intro C M ls st h
  obtain ⟨p, l, e, R, s, m, args, below, meth, c, D, Y, ad0, M0, K⟩ := X
  unfold zT_getR at h
  split at h
  · next kk r =>
    intro ad H locs lsA hW ho hl
    have hkL := zov_in ho.top.1 (zlt9 h.1)
    obtain ⟨q, hq, hw⟩ := zwl_at (Y := Y) (ad := ad) hkL
    rw [zen_obj h.1] at hw
    have hG := k C M ls _ h.2 ad H locs lsA hW (ho.top.2.push (zov_rf hW.2.2.2.1 hkL j)) hl
    rw [List.map_cons, zcv_rf] at hG
    exact va_get (ref := (T j).1) C.1 C.2.1 C.2.2.2.2.2.1 hin C.2.2.2.2.1 C.2.2.2.2.2.2.2.1 hW.1 q hw hc j hj (C.2.2.2.2.2.1 _ hlk) (fun _ h9 => h9) (by rw [zfl_get hj, ht]; rfl) hd hG
  · exact h.elim
/-- a store into a field of the memory, of any sort -/
theorem zput {ci j n idx : Nat} {Cn : String} {T : u_T} {ty0 : Nat → FieldType} (hc : vwCl[ci]? = some (Cn, T, n)) (hin : ∀ w ∈ u_ws Cn T n, w ∈ gT) (hty : ∀ k, k < n → parseFieldDescriptor (T k).2.2.1 = some (ty0 k)) (hnm : ∀ a, a < n → ∀ b, b < n → a ≠ b → (T a).2.1 ≠ (T b).2.1) (hj : j < n) (hlk : Cond.fieldLink own idx (T j).1 (T j).2.1 (T j).2.2.1 ∈ gT) (hfin : (T j).2.2.2 = false ∨ ((T j).2.2.2 = true ∧ nm = "<init>" ∧ (T j).1 = own)) (hd : decode cc pc = .ok (.putfield idx, 3))
    {p : Program} {l : Launch} {e : Env} {R : Room} {s : State} {m : MethodId} {args : Array Value} {below : List Frame} {meth : Method} {c : Code} {D : va_G} {Y : Nat → ClassId} {ad0 : Nat → Nat} {M0 : zMm} {K : zKt} (C : zCX (p, l, e, R, s, m, args, below, meth, c, D, Y, ad0, M0, K) own nm cc nL ret)
    {M M' : zMm} {kk : Nat} {ad : Nat → Nat} {H : Heap} {locs : List Loc} {lsA : Array Slot} {st : List Value} {v : Value} {cells slots : Nat} {Q : State → Prop} (hsh : zsh kk = (5, ci, n)) (hkL : kk ∈ M.1) (hW : zWH D Y ad0 M0.1 s R ad M H locs) (hn : narrow (ty0 j) v = v) (hf : fits (ty0 j) v = true) (hL : M'.1 = M.1) (hO : zom M') (hv : zfv ad M' kk j (zft ci j) = v) (ho1 : ∀ i, i ≠ j → zfv ad M' kk i (zft ci i) = zfv ad M kk i (zft ci i)) (ho2 : ∀ k', k' ≠ kk → zen Y ad M' k' = zen Y ad M k')
    (kont : ∀ (H1 : Heap) (locs1 : List Loc), zWH D Y ad0 M0.1 s R ad M' H1 locs1 → W p l e R s m args below meth c H1 locs1 cells slots Q (F0 m (pc + 3) lsA st)) : W p l e R s m args below meth c H locs cells slots Q (F0 m pc lsA (v :: .ref (ad kk) :: st)) := by
  obtain ⟨q, hq, hw⟩ := zwl_at (Y := Y) (ad := ad) hkL
  rw [zen_obj hsh] at hw
  have key : ∀ (H1 : Heap) (locs1 : List Loc), va_P D vwCl ((zwl Y ad M).set q (ad kk, .inr (ci, (zfl ad M kk ci n).set j v))) H1 → va_D (zAA ad0 M0.1 s.heap.size) ((zwl Y ad M).set q (ad kk, .inr (ci, (zfl ad M kk ci n).set j v))) → va_S (zAA ad0 M0.1 s.heap.size) s.heap H1 locs1 → W p l e R s m args below meth c H1 locs1 cells slots Q (F0 m (pc + 3) lsA st) := by
    intro H1 locs1 h1 h2 h3
    have e1 : (zwl Y ad M).set q (ad kk, .inr (ci, (zfl ad M kk ci n).set j v)) = zwl Y ad M' := zwl_set hL hW.2.2.2.1.1 hq (by rw [zen_obj hsh, zfl_set hj hv ho1]) ho2
    rw [e1] at h1 h2
    exact kont H1 locs1 (hW.put hL hO h1 h2 h3)
  rcases hfin with hfin | ⟨hfin, hini, hown⟩
  · exact va_put (ref := (T j).1) C.1 C.2.1 C.2.2.2.2.2.1 hin ty0 hty hnm C.2.2.2.2.1 C.2.2.2.2.2.2.2.1 hW.1 hW.2.1 hW.2.2.1 q hw hc j hj (C.2.2.2.2.2.1 _ hlk) (fun _ h9 => h9) hfin (hty j hj) hn hf (by rw [zfl_len]; exact hj) hd key
  · exact va_putF (ref := (T j).1) C.1 C.2.1 C.2.2.2.2.2.1 hin ty0 hty hnm C.2.2.2.2.1 C.2.2.2.2.2.2.2.1 hW.1 hW.2.1 hW.2.2.1 q hw hc j hj (C.2.2.2.2.2.1 _ hlk) (fun _ h9 => h9) hfin (C.2.2.2.2.2.2.2.2.2.trans hini) hown (hty j hj) hn hf (by rw [zfl_len]; exact hj) hd key
theorem zup_n {α : Type} {f : Nat → α} {i j : Nat} {v : α} (h : i ≠ j) : va_up f j v i = f i := by simp [va_up, h]
theorem zup_s {α : Type} {f : Nat → α} {j : Nat} {v : α} : va_up f j v j = v := by simp [va_up]
theorem zfv_I {ad : Nat → Nat} {M : zMm} {k i j t : Nat} {x : Int32} (h : i ≠ j) : zfv ad (zwI M k j x) k i t = zfv ad M k i t := by
  unfold zfv zwI
  simp only [zw2_s, zup_n h]
theorem zfv_J {ad : Nat → Nat} {M : zMm} {k i j t : Nat} {x : Int64} (h : i ≠ j) : zfv ad (zwJ M k j x) k i t = zfv ad M k i t := by
  unfold zfv zwJ
  simp only [zw2_s, zup_n h]
theorem zfv_R {ad : Nat → Nat} {M : zMm} {k i j t : Nat} {x : Option Nat} (h : i ≠ j) : zfv ad (zwR M k j x) k i t = zfv ad M k i t := by
  unfold zfv zwR
  simp only [zw2_s, zup_n h]
theorem zs_putI {ci j n idx : Nat} {Cn : String} {T : u_T} {ty0 : Nat → FieldType} (hc : vwCl[ci]? = some (Cn, T, n)) (hin : ∀ w ∈ u_ws Cn T n, w ∈ gT) (hty : ∀ k, k < n → parseFieldDescriptor (T k).2.2.1 = some (ty0 k)) (hnm : ∀ a, a < n → ∀ b, b < n → a ≠ b → (T a).2.1 ≠ (T b).2.1) (hj : j < n) (hlk : Cond.fieldLink own idx (T j).1 (T j).2.1 (T j).2.2.1 ∈ gT) (hfin : (T j).2.2.2 = false) (ht0 : ty0 j = .int) (ht : zft ci j = 0) (hd : decode cc pc = .ok (.putfield idx, 3)) (k : zSd X own nm cc nL ret (pc + 3) P) : zSd X own nm cc nL ret pc (zT_putI ci j n P) := by
  intro C M ls st h
  obtain ⟨p, l, e, R, s, m, args, below, meth, c, D, Y, ad0, M0, K⟩ := X
  unfold zT_putI at h
  split at h
  · next x kk r =>
    intro ad H locs lsA hW ho hl
    exact zput hc hin hty hnm hj hlk (Or.inl hfin) hd C (M' := zwI M kk j x) h.1 (zov_in ho.top.2.top.1 (zlt9 h.1)) hW (by rw [ht0]; rfl) (by rw [ht0]; rfl) rfl hW.2.2.2.1 (by rw [ht]; show Value.int (zw2 M.2.1 kk j x kk j) = _; rw [zw2_s, zup_s]; rfl) (fun i hi => zfv_I hi) (fun k' hk' => zen_I hk') (fun H1 locs1 hW1 => k C _ ls _ h.2 ad H1 locs1 lsA hW1 ho.top.2.top.2 hl)
  · exact h.elim
theorem zs_putZ {ci j n idx : Nat} {Cn : String} {T : u_T} {ty0 : Nat → FieldType} (hc : vwCl[ci]? = some (Cn, T, n)) (hin : ∀ w ∈ u_ws Cn T n, w ∈ gT) (hty : ∀ k, k < n → parseFieldDescriptor (T k).2.2.1 = some (ty0 k)) (hnm : ∀ a, a < n → ∀ b, b < n → a ≠ b → (T a).2.1 ≠ (T b).2.1) (hj : j < n) (hlk : Cond.fieldLink own idx (T j).1 (T j).2.1 (T j).2.2.1 ∈ gT) (hfin : (T j).2.2.2 = false) (ht0 : ty0 j = .boolean) (ht : zft ci j = 0) (hd : decode cc pc = .ok (.putfield idx, 3)) (k : zSd X own nm cc nL ret (pc + 3) P) : zSd X own nm cc nL ret pc (zT_putZ ci j n P) := by
  intro C M ls st h
  obtain ⟨p, l, e, R, s, m, args, below, meth, c, D, Y, ad0, M0, K⟩ := X
  unfold zT_putZ at h
  split at h
  · next x kk r =>
    intro ad H locs lsA hW ho hl
    exact zput hc hin hty hnm hj hlk (Or.inl hfin) hd C (M' := zwI M kk j x) h.1 (zov_in ho.top.2.top.1 (zlt9 h.1)) hW (by rw [ht0]; rcases h.2.1 with rfl | rfl <;> rfl) (by rw [ht0]; rcases h.2.1 with rfl | rfl <;> rfl) rfl hW.2.2.2.1 (by rw [ht]; show Value.int (zw2 M.2.1 kk j x kk j) = _; rw [zw2_s, zup_s]; rfl) (fun i hi => zfv_I hi) (fun k' hk' => zen_I hk') (fun H1 locs1 hW1 => k C _ ls _ h.2.2 ad H1 locs1 lsA hW1 ho.top.2.top.2 hl)
  · exact h.elim
theorem zs_putJ {ci j n idx : Nat} {Cn : String} {T : u_T} {ty0 : Nat → FieldType} (hc : vwCl[ci]? = some (Cn, T, n)) (hin : ∀ w ∈ u_ws Cn T n, w ∈ gT) (hty : ∀ k, k < n → parseFieldDescriptor (T k).2.2.1 = some (ty0 k)) (hnm : ∀ a, a < n → ∀ b, b < n → a ≠ b → (T a).2.1 ≠ (T b).2.1) (hj : j < n) (hlk : Cond.fieldLink own idx (T j).1 (T j).2.1 (T j).2.2.1 ∈ gT) (hfin : (T j).2.2.2 = false) (ht0 : ty0 j = .long) (ht : zft ci j = 1) (hd : decode cc pc = .ok (.putfield idx, 3)) (k : zSd X own nm cc nL ret (pc + 3) P) : zSd X own nm cc nL ret pc (zT_putJ ci j n P) := by
  intro C M ls st h
  obtain ⟨p, l, e, R, s, m, args, below, meth, c, D, Y, ad0, M0, K⟩ := X
  unfold zT_putJ at h
  split at h
  · next x kk r =>
    intro ad H locs lsA hW ho hl
    exact zput hc hin hty hnm hj hlk (Or.inl hfin) hd C (M' := zwJ M kk j x) h.1 (zov_in ho.top.2.top.1 (zlt9 h.1)) hW (by rw [ht0]; rfl) (by rw [ht0]; rfl) rfl hW.2.2.2.1 (by rw [ht]; show Value.long (zw2 M.2.2.1 kk j x kk j) = _; rw [zw2_s, zup_s]; rfl) (fun i hi => zfv_J hi) (fun k' hk' => zen_J hk') (fun H1 locs1 hW1 => k C _ ls _ h.2 ad H1 locs1 lsA hW1 ho.top.2.top.2 hl)
  · exact h.elim
theorem zs_putR {ci j n idx : Nat} {Cn : String} {T : u_T} {ty0 : Nat → FieldType} (hc : vwCl[ci]? = some (Cn, T, n)) (hin : ∀ w ∈ u_ws Cn T n, w ∈ gT) (hty : ∀ k, k < n → parseFieldDescriptor (T k).2.2.1 = some (ty0 k)) (hnm : ∀ a, a < n → ∀ b, b < n → a ≠ b → (T a).2.1 ≠ (T b).2.1) (hj : j < n) (hlk : Cond.fieldLink own idx (T j).1 (T j).2.1 (T j).2.2.1 ∈ gT) (hfin : (T j).2.2.2 = false ∨ ((T j).2.2.2 = true ∧ nm = "<init>" ∧ (T j).1 = own)) (ht0 : ∀ a, narrow (ty0 j) (.ref a) = .ref a ∧ fits (ty0 j) (.ref a) = true) (ht : zft ci j = 2) (hd : decode cc pc = .ok (.putfield idx, 3)) (k : zSd X own nm cc nL ret (pc + 3) P) : zSd X own nm cc nL ret pc (zT_putR ci j n P) := by
  intro C M ls st h
  obtain ⟨p, l, e, R, s, m, args, below, meth, c, D, Y, ad0, M0, K⟩ := X
  unfold zT_putR at h
  split at h
  · next t kk r =>
    intro ad H locs lsA hW ho hl
    have htL : t ∈ M.1 := by
      rcases ho.top.1 with q | q
      · exact q
      · exact absurd h.2.1 (Nat.not_lt.mpr q)
    exact zput hc hin hty hnm hj hlk hfin hd C (M' := zwR M kk j (some t)) h.1 (zov_in ho.top.2.top.1 (zlt9 h.1)) hW (ht0 (ad t)).1 (ht0 (ad t)).2 rfl (zom_R hW.2.2.2.1 htL) (by rw [ht]; show va_rf ((zw2 M.2.2.2 kk j (some t) kk j).map ad) = _; rw [zw2_s, zup_s]; rfl) (fun i hi => zfv_R hi) (fun k' hk' => zen_R hk') (fun H1 locs1 hW1 => k C _ ls _ h.2.2 ad H1 locs1 lsA hW1 ho.top.2.top.2 hl)
  · exact h.elim
/-! arrays -/
def zT_ald0 (tag : Nat) (P : zPP) : zPP := fun M ls st => match st with
  | .int i :: .ref k :: r => (zsh k).1 = tag ∧ vp_in i (zsh k).2.1 ∧ P M ls (.int (M.2.1 k i.toNatClampNeg) :: r)
  | _ => False
def zT_lald (P : zPP) : zPP := fun M ls st => match st with
  | .int i :: .ref k :: r => (zsh k).1 = 3 ∧ vp_in i (zsh k).2.1 ∧ P M ls (.long (M.2.2.1 k i.toNatClampNeg) :: r)
  | _ => False
def zT_aald (P : zPP) : zPP := fun M ls st => match st with
  | .int i :: .ref k :: r => (zsh k).1 = 4 ∧ vp_in i (zsh k).2.1 ∧ P M ls (va_rf (M.2.2.2 k i.toNatClampNeg) :: r)
  | _ => False
def zT_iast (P : zPP) : zPP := fun M ls st => match st with
  | .int x :: .int i :: .ref k :: r => (zsh k).1 = 0 ∧ vp_in i (zsh k).2.1 ∧ P (zwI M k i.toNatClampNeg x) ls r
  | _ => False
def zT_zast (P : zPP) : zPP := fun M ls st => match st with
  | .int x :: .int i :: .ref k :: r => (zsh k).1 = 1 ∧ vp_in i (zsh k).2.1 ∧ (x = 0 ∨ x = 1) ∧ P (zwI M k i.toNatClampNeg x) ls r
  | _ => False
def zT_bast (P : zPP) : zPP := fun M ls st => match st with
  | .int x :: .int i :: .ref k :: r => (zsh k).1 = 2 ∧ vp_in i (zsh k).2.1 ∧ P (zwI M k i.toNatClampNeg x.toInt8.toInt32) ls r
  | _ => False
def zT_last (P : zPP) : zPP := fun M ls st => match st with
  | .long x :: .int i :: .ref k :: r => (zsh k).1 = 3 ∧ vp_in i (zsh k).2.1 ∧ P (zwJ M k i.toNatClampNeg x) ls r
  | _ => False
def zT_aast (P : zPP) : zPP := fun M ls st => match st with
  | .ref t :: .int i :: .ref k :: r => (zsh k).1 = 4 ∧ vp_in i (zsh k).2.1 ∧ zsh t = (5, 6, 2) ∧ P (zwR M k i.toNatClampNeg (some t)) ls r
  | _ => False
theorem zs_iald (hd : decode cc pc = .ok (.iaload, 1)) (k : zSd X own nm cc nL ret (pc + 1) P) : zSd X own nm cc nL ret pc (zT_ald0 0 P) := by
  intro C M ls st h
  obtain ⟨p, l, e, R, s, m, args, below, meth, c, D, Y, ad0, M0, K⟩ := X
  unfold zT_ald0 at h
  split at h
  · next i kk r =>
    intro ad H locs lsA hW ho hl
    obtain ⟨q, hq, hw⟩ := zwl_at (Y := Y) (ad := ad) (zov_in ho.top.2.top.1 (zlt9' h.1 (by decide)))
    rw [zen_0 h.1] at hw
    exact va_iald C.1 C.2.1 C.2.2.2.2.2.2.2.1 hW.1 q 0 hw rfl h.2.1 hd (k C M ls _ h.2.2 ad H locs lsA hW (ho.top.2.top.2.push trivial) hl)
  · exact h.elim
theorem zs_zald (hd : decode cc pc = .ok (.baload, 1)) (k : zSd X own nm cc nL ret (pc + 1) P) : zSd X own nm cc nL ret pc (zT_ald0 1 P) := by
  intro C M ls st h
  obtain ⟨p, l, e, R, s, m, args, below, meth, c, D, Y, ad0, M0, K⟩ := X
  unfold zT_ald0 at h
  split at h
  · next i kk r =>
    intro ad H locs lsA hW ho hl
    obtain ⟨q, hq, hw⟩ := zwl_at (Y := Y) (ad := ad) (zov_in ho.top.2.top.1 (zlt9' h.1 (by decide)))
    rw [zen_1 h.1] at hw
    exact va_zald C.1 C.2.1 C.2.2.2.2.2.2.2.1 hW.1 q 1 hw rfl h.2.1 hd (k C M ls _ h.2.2 ad H locs lsA hW (ho.top.2.top.2.push trivial) hl)
  · exact h.elim
theorem zs_bald (hd : decode cc pc = .ok (.baload, 1)) (k : zSd X own nm cc nL ret (pc + 1) P) : zSd X own nm cc nL ret pc (zT_ald0 2 P) := by
  intro C M ls st h
  obtain ⟨p, l, e, R, s, m, args, below, meth, c, D, Y, ad0, M0, K⟩ := X
  unfold zT_ald0 at h
  split at h
  · next i kk r =>
    intro ad H locs lsA hW ho hl
    obtain ⟨q, hq, hw⟩ := zwl_at (Y := Y) (ad := ad) (zov_in ho.top.2.top.1 (zlt9' h.1 (by decide)))
    rw [zen_2 h.1] at hw
    exact va_bald C.1 C.2.1 C.2.2.2.2.2.2.2.1 hW.1 q 2 hw rfl h.2.1 hd (k C M ls _ h.2.2 ad H locs lsA hW (ho.top.2.top.2.push trivial) hl)
  · exact h.elim
theorem zs_lald (hd : decode cc pc = .ok (.laload, 1)) (k : zSd X own nm cc nL ret (pc + 1) P) : zSd X own nm cc nL ret pc (zT_lald P) := by
  intro C M ls st h
  obtain ⟨p, l, e, R, s, m, args, below, meth, c, D, Y, ad0, M0, K⟩ := X
  unfold zT_lald at h
  split at h
  · next i kk r =>
    intro ad H locs lsA hW ho hl
    obtain ⟨q, hq, hw⟩ := zwl_at (Y := Y) (ad := ad) (zov_in ho.top.2.top.1 (zlt9' h.1 (by decide)))
    rw [zen_3 h.1] at hw
    exact va_lald C.1 C.2.1 C.2.2.2.2.2.2.2.1 hW.1 q 3 hw rfl h.2.1 hd (k C M ls _ h.2.2 ad H locs lsA hW (ho.top.2.top.2.push trivial) hl)
  · exact h.elim
theorem zs_aald (hd : decode cc pc = .ok (.aaload, 1)) (k : zSd X own nm cc nL ret (pc + 1) P) : zSd X own nm cc nL ret pc (zT_aald P) := by
  intro C M ls st h
  obtain ⟨p, l, e, R, s, m, args, below, meth, c, D, Y, ad0, M0, K⟩ := X
  unfold zT_aald at h
  split at h
  · next i kk r =>
    intro ad H locs lsA hW ho hl
    have hkL := zov_in ho.top.2.top.1 (zlt9' h.1 (by decide))
    obtain ⟨q, hq, hw⟩ := zwl_at (Y := Y) (ad := ad) hkL
    rw [zen_4 h.1] at hw
    have hG := k C M ls _ h.2.2 ad H locs lsA hW (ho.top.2.top.2.push (zov_rf hW.2.2.2.1 hkL _)) hl
    rw [List.map_cons, zcv_rf] at hG
    exact va_aldq C.1 C.2.1 C.2.2.2.2.2.2.2.1 hW.1 q 4 hw rfl h.2.1 hd hG
  · exact h.elim
theorem zs_iast (hd : decode cc pc = .ok (.iastore, 1)) (k : zSd X own nm cc nL ret (pc + 1) P) : zSd X own nm cc nL ret pc (zT_iast P) := by
  intro C M ls st h
  obtain ⟨p, l, e, R, s, m, args, below, meth, c, D, Y, ad0, M0, K⟩ := X
  unfold zT_iast at h
  split at h
  · next x i kk r =>
    intro ad H locs lsA hW ho hl
    obtain ⟨q, hq, hw⟩ := zwl_at (Y := Y) (ad := ad) (zov_in ho.top.2.top.2.top.1 (zlt9' h.1 (by decide)))
    rw [zen_0 h.1] at hw
    refine va_iast C.1 C.2.1 C.2.2.2.2.2.2.2.1 hW.1 hW.2.1 hW.2.2.1 q 0 hw rfl h.2.1 hd (fun H1 locs1 h1 h2 h3 => ?_)
    have e1 : (zwl Y ad M).set q (ad kk, .inl (Y 0, (zsh kk).2.1, .inl (upd (M.2.1 kk) i.toNatClampNeg x))) = zwl Y ad (zwI M kk i.toNatClampNeg x) := zwl_set rfl hW.2.2.2.1.1 hq (by rw [zen_0 h.1]; show Sum.inl (Y 0, (zsh kk).2.1, Sum.inl (zw2 M.2.1 kk i.toNatClampNeg x kk)) = _; rw [zw2_s]; rfl) (fun k' hk' => zen_I hk')
    rw [e1] at h1 h2
    exact k C _ ls _ h.2.2 ad H1 locs1 lsA (hW.put rfl hW.2.2.2.1 h1 h2 h3) ho.top.2.top.2.top.2 hl
  · exact h.elim
theorem znarZ {x : Int32} (h : x = 0 ∨ x = 1) : vp_nar .boolean x = x := by rcases h with rfl | rfl <;> rfl
theorem zs_zast (hd : decode cc pc = .ok (.bastore, 1)) (k : zSd X own nm cc nL ret (pc + 1) P) : zSd X own nm cc nL ret pc (zT_zast P) := by
  intro C M ls st h
  obtain ⟨p, l, e, R, s, m, args, below, meth, c, D, Y, ad0, M0, K⟩ := X
  unfold zT_zast at h
  split at h
  · next x i kk r =>
    intro ad H locs lsA hW ho hl
    obtain ⟨q, hq, hw⟩ := zwl_at (Y := Y) (ad := ad) (zov_in ho.top.2.top.2.top.1 (zlt9' h.1 (by decide)))
    rw [zen_1 h.1] at hw
    refine va_zast C.1 C.2.1 C.2.2.2.2.2.2.2.1 hW.1 hW.2.1 hW.2.2.1 q 1 hw rfl h.2.1 hd (fun H1 locs1 h1 h2 h3 => ?_)
    have e1 : (zwl Y ad M).set q (ad kk, .inl (Y 1, (zsh kk).2.1, .inl (upd (M.2.1 kk) i.toNatClampNeg (vp_nar .boolean x)))) = zwl Y ad (zwI M kk i.toNatClampNeg x) := zwl_set rfl hW.2.2.2.1.1 hq (by rw [zen_1 h.1, znarZ h.2.2.1]; show Sum.inl (Y 1, (zsh kk).2.1, Sum.inl (zw2 M.2.1 kk i.toNatClampNeg x kk)) = _; rw [zw2_s]; rfl) (fun k' hk' => zen_I hk')
    rw [e1] at h1 h2
    exact k C _ ls _ h.2.2.2 ad H1 locs1 lsA (hW.put rfl hW.2.2.2.1 h1 h2 h3) ho.top.2.top.2.top.2 hl
  · exact h.elim
theorem zs_bast (hd : decode cc pc = .ok (.bastore, 1)) (k : zSd X own nm cc nL ret (pc + 1) P) : zSd X own nm cc nL ret pc (zT_bast P) := by
  intro C M ls st h
  obtain ⟨p, l, e, R, s, m, args, below, meth, c, D, Y, ad0, M0, K⟩ := X
  unfold zT_bast at h
  split at h
  · next x i kk r =>
    intro ad H locs lsA hW ho hl
    obtain ⟨q, hq, hw⟩ := zwl_at (Y := Y) (ad := ad) (zov_in ho.top.2.top.2.top.1 (zlt9' h.1 (by decide)))
    rw [zen_2 h.1] at hw
    refine va_bast C.1 C.2.1 C.2.2.2.2.2.2.2.1 hW.1 hW.2.1 hW.2.2.1 q 2 hw rfl h.2.1 hd (fun H1 locs1 h1 h2 h3 => ?_)
    have e1 : (zwl Y ad M).set q (ad kk, .inl (Y 2, (zsh kk).2.1, .inl (upd (M.2.1 kk) i.toNatClampNeg (vp_nar .byte x)))) = zwl Y ad (zwI M kk i.toNatClampNeg x.toInt8.toInt32) := zwl_set rfl hW.2.2.2.1.1 hq (by rw [zen_2 h.1]; show Sum.inl (Y 2, (zsh kk).2.1, Sum.inl (zw2 M.2.1 kk i.toNatClampNeg _ kk)) = _; rw [zw2_s]; rfl) (fun k' hk' => zen_I hk')
    rw [e1] at h1 h2
    exact k C _ ls _ h.2.2 ad H1 locs1 lsA (hW.put rfl hW.2.2.2.1 h1 h2 h3) ho.top.2.top.2.top.2 hl
  · exact h.elim
theorem zs_last (hd : decode cc pc = .ok (.lastore, 1)) (k : zSd X own nm cc nL ret (pc + 1) P) : zSd X own nm cc nL ret pc (zT_last P) := by
  intro C M ls st h
  obtain ⟨p, l, e, R, s, m, args, below, meth, c, D, Y, ad0, M0, K⟩ := X
  unfold zT_last at h
  split at h
  · next x i kk r =>
    intro ad H locs lsA hW ho hl
    obtain ⟨q, hq, hw⟩ := zwl_at (Y := Y) (ad := ad) (zov_in ho.top.2.top.2.top.1 (zlt9' h.1 (by decide)))
    rw [zen_3 h.1] at hw
    refine va_last C.1 C.2.1 C.2.2.2.2.2.2.2.1 hW.1 hW.2.1 hW.2.2.1 q 3 hw rfl h.2.1 hd (fun H1 locs1 h1 h2 h3 => ?_)
    have e1 : (zwl Y ad M).set q (ad kk, .inl (Y 3, (zsh kk).2.1, .inr (.inl (vp_updL (M.2.2.1 kk) i.toNatClampNeg x)))) = zwl Y ad (zwJ M kk i.toNatClampNeg x) := zwl_set rfl hW.2.2.2.1.1 hq (by rw [zen_3 h.1]; show Sum.inl (Y 3, (zsh kk).2.1, Sum.inr (Sum.inl (zw2 M.2.2.1 kk i.toNatClampNeg x kk))) = _; rw [zw2_s]; rfl) (fun k' hk' => zen_J hk')
    rw [e1] at h1 h2
    exact k C _ ls _ h.2.2 ad H1 locs1 lsA (hW.put rfl hW.2.2.2.1 h1 h2 h3) ho.top.2.top.2.top.2 hl
  · exact h.elim
theorem zs_aast (hd : decode cc pc = .ok (.aastore, 1)) (k : zSd X own nm cc nL ret (pc + 1) P) : zSd X own nm cc nL ret pc (zT_aast P) := by
  intro C M ls st h
  obtain ⟨p, l, e, R, s, m, args, below, meth, c, D, Y, ad0, M0, K⟩ := X
  unfold zT_aast at h
  split at h
  · next t i kk r =>
    intro ad H locs lsA hW ho hl
    have htL := zov_in ho.top.1 (zlt9 h.2.2.1)
    obtain ⟨q, hq, hw⟩ := zwl_at (Y := Y) (ad := ad) (zov_in ho.top.2.top.2.top.1 (zlt9' h.1 (by decide)))
    obtain ⟨qv, hqv, hwv⟩ := zwl_at (Y := Y) (ad := ad) htL
    rw [zen_4 h.1] at hw
    rw [zen_obj h.2.2.1] at hwv
    refine va_astq (r := (RX6, TX6, 2)) C.1 C.2.1 C.2.2.2.2.2.2.2.1 hW.1 hW.2.1 hW.2.2.1 q 4 qv 6 hw rfl hwv rfl h.2.1 hd (fun H1 locs1 h1 h2 h3 => ?_)
    have e1 : (zwl Y ad M).set q (ad kk, .inl (Y 4, (zsh kk).2.1, .inr (.inr (.inr (.inr (va_up (fun i => (M.2.2.2 kk i).map ad) i.toNatClampNeg (some (ad t)))))))) = zwl Y ad (zwR M kk i.toNatClampNeg (some t)) := zwl_set rfl hW.2.2.2.1.1 hq (by
      rw [zen_4 h.1]
      have : (fun i' => ((zwR M kk i.toNatClampNeg (some t)).2.2.2 kk i').map ad) = va_up (fun i => (M.2.2.2 kk i).map ad) i.toNatClampNeg (some (ad t)) := by
        funext i'
        show (zw2 M.2.2.2 kk i.toNatClampNeg (some t) kk i').map ad = _
        rw [zw2_s]
        unfold va_up
        split <;> rfl
      rw [this]) (fun k' hk' => zen_R hk')
    rw [e1] at h1 h2
    exact k C _ ls _ h.2.2.2 ad H1 locs1 lsA (hW.put rfl (zom_R hW.2.2.2.1 htL) h1 h2 h3) ho.top.2.top.2.top.2 hl
  · exact h.elim
end ZH
