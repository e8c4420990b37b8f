/-! PURE: how the water runs down. The order of cells, the row of wet cells, what comes to each -/
def wbf (H : Nat → Nat) (a b : Nat) : Prop := H b < H a ∨ (H a = H b ∧ a < b)
theorem wbf_zbb {H : Nat → Nat} {f : Nat → Int32} (hf : ∀ e, e < 120 → f e = nI (H e) ∧ H e ≤ 200) {a b : Nat} (ha : a < 120) (hb : b < 120) : zbb f a b = true ↔ wbf H a b := by
  rw [zbb_t]
  unfold zbf wbf
  have h1 := hf a ha
  have h2 := hf b hb
  rw [h1.1, h2.1, nI_ltI (by omega) (by omega), nI_eq (by omega) (by omega)]
theorem wps_hi {b : Nat → Bool} {g : Nat → Nat} : ∀ {n j : Nat}, wps b g n ≤ j → j < n → b (g j) = true
  | 0, j, _, h => absurd h (Nat.not_lt_zero _)
  | n + 1, j, h1, h2 => by
    have h1' : (if b (g n) = true then wps b g n else n + 1) ≤ j := h1
    by_cases q : b (g n) = true
    · rw [if_pos q] at h1'
      by_cases e : j = n
      · subst e; exact q
      · exact wps_hi h1' (by omega)
    · rw [if_neg q] at h1'
      omega
theorem wps_lo {b : Nat → Bool} {g : Nat → Nat} : ∀ {n : Nat}, 0 < wps b g n → b (g (wps b g n - 1)) = false
  | 0, h => absurd h (Nat.lt_irrefl _)
  | n + 1, h => by
    by_cases q : b (g n) = true
    · have e : wps b g (n + 1) = wps b g n := by
        show (if b (g n) = true then wps b g n else n + 1) = _
        rw [if_pos q]
      rw [e] at h ⊢
      exact wps_lo h
    · have e : wps b g (n + 1) = n + 1 := by
        show (if b (g n) = true then wps b g n else n + 1) = _
        rw [if_neg q]
      rw [e]
      cases hq : b (g n) with
      | true => exact absurd hq q
      | false => rw [show n + 1 - 1 = n from rfl]; exact hq
/-- the place is the right one in a row that stands in order -/
theorem win_ord {H : Nat → Nat} {b : Nat → Bool} {c : Nat} {L : List Nat} (hb : ∀ x ∈ L, (b x = true ↔ wbf H c x)) (hp : L.Pairwise (wbf H)) (hc : c ∉ L) : (∀ x ∈ L.take (wps b (wat L) L.length), wbf H x c) ∧ ∀ x ∈ L.drop (wps b (wat L) L.length), wbf H c x := by
  have hle := wps_le b (wat L) L.length
  have hpw := List.pairwise_iff_getElem.mp hp
  constructor
  · intro x hx
    obtain ⟨j, hj⟩ := List.getElem?_of_mem hx
    have hjl := (List.getElem?_eq_some_iff.mp hj).1
    rw [List.length_take] at hjl
    rw [List.getElem?_take_of_lt (by omega)] at hj
    obtain ⟨j1, j2⟩ := wat_of hj
    have h0 : 0 < wps b (wat L) L.length := by omega
    have hlast := wps_lo h0
    have hl1 : wps b (wat L) L.length - 1 < L.length := by omega
    have hg := wat_get hl1
    have hmem : wat L (wps b (wat L) L.length - 1) ∈ L := List.mem_of_getElem? hg
    have hnb : ¬ wbf H c (wat L (wps b (wat L) L.length - 1)) := fun z => by
      rw [← hb _ hmem] at z
      rw [hlast] at z
      cases z
    have hne : wat L (wps b (wat L) L.length - 1) ≠ c := fun e => hc (e ▸ hmem)
    have hlc : wbf H (wat L (wps b (wat L) L.length - 1)) c := by
      unfold wbf at hnb ⊢
      omega
    by_cases e : j = wps b (wat L) L.length - 1
    · rw [← j2, e]; exact hlc
    · have h3 := hpw j (wps b (wat L) L.length - 1) j1 hl1 (by omega)
      have e1 : L[j] = x := (List.getElem?_eq_some_iff.mp hj).2
      have e2 : L[wps b (wat L) L.length - 1] = wat L (wps b (wat L) L.length - 1) := (List.getElem?_eq_some_iff.mp hg).2
      rw [e1, e2] at h3
      unfold wbf at h3 hlc ⊢
      omega
  · intro x hx
    obtain ⟨j, hj⟩ := List.getElem?_of_mem hx
    rw [List.getElem?_drop] at hj
    obtain ⟨j1, j2⟩ := wat_of hj
    have := wps_hi (b := b) (g := wat L) (n := L.length) (j := wps b (wat L) L.length + j) (by omega) j1
    rw [j2] at this
    exact (hb x (List.mem_of_getElem? hj)).mp this
theorem win_pw {H : Nat → Nat} {b : Nat → Bool} {c : Nat} {L : List Nat} (hb : ∀ x ∈ L, (b x = true ↔ wbf H c x)) (hp : L.Pairwise (wbf H)) (hc : c ∉ L) : (win b c L).Pairwise (wbf H) := by
  obtain ⟨h1, h2⟩ := win_ord hb hp hc
  have h0 := List.take_append_drop (wps b (wat L) L.length) L
  have hp' := hp
  rw [← h0, List.pairwise_append] at hp'
  unfold win
  rw [List.pairwise_append]
  refine ⟨hp'.1, List.pairwise_cons.mpr ⟨h2, hp'.2.1⟩, fun a ha x hx => ?_⟩
  rcases List.mem_cons.mp hx with rfl | hx
  · exact h1 a ha
  · exact hp'.2.2 a ha x hx
/-- what stands ahead stays in its place -/
theorem win_take {H : Nat → Nat} {b : Nat → Bool} {c k : Nat} {L : List Nat} (hb : ∀ x ∈ L, (b x = true ↔ wbf H c x)) (hp : L.Pairwise (wbf H)) (hc : c ∉ L) (hk : k ≤ L.length) (ha : ∀ x ∈ L.take k, wbf H x c) : (win b c L).take k = L.take k ∧ ∀ x, x ∈ (win b c L).drop k ↔ x = c ∨ x ∈ L.drop k := by
  have hle := wps_le b (wat L) L.length
  have hkp : k ≤ wps b (wat L) L.length := by
    rcases Nat.lt_or_ge (wps b (wat L) L.length) k with q | q
    · exfalso
      have hq : wps b (wat L) L.length < L.length := by omega
      have hg := wat_get hq
      have h1 := wps_hi (b := b) (g := wat L) (n := L.length) (Nat.le_refl _) hq
      have h2 := (hb _ (List.mem_of_getElem? hg)).mp h1
      have h3 := ha (wat L (wps b (wat L) L.length)) (List.mem_of_getElem? (i := wps b (wat L) L.length) (by rw [List.getElem?_take_of_lt q]; exact hg))
      unfold wbf at h2 h3
      omega
    · exact q
  unfold win
  generalize wps b (wat L) L.length = p at *
  have hlt : (L.take p).length = p := by rw [List.length_take]; omega
  constructor
  · rw [List.take_append_of_le_length (by omega), List.take_take, Nat.min_eq_left hkp]
  · intro x
    rw [List.drop_append_of_le_length (by omega), List.mem_append, List.mem_cons]
    have e : L.drop k = (L.take p).drop k ++ L.drop p := by
      have h0 := List.take_append_drop p L
      conv => lhs; rw [← h0]
      rw [List.drop_append_of_le_length (by omega)]
    rw [e, List.mem_append]
    constructor
    · rintro (h | h | h)
      · exact Or.inr (Or.inl h)
      · exact Or.inl h
      · exact Or.inr (Or.inr h)
    · rintro (h | h | h)
      · exact Or.inr (Or.inl h)
      · exact Or.inl h
      · exact Or.inr (Or.inr h)
/-- the sum over what stands behind the k-th place -/
def wsl (A : Nat → Nat) (L : List Nat) : Nat := (L.map A).sum
theorem wsl_app {A : Nat → Nat} {a b : List Nat} : wsl A (a ++ b) = wsl A a + wsl A b := by simp [wsl]
theorem wsl_cons {A : Nat → Nat} {x : Nat} {b : List Nat} : wsl A (x :: b) = A x + wsl A b := by simp [wsl]
theorem wsl_up {A : Nat → Nat} {c v : Nat} : ∀ {L : List Nat}, c ∉ L → wsl (va_up A c v) L = wsl A L
  | [], _ => rfl
  | x :: L, h => by
    have hne : x ≠ c := fun e => h (e ▸ List.mem_cons_self)
    rw [wsl_cons, wsl_cons, wsl_up (L := L) (fun z => h (List.mem_cons_of_mem _ z)), zup_n hne]
theorem wsl_up1 {A : Nat → Nat} {c v : Nat} : ∀ {L : List Nat}, L.Nodup → wsl (va_up A c (A c + v)) L ≤ wsl A L + v
  | [], _ => Nat.zero_le _
  | x :: L, h => by
    obtain ⟨h1, h2⟩ := List.nodup_cons.mp h
    rw [wsl_cons, wsl_cons]
    by_cases e : x = c
    · subst e
      rw [wsl_up h1, zup_s]
      omega
    · have := wsl_up1 (A := A) (c := c) (v := v) h2
      rw [zup_n e]
      omega
theorem wsl_mem {A : Nat → Nat} : ∀ {L : List Nat} {x : Nat}, x ∈ L → A x ≤ wsl A L
  | y :: L, x, h => by
    rw [wsl_cons]
    rcases List.mem_cons.mp h with rfl | h
    · omega
    · have := wsl_mem (A := A) h
      omega
theorem wsl_perm {A : Nat → Nat} {a b : List Nat} {c : Nat} : wsl A (a ++ c :: b) = wsl A (a ++ b) + A c := by
  rw [wsl_app, wsl_cons, wsl_app]
  omega
/-- one pour: the state of the row of wet cells, of which the first k are done -/
def wok (H : Nat → Nat) (w h : Nat) (k : Nat) (S : wST) : Prop := wwf S ∧ S.2.Pairwise (wbf H) ∧ (∀ x ∈ S.2, wil w h x) ∧ (∀ x, x ∉ S.2 → S.1 x = 0) ∧ k ≤ S.2.length
theorem wpr_ok {H : Nat → Nat} {w h k : Nat} {S : wST} {f11 : Nat → Int32} (hf : ∀ e, e < 120 → f11 e = nI (H e) ∧ H e ≤ 200) (hS : wok H w h k S) {c v : Nat} (hc : c < 120) (hil : wil w h c) (ha : ∀ x ∈ S.2.take k, wbf H x c) :
    wok H w h k (wpr f11 c v S) ∧ (wpr f11 c v S).2.take k = S.2.take k ∧ wsl (wpr f11 c v S).1 ((wpr f11 c v S).2.drop k) ≤ wsl S.1 (S.2.drop k) + v := by
  obtain ⟨hwf, hpw, hin, hz, hk⟩ := hS
  have hwf2 := wpr_wf (f11 := f11) (f := v) hwf hc
  by_cases hq : 0 < v ∧ S.1 c = 0
  · have hnc : c ∉ S.2 := fun z => by
      have := (hwf.2.2 c hc).mp z
      omega
    have hb : ∀ x ∈ S.2, (zbb f11 c x = true ↔ wbf H c x) := fun x hx => wbf_zbb hf hc (hwf.2.1 x hx)
    have ht := win_take hb hpw hnc hk ha
    have hord := win_ord hb hpw hnc
    have e2 : (wpr f11 c v S).2 = win (zbb f11 c) c S.2 := by unfold wpr; rw [if_pos hq]
    have e1 : (wpr f11 c v S).1 = va_up S.1 c (S.1 c + v) := rfl
    refine ⟨⟨hwf2, ?_, ?_, ?_, ?_⟩, ?_, ?_⟩
    · rw [e2]; exact win_pw hb hpw hnc
    · rw [e2]
      intro x hx
      rcases win_mem.mp hx with rfl | hx
      · exact hil
      · exact hin x hx
    · rw [e2, e1]
      intro x hx
      rw [win_mem] at hx
      rw [zup_n (fun e => hx (Or.inl e))]
      exact hz x (fun z => hx (Or.inr z))
    · rw [e2, win_len]; omega
    · rw [e2]; exact ht.1
    · rw [e2, e1]
      have hle := wps_le (zbb f11 c) (wat S.2) S.2.length
      have hkp : k ≤ wps (zbb f11 c) (wat S.2) S.2.length := by
        rcases Nat.lt_or_ge (wps (zbb f11 c) (wat S.2) S.2.length) k with q | q
        · exfalso
          have hq2 : wps (zbb f11 c) (wat S.2) S.2.length < S.2.length := by omega
          have hg := wat_get hq2
          have h1 := wps_hi (b := zbb f11 c) (g := wat S.2) (n := S.2.length) (Nat.le_refl _) hq2
          have h2 := (hb _ (List.mem_of_getElem? hg)).mp h1
          have h3 := ha (wat S.2 (wps (zbb f11 c) (wat S.2) S.2.length)) (List.mem_of_getElem? (i := wps (zbb f11 c) (wat S.2) S.2.length) (by rw [List.getElem?_take_of_lt q]; exact hg))
          unfold wbf at h2 h3
          omega
        · exact q
      unfold win
      generalize wps (zbb f11 c) (wat S.2) S.2.length = p at hle hkp
      have hlt : (S.2.take p).length = p := by rw [List.length_take]; omega
      have h0 := List.take_append_drop p S.2
      have e3 : S.2.drop k = (S.2.take p).drop k ++ S.2.drop p := by
        conv => lhs; rw [← h0]
        rw [List.drop_append_of_le_length (by omega)]
      rw [List.drop_append_of_le_length (by omega), wsl_perm, ← e3, wsl_up (fun z => hnc (List.mem_of_mem_drop z)), zup_s]
      omega
  · have e2 : (wpr f11 c v S).2 = S.2 := by unfold wpr; rw [if_neg hq]
    have e1 : (wpr f11 c v S).1 = va_up S.1 c (S.1 c + v) := rfl
    refine ⟨⟨hwf2, by rw [e2]; exact hpw, by rw [e2]; exact hin, ?_, by rw [e2]; exact hk⟩, by rw [e2], ?_⟩
    · rw [e2, e1]
      intro x hx
      by_cases e : x = c
      · subst e
        rw [zup_s]
        have := hz x hx
        omega
      · rw [zup_n e]; exact hz x hx
    · rw [e2, e1]
      exact wsl_up1 (List.Nodup.sublist (List.drop_sublist _ _) hwf.1)
theorem wgo_ok {H : Nat → Nat} {w h k : Nat} {f11 : Nat → Int32} (hf : ∀ e, e < 120 → f11 e = nI (H e) ∧ H e ≤ 200) {nb gv : Nat → Nat} : ∀ {ds : List Nat} {S : wST}, wok H w h k S → (∀ d ∈ ds, nb d < 120 ∧ wil w h (nb d) ∧ ∀ x ∈ S.2.take k, wbf H x (nb d)) →
    wok H w h k (wgo f11 nb gv ds S) ∧ (wgo f11 nb gv ds S).2.take k = S.2.take k ∧ wsl (wgo f11 nb gv ds S).1 ((wgo f11 nb gv ds S).2.drop k) ≤ wsl S.1 (S.2.drop k) + wsl gv ds
  | [], S, h, _ => ⟨h, rfl, by simp [wsl, wgo]⟩
  | d :: ds, S, h, hd => by
    obtain ⟨a1, a2, a3⟩ := hd d List.mem_cons_self
    obtain ⟨b1, b2, b3⟩ := wpr_ok (v := gv d) hf h a1 a2 a3
    obtain ⟨c1, c2, c3⟩ := wgo_ok hf (nb := nb) (gv := gv) (ds := ds) b1 (fun d' hd' => by rw [b2]; exact hd d' (List.mem_cons_of_mem _ hd'))
    refine ⟨c1, c2.trans b2, ?_⟩
    rw [wsl_cons]
    show wsl (wgo f11 nb gv ds (wpr f11 (nb d) (gv d) S)).1 _ ≤ _
    have c3' : wsl (wgo f11 nb gv ds (wpr f11 (nb d) (gv d) S)).1 ((wgo f11 nb gv ds (wpr f11 (nb d) (gv d) S)).2.drop k) ≤ wsl (wpr f11 (nb d) (gv d) S).1 ((wpr f11 (nb d) (gv d) S).2.drop k) + wsl gv ds := c3
    show wsl (wgo f11 nb gv ds (wpr f11 (nb d) (gv d) S)).1 ((wgo f11 nb gv ds (wpr f11 (nb d) (gv d) S)).2.drop k) ≤ _
    omega
/-- what a cell has behind the pours -/
theorem wgo_val {f11 : Nat → Int32} {nb gv : Nat → Nat} : ∀ {ds : List Nat} {S : wST} {x : Nat}, (wgo f11 nb gv ds S).1 x = S.1 x + wsl (fun d => if nb d = x then gv d else 0) ds
  | [], S, x => by simp [wsl, wgo]
  | d :: ds, S, x => by
    have ih := wgo_val (f11 := f11) (nb := nb) (gv := gv) (ds := ds) (S := wpr f11 (nb d) (gv d) S) (x := x)
    show (wgo f11 nb gv ds (wpr f11 (nb d) (gv d) S)).1 x = _
    rw [ih, wsl_cons]
    show va_up S.1 (nb d) (S.1 (nb d) + gv d) x + _ = _
    rw [zup_at]
    by_cases e : x = nb d
    · rw [if_pos e, if_pos e.symm, e]
      omega
    · rw [if_neg e, if_neg (fun q => e q.symm)]
      omega
theorem wds_sl (r g : Nat → Nat) : ∀ m, wsl g (wds r m) = wsm (fun d => if wpo r d = true then g d else 0) m
  | 0 => rfl
  | m + 1 => by
    rw [wds_s, wsl_app, wds_sl r g m]
    show _ = wsm _ m + if wpo r m = true then g m else 0
    by_cases hp : wpo r m = true
    · rw [if_pos hp, if_pos hp]; simp [wsl]
    · rw [if_neg hp, if_neg hp]; simp [wsl]
