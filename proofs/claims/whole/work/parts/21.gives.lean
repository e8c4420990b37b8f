/-! PURE: what a cell gives to its sides -/
def wfg (g : Nat → Nat) : Nat → Nat
  | 0 => 0
  | n + 1 => if n = 0 then 0 else if g (wfg g n) < g n then n else wfg g n
theorem wfg_le (g : Nat → Nat) : ∀ n, wfg g n ≤ n - 1
  | 0 => Nat.le_refl _
  | n + 1 => by
    have := wfg_le g n
    unfold wfg
    split
    · omega
    · split <;> omega
theorem wfg_max (f : Nat → Nat) : ∀ n i, i < n → f i ≤ f (wfg f n) ∧ (i < wfg f n → f i < f (wfg f n))
  | 0, i, h => absurd h (Nat.not_lt_zero _)
  | n + 1, i, h => by
    unfold wfg
    by_cases e : n = 0
    · subst e
      have : i = 0 := by omega
      subst this
      simp
    · rw [if_neg e]
      have hl := wfg_le f n
      by_cases hq : f (wfg f n) < f n
      · rw [if_pos hq]
        by_cases ei : i = n
        · subst ei; simp
        · have := (wfg_max f n i (by omega)).1
          exact ⟨by omega, fun _ => by omega⟩
      · rw [if_neg hq]
        by_cases ei : i = n
        · subst ei
          exact ⟨by omega, fun z => by omega⟩
        · exact wfg_max f n i (by omega)
theorem wfg_uniq {g : Nat → Nat} {n d : Nat} (hd : d < n) (h1 : ∀ j, j < n → g j ≤ g d) (h2 : ∀ j, j < d → g j < g d) : wfg g n = d := by
  have hl := wfg_le g n
  have h3 := wfg_max g n d hd
  have h4 := h1 (wfg g n) (by omega)
  rcases Nat.lt_trichotomy (wfg g n) d with q | q | q
  · have := h2 _ q
    omega
  · exact q
  · have := h3.2 q
    omega
def wgv (sort f : Nat) (r : Nat → Nat) (d : Nat) : Nat :=
  if r d = 0 then 0 else if sort = 0 then (if d = wfg r 4 then f else 0)
  else if sort = 1 then f / wct (wpo r) 4 + (if wct (wpo r) d < f % wct (wpo r) 4 then 1 else 0)
  else f * r d / wsm r 4 + (if wct (fun o => wpo r o && wah (fun j => f * r j % wsm r 4) d o) 4 < f - wsm (fun j => f * r j / wsm r 4) 4 then 1 else 0)
theorem wat_l {a b : List Nat} {i : Nat} (h : i < a.length) : wat (a ++ b) i = wat a i := by
  have h1 := wat_get h
  have h2 : (a ++ b)[i]? = some (wat a i) := by rw [List.getElem?_append_left h]; exact h1
  exact (wat_of h2).2
theorem wat_r {a : List Nat} {x : Nat} : wat (a ++ [x]) a.length = x := by
  have h2 : (a ++ [x])[a.length]? = some x := by rw [List.getElem?_append_right (Nat.le_refl _), Nat.sub_self]; rfl
  exact (wat_of h2).2
theorem wds_sum (r g : Nat → Nat) : ∀ m, wsm (fun i => g (wat (wds r m) i)) (wct (wpo r) m) = wsm (fun d => if wpo r d = true then g d else 0) m
  | 0 => rfl
  | m + 1 => by
    have ih := wds_sum r g m
    have hl := wds_len r m
    show wsm _ (wct (wpo r) m + if wpo r m = true then 1 else 0) = wsm _ m + if wpo r m = true then g m else 0
    rw [← ih]
    by_cases hp : wpo r m = true
    · rw [if_pos hp, if_pos hp]
      show wsm _ (wct (wpo r) m) + _ = _
      have e1 : wsm (fun i => g (wat (wds r (m + 1)) i)) (wct (wpo r) m) = wsm (fun i => g (wat (wds r m) i)) (wct (wpo r) m) := wsm_congr fun i hi => by
        rw [wds_s, wat_l (by omega)]
      rw [e1]
      dsimp only
      rw [wds_s, if_pos hp, ← hl, wat_r]
    · rw [if_neg hp, if_neg hp, Nat.add_zero, Nat.add_zero]
      refine wsm_congr fun i hi => ?_
      rw [wds_s, if_neg hp, List.append_nil]
theorem wds_cnt (r : Nat → Nat) (p : Nat → Bool) : ∀ m, wct (fun i => p (wat (wds r m) i)) (wct (wpo r) m) = wct (fun d => wpo r d && p d) m
  | 0 => rfl
  | m + 1 => by
    have ih := wds_cnt r p m
    have hl := wds_len r m
    show wct _ (wct (wpo r) m + if wpo r m = true then 1 else 0) = wct _ m + if (wpo r m && p m) = true then 1 else 0
    rw [← ih]
    by_cases hp : wpo r m = true
    · rw [if_pos hp, hp, Bool.true_and]
      show wct _ (wct (wpo r) m) + _ = _
      have e1 : wct (fun i => p (wat (wds r (m + 1)) i)) (wct (wpo r) m) = wct (fun i => p (wat (wds r m) i)) (wct (wpo r) m) := wct_congr fun i hi => by
        rw [wds_s, wat_l (by omega)]
      rw [e1]
      have e2 : wat (wds r (m + 1)) (wct (wpo r) m) = m := by rw [wds_s, if_pos hp, ← hl, wat_r]
      simp only [e2]
    · have hp' : wpo r m = false := by
        cases hq : wpo r m with
        | false => rfl
        | true => exact absurd hq hp
      rw [if_neg hp, hp', Bool.false_and, Nat.add_zero]
      simp only [Bool.false_eq_true, if_false, Nat.add_zero]
      refine wct_congr fun i hi => ?_
      rw [wds_s, if_neg hp, List.append_nil]
theorem wpo_t {r : Nat → Nat} {d : Nat} : wpo r d = true ↔ 0 < r d := by simp [wpo]
theorem wds_ord {r : Nat → Nat} {m i k a b : Nat} (hi : (wds r m)[i]? = some a) (hk : (wds r m)[k]? = some b) : (k < i ↔ b < a) := by
  obtain ⟨a1, a2, a3⟩ := wds_get r m i a hi
  obtain ⟨b1, b2, b3⟩ := wds_get r m k b hk
  constructor
  · intro h
    rcases Nat.lt_trichotomy a b with q | q | q
    · have := wct_lt q a2
      omega
    · subst q; omega
    · exact q
  · intro h
    have := wct_lt h b2
    omega
/-- the class's three shares are the document's -/
theorem wshare0 {r : Nat → Nat} {row : Nat → Int32} {f i d : Nat} (hr : ∀ d, d < 4 → r d ≤ 200) (hrow : ∀ j e, (wds r 4)[j]? = some e → row j = nI (r e)) (hi : (wds r 4)[i]? = some d) : (if i = zfg row (wct (wpo r) 4) then f else 0) = wgv 0 f r d := by
  obtain ⟨d1, d2, d3⟩ := wds_get r 4 i d hi
  have hd0 := wpo_t.mp d2
  have hn : i < wct (wpo r) 4 := by
    have := (List.getElem?_eq_some_iff.mp hi).1
    rw [wds_len] at this
    exact this
  have hle := zfg_le row (wct (wpo r) 4)
  have hmx := zfg_max row (wct (wpo r) 4)
  generalize hz : zfg row (wct (wpo r) 4) = i0 at hle hmx ⊢
  have hi0 : i0 < (wds r 4).length := by rw [wds_len]; omega
  have hg0 := wat_get hi0
  obtain ⟨g1, g2, g3⟩ := wds_get r 4 i0 _ hg0
  generalize wat (wds r 4) i0 = d0 at hg0 g1 g2 g3
  have hg2 := wpo_t.mp g2
  have hw : wfg r 4 = d0 := by
    refine wfg_uniq g1 (fun j hj => ?_) (fun j hj => ?_)
    · by_cases hp : wpo r j = true
      · have hj' := wds_at r hj hp
        have hjl : wct (wpo r) j < wct (wpo r) 4 := by
          have := (List.getElem?_eq_some_iff.mp hj').1
          rw [wds_len] at this
          exact this
        have := (hmx _ hjl).1
        rw [hrow _ _ hj', hrow _ _ hg0, nI_leI (by have := hr j hj; omega) (by have := hr d0 g1; omega)] at this
        exact this
      · have : ¬ 0 < r j := fun z => hp (wpo_t.mpr z)
        omega
    · by_cases hp : wpo r j = true
      · have hj' := wds_at r (m := 4) (by omega) hp
        have hjl : wct (wpo r) j < wct (wpo r) 4 := by
          have := (List.getElem?_eq_some_iff.mp hj').1
          rw [wds_len] at this
          exact this
        have hlt := (wds_ord hg0 hj').mpr hj
        have := (hmx _ hjl).2 hlt
        rw [hrow _ _ hj', hrow _ _ hg0, nI_ltI (by have := hr j (by omega); omega) (by have := hr d0 g1; omega)] at this
        exact this
      · have : ¬ 0 < r j := fun z => hp (wpo_t.mpr z)
        omega
  have hr0 : ¬ r d = 0 := by omega
  unfold wgv
  rw [if_neg hr0, if_pos (rfl : 0 = 0), hw]
  by_cases e : i = i0
  · subst e
    rw [hi] at hg0
    cases hg0
    rw [if_pos rfl, if_pos rfl]
  · rw [if_neg e, if_neg]
    intro q
    subst q
    exact e (d3.trans g3.symm)
theorem wshare1 {r : Nat → Nat} {f i d : Nat} (hi : (wds r 4)[i]? = some d) : f / wct (wpo r) 4 + (if i < f % wct (wpo r) 4 then 1 else 0) = wgv 1 f r d := by
  obtain ⟨d1, d2, d3⟩ := wds_get r 4 i d hi
  have hd0 := wpo_t.mp d2
  have hr0 : ¬ r d = 0 := by omega
  unfold wgv
  rw [if_neg hr0, if_neg (by decide : ¬ 1 = 0), if_pos (rfl : 1 = 1), d3]
theorem wif_po {r g : Nat → Nat} (hg : ∀ d, r d = 0 → g d = 0) : (fun d => if wpo r d = true then g d else 0) = g := by
  funext d
  by_cases hp : wpo r d = true
  · rw [if_pos hp]
  · rw [if_neg hp, hg d]
    have : ¬ 0 < r d := fun z => hp (wpo_t.mpr z)
    omega
theorem wshare2 {r : Nat → Nat} {f i d : Nat} (hi : (wds r 4)[i]? = some d) : wsd (fun i => r (wat (wds r 4) i)) (wct (wpo r) 4) f i = wgv 2 f r d := by
  obtain ⟨d1, d2, d3⟩ := wds_get r 4 i d hi
  have hd0 := wpo_t.mp d2
  have hwi : wat (wds r 4) i = d := (wat_of hi).2
  have hr0 : ¬ r d = 0 := by omega
  unfold wgv wsd
  rw [if_neg hr0, if_neg (by decide : ¬ 2 = 0), if_neg (by decide : ¬ 2 = 1)]
  have e1 : wsm (fun i => r (wat (wds r 4) i)) (wct (wpo r) 4) = wsm r 4 := by
    rw [wds_sum r r 4, wif_po (fun d h => h)]
  rw [e1]
  have e2 : wsm (fun j => f * r (wat (wds r 4) j) / wsm r 4) (wct (wpo r) 4) = wsm (fun j => f * r j / wsm r 4) 4 := by
    rw [wds_sum r (fun d => f * r d / wsm r 4) 4, wif_po (fun d h => by rw [h, Nat.mul_zero, Nat.zero_div])]
  have e3 : wct (wah (fun j => f * r (wat (wds r 4) j) % wsm r 4) i) (wct (wpo r) 4) = wct (fun o => wpo r o && wah (fun j => f * r j % wsm r 4) d o) 4 := by
    rw [← wds_cnt r (fun o => wah (fun j => f * r j % wsm r 4) d o) 4]
    refine wct_congr fun k hk => ?_
    have hk' : k < (wds r 4).length := by rw [wds_len]; exact hk
    have ho := wds_ord hi (wat_get hk')
    unfold wah
    simp only [hwi, ho]
  rw [e2, e3]
  dsimp only
  rw [hwi]
theorem wgv_le {sort f : Nat} {r : Nat → Nat} {d : Nat} (hd : d < 4) : wgv sort f r d ≤ f + 1 := by
  unfold wgv
  split
  · omega
  · split
    · split <;> omega
    · split
      · have := Nat.div_le_self f (wct (wpo r) 4)
        split <;> omega
      · have h1 : f * r d / wsm r 4 ≤ f := by
          have hm := wsm_mem (f := r) hd
          rcases Nat.eq_zero_or_pos (wsm r 4) with q | q
          · rw [q, Nat.div_zero]; omega
          · refine Nat.div_le_of_le_mul ?_
            rw [Nat.mul_comm]
            exact Nat.mul_le_mul_right f hm
        split <;> omega
/-! pouring -/
abbrev wST : Type := (Nat → Nat) × List Nat
def wpr (f11 : Nat → Int32) (c f : Nat) (S : wST) : wST := (va_up S.1 c (S.1 c + f), if 0 < f ∧ S.1 c = 0 then win (zbb f11 c) c S.2 else S.2)
def wwf (S : wST) : Prop := S.2.Nodup ∧ (∀ x ∈ S.2, x < 120) ∧ ∀ x, x < 120 → (x ∈ S.2 ↔ 0 < S.1 x)
theorem wnd : ∀ (n : Nat) (L : List Nat), L.Nodup → (∀ x ∈ L, x < n) → L.length ≤ n
  | 0, L, _, h => by
    cases L with
    | nil => exact Nat.le_refl _
    | cons a l => exact absurd (h a List.mem_cons_self) (Nat.not_lt_zero _)
  | n + 1, L, hn, h => by
    by_cases hm : n ∈ L
    · have ih := wnd n (L.erase n) (hn.erase n) (fun x hx => by
        have h1 := h x (List.mem_of_mem_erase hx)
        have h2 : x ≠ n := (hn.mem_erase_iff.mp hx).1
        omega)
      rw [List.length_erase_of_mem hm] at ih
      omega
    · have ih := wnd n L hn (fun x hx => by
        have h1 := h x hx
        have h2 : x ≠ n := fun e => hm (e ▸ hx)
        omega)
      omega
theorem wwf_room {S : wST} (h : wwf S) {c : Nat} (hc : c < 120) (h0 : S.1 c = 0) : S.2.length < 120 := by
  have hnc : c ∉ S.2 := fun z => by
    have := (h.2.2 c hc).mp z
    omega
  have := wnd 120 (c :: S.2) (List.nodup_cons.mpr ⟨hnc, h.1⟩) (fun x hx => (List.mem_cons.mp hx).elim (fun e => by omega) (h.2.1 x))
  simp at this
  omega
theorem win_nd {b : Nat → Bool} {c : Nat} {L : List Nat} (hn : L.Nodup) (hc : c ∉ L) : (win b c L).Nodup := by
  unfold win
  have h0 := List.take_append_drop (wps b (wat L) L.length) L
  rw [← h0] at hn hc
  rw [List.nodup_append] at hn ⊢
  obtain ⟨n1, n2, n3⟩ := hn
  rw [List.mem_append] at hc
  refine ⟨n1, List.nodup_cons.mpr ⟨fun z => hc (Or.inr z), n2⟩, fun x hx y hy => ?_⟩
  rcases List.mem_cons.mp hy with rfl | hy
  · exact fun e => hc (Or.inl (e ▸ hx))
  · exact n3 x hx y hy
theorem wpr_wf {f11 : Nat → Int32} {c f : Nat} {S : wST} (h : wwf S) (hc : c < 120) : wwf (wpr f11 c f S) := by
  unfold wpr
  by_cases hq : 0 < f ∧ S.1 c = 0
  · rw [if_pos hq]
    have hnc : c ∉ S.2 := fun z => by
      have := (h.2.2 c hc).mp z
      omega
    refine ⟨win_nd h.1 hnc, fun x hx => ?_, fun x hx => ?_⟩
    · rcases win_mem.mp hx with rfl | hx
      · exact hc
      · exact h.2.1 x hx
    · dsimp only
      rw [win_mem, zup_at]
      by_cases e : x = c
      · subst e
        rw [if_pos rfl]
        constructor
        · intro _; omega
        · intro _; exact Or.inl rfl
      · rw [if_neg e, ← h.2.2 x hx]
        constructor
        · rintro (z | z)
          · exact absurd z e
          · exact z
        · exact Or.inr
  · rw [if_neg hq]
    refine ⟨h.1, h.2.1, fun x hx => ?_⟩
    dsimp only
    rw [zup_at]
    by_cases e : x = c
    · subst e
      rw [if_pos rfl, h.2.2 x hx]
      omega
    · rw [if_neg e]
      exact h.2.2 x hx
def wgo (f11 : Nat → Int32) (nb gv : Nat → Nat) (ds : List Nat) (S : wST) : wST := ds.foldl (fun S d => wpr f11 (nb d) (gv d) S) S
theorem wgo_wf {f11 : Nat → Int32} {nb gv : Nat → Nat} : ∀ {ds : List Nat} {S : wST}, wwf S → (∀ d ∈ ds, nb d < 120) → wwf (wgo f11 nb gv ds S)
  | [], S, h, _ => h
  | d :: ds, S, h, hb => wgo_wf (ds := ds) (wpr_wf h (hb d List.mem_cons_self)) (fun d' hd' => hb d' (List.mem_cons_of_mem _ hd'))
theorem wgo_bd {f11 : Nat → Int32} {nb gv : Nat → Nat} {B : Nat} : ∀ {ds : List Nat} {S : wST}, (∀ d ∈ ds, gv d ≤ B) → ∀ e, (wgo f11 nb gv ds S).1 e ≤ S.1 e + ds.length * B
  | [], S, _, e => by simp [wgo]
  | d :: ds, S, hb, e => by
    have ih := wgo_bd (f11 := f11) (nb := nb) (gv := gv) (ds := ds) (S := wpr f11 (nb d) (gv d) S) (fun d' hd' => hb d' (List.mem_cons_of_mem _ hd')) e
    have h1 : (wpr f11 (nb d) (gv d) S).1 e ≤ S.1 e + B := by
      show va_up S.1 (nb d) (S.1 (nb d) + gv d) e ≤ _
      rw [zup_at]
      have := hb d List.mem_cons_self
      split
      · next q => rw [q]; omega
      · omega
    show (wgo f11 nb gv ds (wpr f11 (nb d) (gv d) S)).1 e ≤ _
    rw [List.length_cons, Nat.succ_mul]
    omega
