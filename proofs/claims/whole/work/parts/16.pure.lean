/-! PURE WORDS: counts, sums -/
def wct (p : Nat → Bool) : Nat → Nat
  | 0 => 0
  | n + 1 => wct p n + (if p n = true then 1 else 0)
def wsm (g : Nat → Nat) : Nat → Nat
  | 0 => 0
  | n + 1 => wsm g n + g n
theorem wct_le (p : Nat → Bool) : ∀ n, wct p n ≤ n
  | 0 => Nat.le_refl _
  | n + 1 => by
    have := wct_le p n
    unfold wct
    split <;> omega
theorem wct_mono {p q : Nat → Bool} : ∀ {n : Nat}, (∀ i, i < n → p i = true → q i = true) → wct p n ≤ wct q n
  | 0, _ => Nat.le_refl _
  | n + 1, h => by
    have ih := wct_mono (p := p) (q := q) (n := n) (fun i hi => h i (by omega))
    have := h n (by omega)
    unfold wct
    split
    · next hp => rw [if_pos (this hp)]; omega
    · omega
theorem wct_strict {p q : Nat → Bool} : ∀ {n : Nat}, (∀ i, i < n → p i = true → q i = true) → ∀ {j : Nat}, j < n → p j = false → q j = true → wct p n < wct q n
  | 0, _, j, hj, _, _ => absurd hj (Nat.not_lt_zero _)
  | n + 1, h, j, hj, h1, h2 => by
    have hm := wct_mono (p := p) (q := q) (n := n) (fun i hi => h i (by omega))
    unfold wct
    by_cases e : j = n
    · subst e
      rw [h1, h2]
      simp
      omega
    · have ih := wct_strict (p := p) (q := q) (n := n) (fun i hi => h i (by omega)) (j := j) (by omega) h1 h2
      have := h n (by omega)
      split
      · next hp => rw [if_pos (this hp)]; omega
      · omega
theorem wct_congr {p q : Nat → Bool} {n : Nat} (h : ∀ i, i < n → p i = q i) : wct p n = wct q n := Nat.le_antisymm (wct_mono fun i hi hp => by rw [← h i hi]; exact hp) (wct_mono fun i hi hp => by rw [h i hi]; exact hp)
theorem wct_all {p : Nat → Bool} : ∀ {n : Nat}, (∀ i, i < n → p i = true) → wct p n = n
  | 0, _ => rfl
  | n + 1, h => by
    unfold wct
    rw [wct_all (n := n) (fun i hi => h i (by omega)), if_pos (h n (by omega))]
theorem wct_ex {p : Nat → Bool} {n : Nat} (h : wct p n < n) : ∃ i, i < n ∧ p i = false := by
  rcases Classical.em (∃ i, i < n ∧ p i = false) with q | q
  · exact q
  · have := wct_all (p := p) (n := n) (fun i hi => by
      cases hp : p i with
      | true => rfl
      | false => exact absurd ⟨i, hi, hp⟩ q)
    omega
/-- one more is picked -/
theorem wct_up {p q : Nat → Bool} : ∀ {n g : Nat}, g < n → p g = false → (∀ i, i < n → q i = (if i = g then true else p i)) → wct q n = wct p n + 1
  | 0, g, hg, _, _ => absurd hg (Nat.not_lt_zero _)
  | n + 1, g, hg, hp, h => by
    unfold wct
    by_cases e : g = n
    · subst e
      have e1 : wct q g = wct p g := wct_congr fun i hi => by rw [h i (by omega), if_neg (by omega)]
      rw [e1, h g (by omega), if_pos rfl, hp]
      simp
    · have ih := wct_up (p := p) (q := q) (n := n) (g := g) (by omega) hp (fun i hi => h i (by omega))
      have e2 : q n = p n := by rw [h n (by omega), if_neg (fun z => e z.symm)]
      rw [ih, e2]
      omega
theorem wsm_congr {f g : Nat → Nat} : ∀ {n : Nat}, (∀ i, i < n → f i = g i) → wsm f n = wsm g n
  | 0, _ => rfl
  | n + 1, h => by
    unfold wsm
    rw [wsm_congr (n := n) (fun i hi => h i (by omega)), h n (by omega)]
theorem wsm_le {f g : Nat → Nat} : ∀ {n : Nat}, (∀ i, i < n → f i ≤ g i) → wsm f n ≤ wsm g n
  | 0, _ => Nat.le_refl _
  | n + 1, h => by
    have := wsm_le (f := f) (g := g) (n := n) (fun i hi => h i (by omega))
    have := h n (by omega)
    unfold wsm
    omega
theorem wsm_mem {f : Nat → Nat} : ∀ {n i : Nat}, i < n → f i ≤ wsm f n
  | 0, i, h => absurd h (Nat.not_lt_zero _)
  | n + 1, i, h => by
    unfold wsm
    by_cases e : i = n
    · subst e; omega
    · have := wsm_mem (f := f) (n := n) (i := i) (by omega)
      omega
theorem wsm_add {f g : Nat → Nat} : ∀ {n : Nat}, wsm (fun i => f i + g i) n = wsm f n + wsm g n
  | 0 => rfl
  | n + 1 => by
    unfold wsm
    rw [wsm_add (n := n)]
    omega
theorem wsm_mul {f : Nat → Nat} {c : Nat} : ∀ {n : Nat}, wsm (fun i => c * f i) n = c * wsm f n
  | 0 => rfl
  | n + 1 => by
    unfold wsm
    rw [wsm_mul (n := n), Nat.mul_add]
theorem wsm_const {c : Nat} : ∀ {n : Nat}, wsm (fun _ => c) n = n * c
  | 0 => by simp [wsm]
  | n + 1 => by
    unfold wsm
    rw [wsm_const (n := n), Nat.succ_mul]
/-- what division leaves of a sum: less than one for each part -/
theorem wsm_div {f : Nat → Nat} {c : Nat} {n : Nat} {D : Nat} (hD : 0 < D) : D * wsm (fun i => c * f i / D) n + wsm (fun i => c * f i % D) n = c * wsm f n := by
  rw [← wsm_mul, ← wsm_mul, ← wsm_add]
  exact wsm_congr fun i _ => Nat.div_add_mod _ _
theorem wsm_mod {f : Nat → Nat} {D : Nat} (hD : 0 < D) : ∀ {n : Nat}, 0 < n → wsm (fun i => f i % D) n < n * D
  | 0, h => absurd h (Nat.lt_irrefl _)
  | n + 1, _ => by
    unfold wsm
    have h1 := Nat.mod_lt (f n) hD
    rcases Nat.eq_zero_or_pos n with e | e
    · subst e
      simp only [wsm]
      omega
    · have := wsm_mod (f := f) hD (n := n) e
      rw [Nat.succ_mul]
      omega
/-- the share by drops: fewer are left over than there are ways -/
theorem wsm_left {r : Nat → Nat} {f n : Nat} (hn : 0 < n) (hD : 0 < wsm r n) : wsm (fun i => f * r i / wsm r n) n ≤ f ∧ f - wsm (fun i => f * r i / wsm r n) n < n := by
  have h1 := wsm_div (f := r) (c := f) (n := n) hD
  have h2 := wsm_mod (f := fun i => f * r i) hD hn
  generalize wsm r n = D at *
  generalize wsm (fun i => f * r i / D) n = B at *
  generalize wsm (fun i => f * r i % D) n = E at *
  have h3 : D * B ≤ D * f := by
    rw [Nat.mul_comm D f]
    omega
  have h4 : B ≤ f := Nat.le_of_mul_le_mul_left h3 hD
  refine ⟨h4, ?_⟩
  rcases Nat.lt_or_ge (f - B) n with q | q
  · exact q
  · have h5 : n * D ≤ (f - B) * D := Nat.mul_le_mul_right D q
    have h6 : (f - B) * D + B * D = f * D := by rw [← Nat.add_mul, Nat.sub_add_cancel h4]
    rw [Nat.mul_comm B D] at h6
    omega
