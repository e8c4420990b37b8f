theorem lM_add (a b : Nat) : lN a + lN b = lN (a + b) := (Int64.ofNat_add a b).symm
theorem lM_mul (a b : Nat) : lN a * lN b = lN (a * b) := (Int64.ofNat_mul a b).symm
theorem lM_sub {a b : Nat} (h : b ≤ a) : lN a - lN b = lN (a - b) := by
  obtain ⟨c, rfl⟩ : ∃ c, a = c + b := ⟨a - b, by omega⟩
  rw [← lM_add, Nat.add_sub_cancel]
  exact Int64.add_sub_cancel _ _
theorem lM_toInt {n : Nat} (h : n < 2 ^ 63) : (lN n).toInt = n := Int64.toInt_ofNat_of_lt h
theorem lM_le {a b : Nat} (ha : a < 2 ^ 63) (hb : b < 2 ^ 63) : lN a ≤ lN b ↔ a ≤ b := by
  rw [Int64.le_iff_toInt_le, lM_toInt ha, lM_toInt hb]
  omega
theorem lM_inj {a b : Nat} (ha : a < 2 ^ 63) (hb : b < 2 ^ 63) : lN a = lN b ↔ a = b := by
  constructor
  · intro h
    have := congrArg Int64.toInt h
    rw [lM_toInt ha, lM_toInt hb] at this
    omega
  · intro h; rw [h]
theorem lM_m1 {a : Nat} (ha : a < 2 ^ 63) : ¬ lN a = -1 := fun h => by
  have := congrArg Int64.toInt h
  rw [lM_toInt ha] at this
  have e : (-1 : Int64).toInt = -1 := by decide
  omega
theorem lM_i {a : Nat} (ha : a < 2 ^ 31) : (lN a).toInt32 = nI a := by
  rw [← nI_l ha]
  exact Int32.toInt32_toInt64 _
/-! tokens -/
theorem ltr_dgt {b : Nat} (h : ltr b = true) : dgt b = false := by
  unfold ltr at h
  unfold dgt
  simp only [decide_eq_true_eq] at h
  simp only [decide_eq_false_iff_not]
  omega
theorem dgt_ltr {b : Nat} (h : dgt b = true) : ltr b = false := by
  unfold dgt at h
  unfold ltr
  simp only [decide_eq_true_eq] at h
  simp only [decide_eq_false_iff_not]
  omega
theorem wrun_u {p : Nat → Bool} : ∀ {k i j : Nat}, i ≤ j → j ≤ i + k → (∀ m, i ≤ m → m < j → p m = true) → (j = i + k ∨ p j = false) → wrun p k i = j
  | 0, i, j, h1, h2, _, _ => by
    show i = j
    omega
  | k + 1, i, j, h1, h2, h3, h4 => by
    show (if p i = true then wrun p k (i + 1) else i) = j
    by_cases e : i = j
    · subst e
      rcases h4 with h4 | h4
      · omega
      · rw [if_neg (by rw [h4]; decide)]
    · rw [if_pos (h3 i (Nat.le_refl _) (by omega))]
      exact wrun_u (by omega) (by omega) (fun m z1 z2 => h3 m (by omega) z2) (h4.elim (fun z => Or.inl (by omega)) Or.inr)
theorem wq_l {tp : List Nat} {a i : Nat} (h : ltr (bt tp a) = true) : wq tp a i = ltr (bt tp i) := by
  unfold wq
  rw [h, ltr_dgt h]
  simp
theorem wq_d {tp : List Nat} {a i : Nat} (h : dgt (bt tp a) = true) : wq tp a i = dgt (bt tp i) := by
  unfold wq
  rw [h, dgt_ltr h]
  simp
theorem wq_s {tp : List Nat} {a i : Nat} (h : ltr (bt tp a) = false) (h' : dgt (bt tp a) = false) : wq tp a i = false := by
  unfold wq
  rw [h, h']
  simp
/-- the end of a token -/
theorem wte_u {tp : List Nat} {a j : Nat} {q : Nat → Bool} (ha : a < tp.length) (hq : ∀ i, wq tp a i = q i) (h1 : a < j) (h2 : j ≤ tp.length) (h3 : ∀ m, a < m → m < j → q m = true) (h4 : j = tp.length ∨ q j = false) : wte tp a = j := by
  unfold wte
  rw [if_neg (by omega)]
  refine wrun_u (by omega) (by omega) (fun m z1 z2 => by rw [hq]; exact h3 m (by omega) z2) ?_
  rcases h4 with h4 | h4
  · left; omega
  · right; rw [hq]; exact h4
theorem wte_let {tp : List Nat} {a i : Nat} (ha : a < tp.length) (hd : ltr (bt tp a) = true) (h1 : a ≤ i) (h2 : i < wte tp a) : ltr (bt tp i) = true := by
  by_cases e : i = a
  · rw [e]; exact hd
  · unfold wte at h2
    rw [if_neg (by omega)] at h2
    have := wrun_all _ _ i (by omega) h2
    rw [wq_l hd] at this
    exact this
theorem wte_sign {tp : List Nat} {a : Nat} (ha : a < tp.length) (h : ltr (bt tp a) = false) (h' : dgt (bt tp a) = false) : wte tp a = a + 1 := wte_u (q := fun _ => false) ha (fun i => wq_s h h') (by omega) (by omega) (fun m z1 z2 => by omega) (Or.inr rfl)
/-- the worth of the known words -/
def zwV (i : Nat) : Nat := Nat.rec (motive := fun _ => Nat) 0 (fun j v => 32 * v + (zwc i j - 96)) (zwl' i)
theorem zw_ok : ∀ i, i < 7 → 2 ≤ zwl' i ∧ zwl' i ≤ 6 ∧ zwV i < 2 ^ 40 ∧ ∀ n, n < zwl' i → 97 ≤ zwc i n ∧ zwc i n ≤ 122 := by decide +kernel
theorem ltr_b {b : Nat} (h : ltr b = true) : 97 ≤ b ∧ b ≤ 122 := by
  unfold ltr at h
  simpa using h
theorem dgt_b {b : Nat} (h : dgt b = true) : 48 ≤ b ∧ b ≤ 57 := by
  unfold dgt at h
  simpa using h
theorem msr_1 {tp : List Nat} {a : Nat} : msr tp a = 1 ↔ a < tp.length ∧ ltr (bt tp a) = true := by
  unfold msr
  by_cases q : tp.length ≤ a
  · rw [if_pos q]; omega
  · rw [if_neg q]
    by_cases q2 : ltr (bt tp a) = true
    · rw [if_pos q2]; exact ⟨fun _ => ⟨by omega, q2⟩, fun _ => rfl⟩
    · rw [if_neg q2]
      refine ⟨fun z => ?_, fun z => absurd z.2 q2⟩
      split at z <;> omega
theorem msr_2 {tp : List Nat} {a : Nat} : msr tp a = 2 ↔ a < tp.length ∧ dgt (bt tp a) = true := by
  unfold msr
  by_cases q : tp.length ≤ a
  · rw [if_pos q]; omega
  · rw [if_neg q]
    by_cases q2 : ltr (bt tp a) = true
    · rw [if_pos q2]; exact ⟨fun z => by omega, fun z => by rw [ltr_dgt q2] at z; cases z.2⟩
    · rw [if_neg q2]
      by_cases q3 : dgt (bt tp a) = true
      · rw [if_pos q3]; exact ⟨fun _ => ⟨by omega, q3⟩, fun _ => rfl⟩
      · rw [if_neg q3]; exact ⟨fun z => by omega, fun z => absurd z.2 q3⟩
theorem msr_0 {tp : List Nat} {a : Nat} : msr tp a = 0 ↔ tp.length ≤ a := by
  unfold msr
  by_cases q : tp.length ≤ a
  · rw [if_pos q]; exact ⟨fun _ => q, fun _ => rfl⟩
  · rw [if_neg q]
    refine ⟨fun z => ?_, fun z => absurd z q⟩
    split at z
    · omega
    · split at z <;> omega
theorem msr_3 {tp : List Nat} {a : Nat} : msr tp a = 3 ↔ a < tp.length ∧ ltr (bt tp a) = false ∧ dgt (bt tp a) = false := by
  unfold msr
  by_cases q : tp.length ≤ a
  · rw [if_pos q]; omega
  · rw [if_neg q]
    cases q2 : ltr (bt tp a) with
    | true => rw [if_pos rfl]; exact ⟨fun z => by omega, fun z => by cases z.2.1⟩
    | false =>
      rw [if_neg (by decide)]
      cases q3 : dgt (bt tp a) with
      | true => rw [if_pos rfl]; exact ⟨fun z => by omega, fun z => by cases z.2.2⟩
      | false => rw [if_neg (by decide)]; exact ⟨fun _ => ⟨by omega, rfl, rfl⟩, fun _ => rfl⟩
theorem msr_le {tp : List Nat} {a : Nat} : msr tp a ≤ 3 := by
  unfold msr
  split
  · omega
  · split
    · omega
    · split <;> omega
theorem mis {tp : List Nat} {a i : Nat} (ha : a ≤ tp.length) (hi : i < 7) : (msr tp a = 1 ∧ mwo tp a = lN (zwV i)) ↔ wis tp a i = true := by
  obtain ⟨z1, z2, z3, z4⟩ := zw_ok i hi
  unfold wis wiw
  rw [decide_eq_true_eq]
  constructor
  · rintro ⟨h1, h2⟩
    obtain ⟨hlt, hl⟩ := msr_1.mp h1
    have hb := wte_bd ha
    unfold mwo at h2
    rw [if_neg (by omega), if_pos hl] at h2
    unfold mwl at h2
    by_cases q : wte tp a - a ≤ 7
    · rw [if_pos q] at h2
      have hlet : ∀ j, j < wte tp a - a → ltr (bt tp (a + j)) = true := fun j hj => wte_let hlt hl (by omega) (by omega)
      have hv := mwv_lt hlet
      have hv2 : 32 ^ (wte tp a - a) ≤ 32 ^ 7 := Nat.pow_le_pow_right (by decide) q
      have e := (lM_inj (by omega) (by omega)).mp h2
      rw [mwv_rec] at e
      obtain ⟨e1, e2⟩ := mwv_inj (f := fun j => bt tp (a + j) - 96) (g := fun j => zwc i j - 96) (fun j hj => by have := ltr_b (hlet j hj); omega) (fun j hj => by have := z4 j hj; omega) e
      refine ⟨by omega, fun n hn => ?_⟩
      have := e2 n (by omega)
      have := ltr_b (hlet n (by omega))
      have := z4 n hn
      omega
    · rw [if_neg q] at h2
      exact absurd h2.symm (lM_m1 (by omega))
  · rintro ⟨h1, h2⟩
    have hlt : a < tp.length := by
      rcases Nat.lt_or_ge a tp.length with z | z
      · exact z
      · unfold wte at h1
        rw [if_pos z] at h1
        omega
    have hl : ltr (bt tp a) = true := by
      have := h2 0 (by omega)
      rw [Nat.add_zero] at this
      rw [this]
      have := z4 0 (by omega)
      unfold ltr
      rw [decide_eq_true_eq]
      exact this
    refine ⟨msr_1.mpr ⟨hlt, hl⟩, ?_⟩
    unfold mwo
    rw [if_neg (by omega), if_pos hl]
    unfold mwl
    rw [if_pos (by omega), h1, show a + zwl' i - a = zwl' i by omega, mwv_rec]
    congr 1
    unfold zwV
    have : ∀ n, n ≤ zwl' i → Nat.rec (motive := fun _ => Nat) 0 (fun j v => 32 * v + (bt tp (a + j) - 96)) n = Nat.rec (motive := fun _ => Nat) 0 (fun j v => 32 * v + (zwc i j - 96)) n := by
      intro n
      induction n with
      | zero => intro _; rfl
      | succ n ih =>
        intro hn
        show 32 * Nat.rec (motive := fun _ => Nat) 0 (fun j v => 32 * v + (bt tp (a + j) - 96)) n + (bt tp (a + n) - 96) = 32 * Nat.rec (motive := fun _ => Nat) 0 (fun j v => 32 * v + (zwc i j - 96)) n + (zwc i n - 96)
        rw [ih (by omega), h2 n (by omega)]
    exact this _ (Nat.le_refl _)
theorem mis7 {tp : List Nat} {a : Nat} (ha : a ≤ tp.length) (hb : ∀ i, i < tp.length → bt tp i < 256) : (msr tp a = 3 ∧ mwo tp a = lN 59) ↔ wis tp a 7 = true := by
  unfold wis wiw
  rw [decide_eq_true_eq]
  show _ ↔ wte tp a = a + 1 ∧ ∀ n, n < 1 → bt tp (a + n) = zwc 7 n
  constructor
  · rintro ⟨h1, h2⟩
    obtain ⟨hlt, hl, hd⟩ := msr_3.mp h1
    unfold mwo at h2
    rw [if_neg (by omega), hl, hd, if_neg (by decide), if_neg (by decide)] at h2
    have := hb a hlt
    have e := (lM_inj (by omega) (by omega)).mp h2
    refine ⟨wte_sign hlt hl hd, fun n hn => ?_⟩
    have : n = 0 := by omega
    subst this
    exact e
  · rintro ⟨h1, h2⟩
    have e : bt tp a = 59 := h2 0 (by omega)
    have hlt : a < tp.length := by
      rcases Nat.lt_or_ge a tp.length with z | z
      · exact z
      · unfold wte at h1
        rw [if_pos z] at h1
        omega
    have hl : ltr (bt tp a) = false := by rw [e]; rfl
    have hd : dgt (bt tp a) = false := by rw [e]; rfl
    refine ⟨msr_3.mpr ⟨hlt, hl, hd⟩, ?_⟩
    unfold mwo
    rw [if_neg (by omega), hl, hd, if_neg (by decide), if_neg (by decide), e]
theorem mnum {tp : List Nat} {a lo hi : Nat} (ha : a ≤ tp.length) (hlo : lo ≤ 1000) (hh : hi ≤ 1000) : ((msr tp a = 2 ∧ lN lo ≤ mwo tp a ∧ mwo tp a ≤ lN hi) ↔ wnm tp a lo hi = true) ∧ (wnm tp a lo hi = true → (mwo tp a).toInt32 = nI (wnv tp a)) := by
  have key : a < tp.length → dgt (bt tp a) = true → mwo tp a = lN (mcp tp a (wte tp a - a)) ∧ mcp tp a (wte tp a - a) ≤ 10009 := by
    intro hlt hd
    unfold mwo
    rw [if_neg (by omega), dgt_ltr hd, if_neg (by decide), if_pos hd]
    exact ⟨rfl, mcp_le (fun i hi => wte_dig hlt hd (by omega) (by omega))⟩
  have hdv := mcp_dv (tp := tp) (a := a) (n := wte tp a - a)
  have hmain : (msr tp a = 2 ∧ lN lo ≤ mwo tp a ∧ mwo tp a ≤ lN hi) ↔ wnm tp a lo hi = true := by
    unfold wnm wnv
    rw [decide_eq_true_eq]
    constructor
    · rintro ⟨h1, h2, h3⟩
      obtain ⟨hlt, hd⟩ := msr_2.mp h1
      obtain ⟨k1, k2⟩ := key hlt hd
      rw [k1, lM_le (by omega) (by omega)] at h2
      rw [k1, lM_le (by omega) (by omega)] at h3
      have := hdv.1 (by omega)
      exact ⟨hlt, hd, by omega, by omega⟩
    · rintro ⟨hlt, hd, h2, h3⟩
      obtain ⟨k1, k2⟩ := key hlt hd
      have e : mcp tp a (wte tp a - a) = wdv tp a (wte tp a - a) := by
        rcases Nat.lt_or_ge 1000 (mcp tp a (wte tp a - a)) with z | z
        · have := hdv.2 z
          omega
        · exact hdv.1 z
      rw [k1, lM_le (by omega) (by omega), lM_le (by omega) (by omega)]
      exact ⟨msr_2.mpr ⟨hlt, hd⟩, by omega, by omega⟩
  refine ⟨hmain, fun h => ?_⟩
  have h' := h
  unfold wnm wnv at h'
  rw [decide_eq_true_eq] at h'
  obtain ⟨hlt, hd, h2, h3⟩ := h'
  obtain ⟨k1, k2⟩ := key hlt hd
  have e : mcp tp a (wte tp a - a) = wdv tp a (wte tp a - a) := by
    rcases Nat.lt_or_ge 1000 (mcp tp a (wte tp a - a)) with z | z
    · have := hdv.2 z
      omega
    · exact hdv.1 z
  rw [k1, lM_i (by omega), e]
  rfl
