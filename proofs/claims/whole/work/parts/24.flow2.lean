/-! PURE: nothing is lost or won on the way; the row of wet cells, turn by turn -/
theorem wsm4 (g : Nat → Nat) : wsm g 4 = g 0 + g 1 + g 2 + g 3 := by simp [wsm]
theorem wsm_one {m f : Nat} : ∀ n, wsm (fun d => if d = m then f else 0) n = if m < n then f else 0
  | 0 => rfl
  | n + 1 => by
    show wsm _ n + (if n = m then f else 0) = _
    rw [wsm_one n]
    rcases Nat.lt_trichotomy m n with q | q | q
    · rw [if_pos q, if_neg (by omega), if_pos (by omega)]; omega
    · rw [if_neg (by omega), if_pos q.symm, if_pos (by omega)]; omega
    · rw [if_neg (by omega), if_neg (by omega), if_neg (by omega)]
theorem wrank {q : Nat → Bool} {k : Nat} : ∀ m, wct (fun d => q d && decide (wct q d < k)) m = min (wct q m) k
  | 0 => by simp [wct]
  | m + 1 => by
    show wct _ m + (if (q m && decide (wct q m < k)) = true then 1 else 0) = min (wct q m + if q m = true then 1 else 0) k
    rw [wrank m]
    cases q m with
    | false => simp
    | true =>
      by_cases h : wct q m < k
      · simp [h]; omega
      · simp [h]; omega
/-- picks within a domain q -/
theorem wpick2 {g : Nat → Nat} {q p : Nat → Bool} {n k : Nat} (hc : wct p n = k) (hq : ∀ i, i < n → p i = true → q i = true) (hu : ∀ i j, i < n → j < n → p i = true → q j = true → p j = false → wah g j i = true) : ∀ i, i < n → q i = true → (p i = true ↔ wct (fun o => q o && wah g i o) n < k) := by
  intro i hi hqi
  constructor
  · intro hp
    rw [← hc]
    refine wct_strict (fun j hj hw => ?_) hi (by rw [Bool.and_eq_false_iff]; right; rw [wah_f]; omega) hp
    rw [Bool.and_eq_true] at hw
    cases hpj : p j with
    | true => rfl
    | false =>
      have h1 := wah_t.mp (hu i j hi hj hp hw.1 hpj)
      have h2 := wah_t.mp hw.2
      omega
  · intro hlt
    cases hpi : p i with
    | true => rfl
    | false =>
      have : wct p n ≤ wct (fun o => q o && wah g i o) n := wct_mono fun j hj hpj => by
        rw [Bool.and_eq_true]
        exact ⟨hq j hj hpj, hu j i hj hi hpj hqi hpi⟩
      omega
theorem wpick_ex (g : Nat → Nat) (q : Nat → Bool) (n : Nat) : ∀ k, k ≤ wct q n → ∃ p : Nat → Bool, wct p n = k ∧ (∀ i, i < n → p i = true → q i = true) ∧ ∀ i j, i < n → j < n → p i = true → q j = true → p j = false → wah g j i = true
  | 0, _ => ⟨fun _ => false, by
      have : ∀ m, wct (fun _ => false) m = 0 := by
        intro m
        induction m with
        | zero => rfl
        | succ m ih => show wct _ m + _ = 0; rw [ih]; rfl
      exact this n, fun _ _ h => absurd h Bool.false_ne_true, fun _ _ _ _ h => absurd h Bool.false_ne_true⟩
  | k + 1, hk => by
    obtain ⟨p, h1, h2, h3⟩ := wpick_ex g q n k (by omega)
    have hfree : ∃ j, j < n ∧ q j = true ∧ p j = false := by
      rcases Classical.em (∃ j, j < n ∧ q j = true ∧ p j = false) with z | z
      · exact z
      · have : wct q n ≤ wct p n := wct_mono fun j hj hqj => by
          cases hpj : p j with
          | true => rfl
          | false => exact absurd ⟨j, hj, hqj, hpj⟩ z
        omega
    obtain ⟨j0, hj0, hqj0, hpj0⟩ := hfree
    have hmx := wfg_max (fun i => if q i = true ∧ p i = false then g i + 1 else 0) n
    have hl := wfg_le (fun i => if q i = true ∧ p i = false then g i + 1 else 0) n
    generalize wfg (fun i => if q i = true ∧ p i = false then g i + 1 else 0) n = m at hmx hl
    have hm : m < n := by omega
    have hqm : q m = true ∧ p m = false := by
      have := (hmx j0 hj0).1
      rw [if_pos ⟨hqj0, hpj0⟩] at this
      by_cases z : q m = true ∧ p m = false
      · exact z
      · rw [if_neg z] at this; omega
    refine ⟨fun i => if i = m then true else p i, by rw [wct_up hm hqm.2 (fun _ _ => rfl), h1], fun i hi hp => ?_, fun i j hi hj hpi hqj hpj => ?_⟩
    · dsimp only at hp
      by_cases e : i = m
      · rw [e]; exact hqm.1
      · rw [if_neg e] at hp; exact h2 i hi hp
    · dsimp only at hpi hpj
      by_cases ej : j = m
      · rw [if_pos ej] at hpj; cases hpj
      · rw [if_neg ej] at hpj
        by_cases ei : i = m
        · subst ei
          have h4 := hmx j hj
          rw [if_pos ⟨hqj, hpj⟩, if_pos hqm] at h4
          rw [wah_t]
          omega
        · rw [if_neg ei] at hpi
          exact h3 i j hi hj hpi hqj hpj
theorem wpick_le (g : Nat → Nat) (q : Nat → Bool) (n k : Nat) : wct (fun d => q d && decide (wct (fun o => q o && wah g d o) n < k)) n ≤ k := by
  rcases Nat.lt_or_ge (wct q n) k with h | h
  · have : wct (fun d => q d && decide (wct (fun o => q o && wah g d o) n < k)) n ≤ wct q n := wct_mono fun i _ hi => by
      rw [Bool.and_eq_true] at hi
      exact hi.1
    omega
  · obtain ⟨p, h1, h2, h3⟩ := wpick_ex g q n k h
    have hp := wpick2 h1 h2 h3
    have : wct (fun d => q d && decide (wct (fun o => q o && wah g d o) n < k)) n ≤ wct p n := wct_mono fun i hi hq => by
      rw [Bool.and_eq_true, decide_eq_true_eq] at hq
      exact (hp i hi hq.1).mpr hq.2
    omega
theorem wct_sum (p : Nat → Bool) : ∀ n, wct p n = wsm (fun i => if p i = true then 1 else 0) n
  | 0 => rfl
  | n + 1 => by
    show wct p n + _ = wsm _ n + _
    rw [wct_sum p n]
/-- what a cell gives isn't more than what came -/
theorem wgv_sum {sort f : Nat} {r : Nat → Nat} : wsm (wgv sort f r) 4 ≤ f := by
  by_cases h0 : sort = 0
  · subst h0
    have : wsm (wgv 0 f r) 4 ≤ wsm (fun d => if d = wfg r 4 then f else 0) 4 := wsm_le fun d _ => by
      unfold wgv
      rw [if_pos (rfl : 0 = 0)]
      split
      · exact Nat.zero_le _
      · exact Nat.le_refl _
    rw [wsm_one] at this
    split at this <;> omega
  by_cases h1 : sort = 1
  · subst h1
    have e : wsm (wgv 1 f r) 4 = wsm (fun d => (if wpo r d = true then f / wct (wpo r) 4 else 0) + (if (wpo r d && decide (wct (wpo r) d < f % wct (wpo r) 4)) = true then 1 else 0)) 4 := wsm_congr fun d _ => by
      unfold wgv
      rw [if_neg (by decide : ¬ 1 = 0), if_pos (rfl : 1 = 1)]
      by_cases hz : r d = 0
      · rw [if_pos hz]
        have : wpo r d = false := by simp [wpo, hz]
        simp [this]
      · rw [if_neg hz]
        have : wpo r d = true := wpo_t.mpr (by omega)
        simp [this]
    rw [e, wsm_add, ← wct_sum, wrank]
    have e2 : wsm (fun d => if wpo r d = true then f / wct (wpo r) 4 else 0) 4 = wct (wpo r) 4 * (f / wct (wpo r) 4) := by
      generalize f / wct (wpo r) 4 = c
      generalize 4 = m
      induction m with
      | zero => simp [wsm, wct]
      | succ m ih =>
        show wsm _ m + (if wpo r m = true then c else 0) = (wct (wpo r) m + if wpo r m = true then 1 else 0) * c
        rw [ih, Nat.add_mul]
        cases wpo r m <;> simp
    rw [e2]
    have := Nat.div_add_mod f (wct (wpo r) 4)
    omega
  · have e : wsm (wgv sort f r) 4 ≤ wsm (fun d => f * r d / wsm r 4 + (if (wpo r d && decide (wct (fun o => wpo r o && wah (fun j => f * r j % wsm r 4) d o) 4 < f - wsm (fun j => f * r j / wsm r 4) 4)) = true then 1 else 0)) 4 := wsm_le fun d _ => by
      unfold wgv
      rw [if_neg h0, if_neg h1]
      by_cases hz : r d = 0
      · rw [if_pos hz]; exact Nat.zero_le _
      · rw [if_neg hz]
        have : wpo r d = true := wpo_t.mpr (by omega)
        simp [this]
    rw [wsm_add, ← wct_sum] at e
    have h3 := wpick_le (fun j => f * r j % wsm r 4) (wpo r) 4 (f - wsm (fun j => f * r j / wsm r 4) 4)
    have h4 : wsm (fun j => f * r j / wsm r 4) 4 ≤ f := by
      rcases Nat.eq_zero_or_pos (wsm r 4) with z | z
      · rw [z]
        simp [wsm]
      · exact (wsm_left (by decide) z).1
    omega
theorem wgv_0 {sort : Nat} {r : Nat → Nat} {d : Nat} : wgv sort 0 r d = 0 := by
  unfold wgv
  split
  · rfl
  · split
    · split <;> rfl
    · split
      · simp
      · simp
/-! the sides -/
def wop (d : Nat) : Nat := (d + 2) % 4
theorem wnb_sym {w h c d x : Nat} (hw : w ≤ 12) (hd : d < 4) (hc : wil w h c) (hx : wnb w h c d = some x) : wnb w h x (wop d) = some c ∧ wil w h x := by
  obtain ⟨h1, h2⟩ := hc
  unfold wil
  match d, hd with
  | 0, _ =>
    simp only [wnb] at hx
    split at hx
    · cases hx
      simp only [wnb, wop]
      rw [if_pos (by omega)]
      exact ⟨by simp, by omega, by omega⟩
    · cases hx
  | 1, _ =>
    simp only [wnb] at hx
    split at hx
    · cases hx
      simp only [wnb, wop]
      rw [if_pos (by omega)]
      exact ⟨by simp, by omega, by omega⟩
    · cases hx
  | 2, _ =>
    simp only [wnb] at hx
    split at hx
    · cases hx
      simp only [wnb, wop]
      rw [if_pos (by omega)]
      exact ⟨congrArg some (by omega), by omega, by omega⟩
    · cases hx
  | 3, _ =>
    simp only [wnb] at hx
    split at hx
    · cases hx
      simp only [wnb, wop]
      rw [if_pos (by omega)]
      exact ⟨congrArg some (by omega), by omega, by omega⟩
    · cases hx
theorem wop_op {d : Nat} (hd : d < 4) : wop (wop d) = d ∧ wop d < 4 := by
  unfold wop
  omega
theorem wnb_lt {w h c d x : Nat} (hw : w ≤ 12) (hh : h ≤ 10) (hd : d < 4) (hc : wil w h c) (hx : wnb w h c d = some x) : x < 120 := by
  have := (wnb_sym hw hd hc hx).2
  unfold wil at this
  omega
/-- what the cell x gets from its side e, if the cell there is one of P -/
def wfr (w h : Nat) (H : Nat → Nat) (D : Nat → Bool) (sort : Nat) (A : Nat → Nat) (P : Nat → Prop) [DecidablePred P] (x e : Nat) : Nat := match wnb w h x e with
  | some b => if P b then wgv sort (A b) (wdr w h H D b) (wop e) else 0
  | none => 0
/-- what comes to x from c: by c's sides, by x's -/
theorem wturn {w h : Nat} {H : Nat → Nat} {D : Nat → Bool} {sort f c x : Nat} (hw : w ≤ 12) (hc : wil w h c) (hx : wil w h x) : wsl (fun d => if wnx w h c d = x then wgv sort f (wdr w h H D c) d else 0) (wds (wdr w h H D c) 4) = wsm (fun e => if wnb w h x e = some c then wgv sort f (wdr w h H D c) (wop e) else 0) 4 := by
  rw [wds_sl]
  have key : ∀ d, d < 4 → (if wpo (wdr w h H D c) d = true then (if wnx w h c d = x then wgv sort f (wdr w h H D c) d else 0) else 0) = (if wnb w h x (wop d) = some c then wgv sort f (wdr w h H D c) d else 0) := by
    intro d hd
    by_cases hp : wpo (wdr w h H D c) d = true
    · rw [if_pos hp]
      have hp' := wpo_t.mp hp
      cases hnb : wnb w h c d with
      | none =>
        unfold wdr at hp'
        rw [hnb] at hp'
        exact absurd hp' (Nat.lt_irrefl _)
      | some y =>
        have hy := wnb_sym hw hd hc hnb
        have ey : wnx w h c d = y := by unfold wnx; rw [hnb]; rfl
        rw [ey]
        by_cases e : y = x
        · subst e
          rw [if_pos rfl, if_pos hy.1]
        · rw [if_neg e, if_neg]
          intro q
          have := (wnb_sym hw (wop_op hd).2 hx q).1
          rw [(wop_op hd).1, hnb] at this
          cases this
          exact e rfl
    · rw [if_neg hp]
      have hz : wdr w h H D c d = 0 := by
        have : ¬ 0 < wdr w h H D c d := fun z => hp (wpo_t.mpr z)
        omega
      have : wgv sort f (wdr w h H D c) d = 0 := by unfold wgv; rw [if_pos hz]
      rw [this]
      split <;> rfl
  rw [wsm4, wsm4, key 0 (by decide), key 1 (by decide), key 2 (by decide), key 3 (by decide)]
  show (if wnb w h x 2 = some c then wgv sort f (wdr w h H D c) 0 else 0) + (if wnb w h x 3 = some c then wgv sort f (wdr w h H D c) 1 else 0) + (if wnb w h x 0 = some c then wgv sort f (wdr w h H D c) 2 else 0) + (if wnb w h x 1 = some c then wgv sort f (wdr w h H D c) 3 else 0) = (if wnb w h x 0 = some c then wgv sort f (wdr w h H D c) 2 else 0) + (if wnb w h x 1 = some c then wgv sort f (wdr w h H D c) 3 else 0) + (if wnb w h x 2 = some c then wgv sort f (wdr w h H D c) 0 else 0) + (if wnb w h x 3 = some c then wgv sort f (wdr w h H D c) 1 else 0)
  omega
/-- THE ROW of wet cells behind k turns -/
def wri (w h : Nat) (H : Nat → Nat) (D : Nat → Bool) (sort sp fl k : Nat) (S : wST) : Prop := wok H w h k S ∧ (∀ x, x < 120 → wil w h x → S.1 x = (if x = sp then fl else 0) + wsm (wfr w h H D sort S.1 (fun b => b ∈ S.2.take k) x) 4) ∧ wsl S.1 (S.2.drop k) ≤ fl ∧ ∀ x ∈ S.2.take k, S.1 x ≤ fl
theorem wri_step {w h : Nat} {H : Nat → Nat} {D : Nat → Bool} {sort sp fl k : Nat} {S : wST} {f11 : Nat → Int32} (hf : ∀ e, e < 120 → f11 e = nI (H e) ∧ H e ≤ 200) (hw : w ≤ 12) (hh : h ≤ 10) (hS : wri w h H D sort sp fl k S) (hk : k < S.2.length) :
    wri w h H D sort sp fl (k + 1) (wgs f11 w h H D sort (wat S.2 k) (wds (wdr w h H D (wat S.2 k)) 4) S (S.1 (wat S.2 k))) ∧ (wgs f11 w h H D sort (wat S.2 k) (wds (wdr w h H D (wat S.2 k)) 4) S (S.1 (wat S.2 k))).2.take (k + 1) = S.2.take k ++ [wat S.2 k] ∧ S.1 (wat S.2 k) ≤ fl := by
  obtain ⟨⟨hwf, hpw, hin, hz, hkl⟩, hfl, hcon, hdone⟩ := hS
  have hg := wat_get hk
  have hcm : wat S.2 k ∈ S.2 := List.mem_of_getElem? hg
  generalize hc : wat S.2 k = c at hg hcm
  have hc120 := hwf.2.1 c hcm
  have hil := hin c hcm
  have htk : S.2.take (k + 1) = S.2.take k ++ [c] := by rw [List.take_succ, hg]; rfl
  have hdk : S.2.drop k = c :: S.2.drop (k + 1) := by
    rw [List.drop_eq_getElem_cons hk]
    congr 1
    exact (List.getElem?_eq_some_iff.mp hg).2
  -- the first k + 1 don't lie below c
  have hup : ∀ x ∈ S.2.take (k + 1), H c ≤ H x := by
    intro x hx
    rw [htk] at hx
    rcases List.mem_append.mp hx with hx | hx
    · have h0 := List.take_append_drop k S.2
      rw [← h0, List.pairwise_append] at hpw
      have := hpw.2.2 x hx c (by rw [hdk]; exact List.mem_cons_self)
      unfold wbf at this
      omega
    · have : x = c := by simpa using hx
      subst this; exact Nat.le_refl _
  have hway : ∀ d ∈ wds (wdr w h H D c) 4, d < 4 ∧ wnx w h c d < 120 ∧ wil w h (wnx w h c d) ∧ H (wnx w h c d) < H c := by
    intro d hd
    obtain ⟨j, hj⟩ := List.getElem?_of_mem hd
    obtain ⟨d1, d2, -⟩ := wds_get _ 4 j d hj
    have hp := wpo_t.mp d2
    unfold wdr at hp
    cases hnb : wnb w h c d with
    | none => rw [hnb] at hp; exact absurd hp (Nat.lt_irrefl _)
    | some y =>
      rw [hnb] at hp
      dsimp only at hp
      have ey : wnx w h c d = y := by unfold wnx; rw [hnb]; rfl
      rw [ey]
      refine ⟨d1, wnb_lt hw hh d1 hil hnb, (wnb_sym hw d1 hil hnb).2, ?_⟩
      split at hp
      · omega
      · omega
  have hok : wok H w h (k + 1) S := ⟨hwf, hpw, hin, hz, hk⟩
  obtain ⟨g1, g2, g3⟩ := wgo_ok (gv := wgv sort (S.1 c) (wdr w h H D c)) (nb := wnx w h c) hf hok (ds := wds (wdr w h H D c) 4) (fun d hd => by
    obtain ⟨d1, d2, d3, d4⟩ := hway d hd
    refine ⟨d2, d3, fun x hx => ?_⟩
    have := hup x hx
    unfold wbf
    omega)
  have hval := fun x => wgo_val (f11 := f11) (nb := wnx w h c) (gv := wgv sort (S.1 c) (wdr w h H D c)) (ds := wds (wdr w h H D c) 4) (S := S) (x := x)
  have hcfl : S.1 c ≤ fl := by
    have := wsl_mem (A := S.1) (L := S.2.drop k) (x := c) (by rw [hdk]; exact List.mem_cons_self)
    omega
  unfold wgs
  generalize wgo f11 (wnx w h c) (wgv sort (S.1 c) (wdr w h H D c)) (wds (wdr w h H D c) 4) S = S' at g1 g2 g3 hval
  have hsame : ∀ x ∈ S.2.take (k + 1), S'.1 x = S.1 x := by
    intro x hx
    rw [hval x]
    have hz2 : wsl (fun d => if wnx w h c d = x then wgv sort (S.1 c) (wdr w h H D c) d else 0) (wds (wdr w h H D c) 4) = 0 := by
      have : ∀ (L : List Nat), (∀ d ∈ L, wnx w h c d ≠ x) → wsl (fun d => if wnx w h c d = x then wgv sort (S.1 c) (wdr w h H D c) d else 0) L = 0 := by
        intro L
        induction L with
        | nil => intro _; rfl
        | cons a l ih =>
          intro hL
          rw [wsl_cons, ih (fun d hd => hL d (List.mem_cons_of_mem _ hd)), if_neg (hL a List.mem_cons_self)]
      refine this _ (fun d hd => ?_)
      obtain ⟨d1, d2, d3, d4⟩ := hway d hd
      have := hup x hx
      intro e
      rw [e] at d4
      omega
    rw [hz2, Nat.add_zero]
  have hsumgv : wsl (wgv sort (S.1 c) (wdr w h H D c)) (wds (wdr w h H D c) 4) ≤ S.1 c := by
    rw [wds_sl, wif_po]
    · exact wgv_sum
    · intro d hd
      unfold wgv
      rw [if_pos hd]
  refine ⟨⟨g1, fun x hx hxl => ?_, ?_, ?_⟩, by rw [g2, htk], hcfl⟩
  · rw [hval x, hfl x hx hxl, g2, wturn hw hil hxl, Nat.add_assoc, ← wsm_add]
    congr 1
    refine wsm_congr fun e he => ?_
    unfold wfr
    cases hnb : wnb w h x e with
    | none => simp
    | some b =>
      dsimp only
      have hmem : b ∈ S.2.take (k + 1) ↔ b ∈ S.2.take k ∨ b = c := by
        rw [htk, List.mem_append]
        simp
      by_cases e1 : b = c
      · subst e1
        have hnot : b ∉ S.2.take k := by
          intro z
          have hnd := hwf.1
          rw [← List.take_append_drop k S.2, List.nodup_append] at hnd
          exact hnd.2.2 b z b (by rw [hdk]; exact List.mem_cons_self) rfl
        rw [if_neg hnot, if_pos rfl, if_pos (hmem.mpr (Or.inr rfl)), hsame b (hmem.mpr (Or.inr rfl)), Nat.zero_add]
      · have hb2 : ¬ (some b = some c) := fun z => e1 (Option.some.inj z)
        rw [if_neg hb2, Nat.add_zero]
        by_cases e2 : b ∈ S.2.take k
        · rw [if_pos e2, if_pos (hmem.mpr (Or.inl e2)), hsame b (hmem.mpr (Or.inl e2))]
        · rw [if_neg e2, if_neg (fun z => (hmem.mp z).elim e2 e1)]
  · have h5 : wsl S.1 (S.2.drop k) = S.1 c + wsl S.1 (S.2.drop (k + 1)) := by rw [hdk, wsl_cons]
    omega
  · rw [g2]
    intro x hx
    rw [hsame x hx]
    rw [htk] at hx
    rcases List.mem_append.mp hx with hx | hx
    · exact hdone x hx
    · have : x = c := by simpa using hx
      subst this; exact hcfl
