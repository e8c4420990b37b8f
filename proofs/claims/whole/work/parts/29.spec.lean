/-! PURE: the flow as a function; the years under a rule (cells numbered 12 y + x) -/
def wil? (w h c : Nat) : Bool := decide (c % 12 < w ∧ c / 12 < h)
theorem wil_t {w h c : Nat} : wil? w h c = true ↔ wil w h c := by simp [wil?, wil]
def wGf (w h : Nat) (H : Nat → Nat) (D : Nat → Bool) (sort sp fl : Nat) : Nat → Nat → Nat
  | 0, _ => 0
  | n + 1, x => if wil? w h x = true then (if x = sp then fl else 0) + wsm (fun e => match wnb w h x e with
      | some b => wgv sort (wGf w h H D sort sp fl n b) (wdr w h H D b) (wop e)
      | none => 0) 4 else 0
def wG (w h : Nat) (H : Nat → Nat) (D : Nat → Bool) (sort sp fl x : Nat) : Nat := wGf w h H D sort sp fl 201 x
theorem wGf_eq {w h : Nat} {H : Nat → Nat} {D : Nat → Bool} {sort sp fl : Nat} {A : Nat → Nat} (hw : w ≤ 12) (hh : h ≤ 10) (hA : wfl w h H D sort sp fl A) (hH : ∀ x, x < 120 → H x ≤ 200) : ∀ n x, x < 120 → wil w h x → 200 < n + H x → wGf w h H D sort sp fl n x = A x
  | 0, x, hx, _, h0 => by
    have := hH x hx
    omega
  | n + 1, x, hx, hxl, h0 => by
    show (if wil? w h x = true then _ else 0) = _
    rw [if_pos (wil_t.mpr hxl), hA x hx hxl]
    congr 1
    refine wsm_congr fun e he => ?_
    unfold wfr
    cases hnb : wnb w h x e with
    | none => rfl
    | some b =>
      dsimp only
      rw [if_pos trivial]
      obtain ⟨s1, s2⟩ := wnb_sym hw he hxl hnb
      by_cases hz : wdr w h H D b (wop e) = 0
      · unfold wgv
        rw [if_pos hz, if_pos hz]
      · have hlt : H x < H b := by
          unfold wdr at hz
          rw [s1] at hz
          dsimp only at hz
          split at hz
          · exact absurd rfl hz
          · omega
        rw [wGf_eq hw hh hA hH n b (wnb_lt hw hh he hxl hnb) s2 (by omega)]
theorem wG_eq {w h : Nat} {H : Nat → Nat} {D : Nat → Bool} {sort sp fl : Nat} {A : Nat → Nat} (hw : w ≤ 12) (hh : h ≤ 10) (hA : wfl w h H D sort sp fl A) (hH : ∀ x, x < 120 → H x ≤ 200) (hz : ∀ x, x < 120 → ¬ wil w h x → A x = 0) : ∀ x, x < 120 → wG w h H D sort sp fl x = A x := by
  intro x hx
  by_cases hxl : wil w h x
  · exact wGf_eq hw hh hA hH 201 x hx hxl (by omega)
  · rw [hz x hx hxl]
    show (if wil? w h x = true then _ else 0) = 0
    rw [if_neg (fun z => hxl (wil_t.mp z))]
/-- what is given of a land: (w, h, level, spring, flow, heights as of year 0, acts) -/
abbrev wSP : Type := Nat × Nat × Nat × Nat × Nat × (Nat → Nat) × List wAc
def sW (σ : wSP) : Nat := σ.1
def sH (σ : wSP) : Nat := σ.2.1
def sL (σ : wSP) : Nat := σ.2.2.1
def sS (σ : wSP) : Nat := σ.2.2.2.1
def sF (σ : wSP) : Nat := σ.2.2.2.2.1
def sG (σ : wSP) : Nat → Nat := σ.2.2.2.2.2.1
def sA (σ : wSP) : List wAc := σ.2.2.2.2.2.2
def wsr (r : Nat) : Nat := r / 12
def wrt (r : Nat) : Nat := 1 + r / 2 % 6
def wwr (r : Nat) : Nat := r % 2
abbrev wHDt : Type := (Nat → Nat) × (Nat → Bool)
def wY (σ : wSP) (r n : Nat) (S : wHDt) : wHDt :=
  (fun x => wst (sL σ) (wrt r) (wwr r) (whk (sW σ) (sH σ) n (sA σ) S.1 x) (wG (sW σ) (sH σ) (whk (sW σ) (sH σ) n (sA σ) S.1) (wdk (sW σ) (sH σ) n (sA σ) S.2) (wsr r) (sS σ) (sF σ) x) (wpt (sW σ) (sH σ) (whk (sW σ) (sH σ) n (sA σ) S.1) (wdk (sW σ) (sH σ) n (sA σ) S.2) x),
   wdk (sW σ) (sH σ) n (sA σ) S.2)
def wHD (σ : wSP) (r : Nat) : Nat → wHDt
  | 0 => (sG σ, fun _ => false)
  | n + 1 => wY σ r (n + 1) (wHD σ r n)
/-- what came to a cell in the year n + 1 -/
def wGT (σ : wSP) (r n x : Nat) : Nat := wG (sW σ) (sH σ) (whk (sW σ) (sH σ) (n + 1) (sA σ) (wHD σ r n).1) (wdk (sW σ) (sH σ) (n + 1) (sA σ) (wHD σ r n).2) (wsr r) (sS σ) (sF σ) x
/-- the numbers of σ are in their bounds -/
def wsok (σ : wSP) : Prop := 2 ≤ sW σ ∧ sW σ ≤ 12 ∧ 2 ≤ sH σ ∧ sH σ ≤ 10 ∧ sL σ ≤ 200 ∧ sS σ < 120 ∧ wil (sW σ) (sH σ) (sS σ) ∧ sF σ ≤ 1000 ∧ (∀ e, sG σ e ≤ 200)
theorem wHD_le {σ : wSP} (h : wsok σ) (r : Nat) : ∀ n e, (wHD σ r n).1 e ≤ 200
  | 0, e => h.2.2.2.2.2.2.2.2 e
  | n + 1, e => wst_le h.2.2.2.2.1 (whk_le (wHD_le h r n) e)
/-- the class's own references, the plan pk and the draft dk -/
def zXr (M : zMm) (pk dk : Nat) : Prop := M.2.2.2 0 0 = some 1 ∧ M.2.2.2 0 1 = some 3 ∧ M.2.2.2 0 2 = some 5 ∧ M.2.2.2 0 3 = some 10 ∧ M.2.2.2 0 4 = some 20 ∧ M.2.2.2 0 5 = some pk ∧ M.2.2.2 0 6 = some dk ∧ M.2.2.2 1 0 = some 2 ∧ M.2.2.2 3 0 = some 4 ∧
  M.2.2.2 5 0 = some 6 ∧ M.2.2.2 5 1 = some 7 ∧ M.2.2.2 5 2 = some 8 ∧ M.2.2.2 5 3 = some 9 ∧ zxw M ∧ (∀ j, j < 5 → M.2.2.2 21 j = some (22 + j)) ∧ (∀ j, j < 5 → M.2.2.2 27 j = some (28 + j)) ∧ ((pk = 21 ∧ dk = 27) ∨ (pk = 27 ∧ dk = 21))
def zyi (r : Nat) : Nat := 100 + 2 * r
def zlv (M : zMm) (r : Nat) : Bool := (M.2.2.2 20 r).isSome
/-- the kept years -/
def zYS (M : zMm) (σ : wSP) : Prop := ∀ r, r < 36 → (M.2.2.2 20 r = none ∧ zyi r ∉ M.1 ∧ zyi r + 1 ∉ M.1) ∨ (M.2.2.2 20 r = some (zyi r) ∧ M.2.2.2 (zyi r) 0 = some (zyi r + 1) ∧ (M.2.1 (zyi r) 1 = -1 ∨ ∃ m, m ≤ 30 ∧ M.2.1 (zyi r) 1 = nI m ∧ zys M (zyi r) m (fun n => (wHD σ r n).1)))
/-- the cells that are there: 33 of the object, two for each kept rule, p readers -/
def zLL (M : zMm) (p : Nat) : Prop := M.1.length = 33 + 2 * wct (zlv M) 36 + p ∧ zss M.1 = 2117 + 467 * wct (zlv M) 36 + 5 * p ∧ ∀ k ∈ M.1, 500 ≤ k → k < 500 + p
/-- THE CLASS's STATE as far as the years need it -/
def zXI (M : zMm) (σ : wSP) (pk dk p : Nat) : Prop := zXr M pk dk ∧ wsok σ ∧ M.2.1 1 1 = nI (sW σ) ∧ M.2.1 1 2 = nI (sH σ) ∧ M.2.1 1 3 = nI (sS σ) ∧ M.2.1 1 4 = nI (sF σ) ∧ M.2.1 1 5 = nI (sL σ) ∧ (∀ e, e < 120 → M.2.1 2 e = nI (sG σ e)) ∧ zpl M pk (sA σ) ∧ (∃ S : wST, zwt M S.1 S.2 ∧ wwf S) ∧ zYS M σ ∧ zLL M p
