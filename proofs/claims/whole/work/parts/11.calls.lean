/-! CALLS by the number of their arguments -/
def zT_S1 (lim : zMm → Prop) (Cc : List Value → zMm → zKt → Prop) (P : zPP) : zPP := fun M ls st => match st with
  | a1 :: r => lim M ∧ r.length ≤ 4 ∧ Cc [a1] M (fun q M' => P M' ls (q.toList ++ r))
  | _ => False
theorem zCl_S1 {X : zCt} {lim : zMm → Prop} {Cc : List Value → zMm → zKt → Prop} {mc ms : Nat} {P : zPP} (hl : ∀ M, lim M → (mc = 0 ∨ M.1.length + mc ≤ zlc X) ∧ (ms = 0 ∨ zss M.1 + ms ≤ zls X)) : zCl X (fun _ _ _ as => as.length = 1) (zT_S1 lim Cc P) Cc mc ms P := by
  intro M ls st h
  unfold zT_S1 at h
  split at h
  · exact ⟨_, _, rfl, rfl, h.2.1, (hl M h.1).1, (hl M h.1).2, h.2.2⟩
  · exact h.elim
def zT_S2 (lim : zMm → Prop) (Cc : List Value → zMm → zKt → Prop) (P : zPP) : zPP := fun M ls st => match st with
  | a2 :: a1 :: r => lim M ∧ r.length ≤ 4 ∧ Cc [a1, a2] M (fun q M' => P M' ls (q.toList ++ r))
  | _ => False
theorem zCl_S2 {X : zCt} {lim : zMm → Prop} {Cc : List Value → zMm → zKt → Prop} {mc ms : Nat} {P : zPP} (hl : ∀ M, lim M → (mc = 0 ∨ M.1.length + mc ≤ zlc X) ∧ (ms = 0 ∨ zss M.1 + ms ≤ zls X)) : zCl X (fun _ _ _ as => as.length = 2) (zT_S2 lim Cc P) Cc mc ms P := by
  intro M ls st h
  unfold zT_S2 at h
  split at h
  · exact ⟨_, _, rfl, rfl, h.2.1, (hl M h.1).1, (hl M h.1).2, h.2.2⟩
  · exact h.elim
def zT_S3 (lim : zMm → Prop) (Cc : List Value → zMm → zKt → Prop) (P : zPP) : zPP := fun M ls st => match st with
  | a3 :: a2 :: a1 :: r => lim M ∧ r.length ≤ 4 ∧ Cc [a1, a2, a3] M (fun q M' => P M' ls (q.toList ++ r))
  | _ => False
theorem zCl_S3 {X : zCt} {lim : zMm → Prop} {Cc : List Value → zMm → zKt → Prop} {mc ms : Nat} {P : zPP} (hl : ∀ M, lim M → (mc = 0 ∨ M.1.length + mc ≤ zlc X) ∧ (ms = 0 ∨ zss M.1 + ms ≤ zls X)) : zCl X (fun _ _ _ as => as.length = 3) (zT_S3 lim Cc P) Cc mc ms P := by
  intro M ls st h
  unfold zT_S3 at h
  split at h
  · exact ⟨_, _, rfl, rfl, h.2.1, (hl M h.1).1, (hl M h.1).2, h.2.2⟩
  · exact h.elim
def zT_V0 (lim : zMm → Prop) (ci nf : Nat) (Cc : List Value → zMm → zKt → Prop) (P : zPP) : zPP := fun M ls st => match st with
  | .ref k :: r => zsh k = (5, ci, nf) ∧ lim M ∧ r.length ≤ 4 ∧ Cc [.ref k] M (fun q M' => P M' ls (q.toList ++ r))
  | _ => False
theorem zCl_V0 {X : zCt} {lim : zMm → Prop} {ci nf : Nat} {Cc : List Value → zMm → zKt → Prop} {mc ms : Nat} {P : zPP} (hl : ∀ M, lim M → (mc = 0 ∨ M.1.length + mc ≤ zlc X) ∧ (ms = 0 ∨ zss M.1 + ms ≤ zls X)) : zCl X (fun _ _ _ as => ∃ kk as', as = .ref kk :: as' ∧ as'.length = 0 ∧ zsh kk = (5, ci, nf)) (zT_V0 lim ci nf Cc P) Cc mc ms P := by
  intro M ls st h
  unfold zT_V0 at h
  split at h
  · exact ⟨_, _, ⟨_, _, rfl, rfl, h.1⟩, rfl, h.2.2.1, (hl M h.2.1).1, (hl M h.2.1).2, h.2.2.2⟩
  · exact h.elim
def zT_V1 (lim : zMm → Prop) (ci nf : Nat) (Cc : List Value → zMm → zKt → Prop) (P : zPP) : zPP := fun M ls st => match st with
  | a1 :: .ref k :: r => zsh k = (5, ci, nf) ∧ lim M ∧ r.length ≤ 4 ∧ Cc [.ref k, a1] M (fun q M' => P M' ls (q.toList ++ r))
  | _ => False
theorem zCl_V1 {X : zCt} {lim : zMm → Prop} {ci nf : Nat} {Cc : List Value → zMm → zKt → Prop} {mc ms : Nat} {P : zPP} (hl : ∀ M, lim M → (mc = 0 ∨ M.1.length + mc ≤ zlc X) ∧ (ms = 0 ∨ zss M.1 + ms ≤ zls X)) : zCl X (fun _ _ _ as => ∃ kk as', as = .ref kk :: as' ∧ as'.length = 1 ∧ zsh kk = (5, ci, nf)) (zT_V1 lim ci nf Cc P) Cc mc ms P := by
  intro M ls st h
  unfold zT_V1 at h
  split at h
  · exact ⟨_, _, ⟨_, _, rfl, rfl, h.1⟩, rfl, h.2.2.1, (hl M h.2.1).1, (hl M h.2.1).2, h.2.2.2⟩
  · exact h.elim
def zT_V2 (lim : zMm → Prop) (ci nf : Nat) (Cc : List Value → zMm → zKt → Prop) (P : zPP) : zPP := fun M ls st => match st with
  | a2 :: a1 :: .ref k :: r => zsh k = (5, ci, nf) ∧ lim M ∧ r.length ≤ 4 ∧ Cc [.ref k, a1, a2] M (fun q M' => P M' ls (q.toList ++ r))
  | _ => False
theorem zCl_V2 {X : zCt} {lim : zMm → Prop} {ci nf : Nat} {Cc : List Value → zMm → zKt → Prop} {mc ms : Nat} {P : zPP} (hl : ∀ M, lim M → (mc = 0 ∨ M.1.length + mc ≤ zlc X) ∧ (ms = 0 ∨ zss M.1 + ms ≤ zls X)) : zCl X (fun _ _ _ as => ∃ kk as', as = .ref kk :: as' ∧ as'.length = 2 ∧ zsh kk = (5, ci, nf)) (zT_V2 lim ci nf Cc P) Cc mc ms P := by
  intro M ls st h
  unfold zT_V2 at h
  split at h
  · exact ⟨_, _, ⟨_, _, rfl, rfl, h.1⟩, rfl, h.2.2.1, (hl M h.2.1).1, (hl M h.2.1).2, h.2.2.2⟩
  · exact h.elim
def zT_V3 (lim : zMm → Prop) (ci nf : Nat) (Cc : List Value → zMm → zKt → Prop) (P : zPP) : zPP := fun M ls st => match st with
  | a3 :: a2 :: a1 :: .ref k :: r => zsh k = (5, ci, nf) ∧ lim M ∧ r.length ≤ 4 ∧ Cc [.ref k, a1, a2, a3] M (fun q M' => P M' ls (q.toList ++ r))
  | _ => False
theorem zCl_V3 {X : zCt} {lim : zMm → Prop} {ci nf : Nat} {Cc : List Value → zMm → zKt → Prop} {mc ms : Nat} {P : zPP} (hl : ∀ M, lim M → (mc = 0 ∨ M.1.length + mc ≤ zlc X) ∧ (ms = 0 ∨ zss M.1 + ms ≤ zls X)) : zCl X (fun _ _ _ as => ∃ kk as', as = .ref kk :: as' ∧ as'.length = 3 ∧ zsh kk = (5, ci, nf)) (zT_V3 lim ci nf Cc P) Cc mc ms P := by
  intro M ls st h
  unfold zT_V3 at h
  split at h
  · exact ⟨_, _, ⟨_, _, rfl, rfl, h.1⟩, rfl, h.2.2.1, (hl M h.2.1).1, (hl M h.2.1).2, h.2.2.2⟩
  · exact h.elim
def zT_V4 (lim : zMm → Prop) (ci nf : Nat) (Cc : List Value → zMm → zKt → Prop) (P : zPP) : zPP := fun M ls st => match st with
  | a4 :: a3 :: a2 :: a1 :: .ref k :: r => zsh k = (5, ci, nf) ∧ lim M ∧ r.length ≤ 4 ∧ Cc [.ref k, a1, a2, a3, a4] M (fun q M' => P M' ls (q.toList ++ r))
  | _ => False
theorem zCl_V4 {X : zCt} {lim : zMm → Prop} {ci nf : Nat} {Cc : List Value → zMm → zKt → Prop} {mc ms : Nat} {P : zPP} (hl : ∀ M, lim M → (mc = 0 ∨ M.1.length + mc ≤ zlc X) ∧ (ms = 0 ∨ zss M.1 + ms ≤ zls X)) : zCl X (fun _ _ _ as => ∃ kk as', as = .ref kk :: as' ∧ as'.length = 4 ∧ zsh kk = (5, ci, nf)) (zT_V4 lim ci nf Cc P) Cc mc ms P := by
  intro M ls st h
  unfold zT_V4 at h
  split at h
  · exact ⟨_, _, ⟨_, _, rfl, rfl, h.1⟩, rfl, h.2.2.1, (hl M h.2.1).1, (hl M h.2.1).2, h.2.2.2⟩
  · exact h.elim
def zT_V5 (lim : zMm → Prop) (ci nf : Nat) (Cc : List Value → zMm → zKt → Prop) (P : zPP) : zPP := fun M ls st => match st with
  | a5 :: a4 :: a3 :: a2 :: a1 :: .ref k :: r => zsh k = (5, ci, nf) ∧ lim M ∧ r.length ≤ 4 ∧ Cc [.ref k, a1, a2, a3, a4, a5] M (fun q M' => P M' ls (q.toList ++ r))
  | _ => False
theorem zCl_V5 {X : zCt} {lim : zMm → Prop} {ci nf : Nat} {Cc : List Value → zMm → zKt → Prop} {mc ms : Nat} {P : zPP} (hl : ∀ M, lim M → (mc = 0 ∨ M.1.length + mc ≤ zlc X) ∧ (ms = 0 ∨ zss M.1 + ms ≤ zls X)) : zCl X (fun _ _ _ as => ∃ kk as', as = .ref kk :: as' ∧ as'.length = 5 ∧ zsh kk = (5, ci, nf)) (zT_V5 lim ci nf Cc P) Cc mc ms P := by
  intro M ls st h
  unfold zT_V5 at h
  split at h
  · exact ⟨_, _, ⟨_, _, rfl, rfl, h.1⟩, rfl, h.2.2.1, (hl M h.2.1).1, (hl M h.2.1).2, h.2.2.2⟩
  · exact h.elim
def zT_V6 (lim : zMm → Prop) (ci nf : Nat) (Cc : List Value → zMm → zKt → Prop) (P : zPP) : zPP := fun M ls st => match st with
  | a6 :: a5 :: a4 :: a3 :: a2 :: a1 :: .ref k :: r => zsh k = (5, ci, nf) ∧ lim M ∧ r.length ≤ 4 ∧ Cc [.ref k, a1, a2, a3, a4, a5, a6] M (fun q M' => P M' ls (q.toList ++ r))
  | _ => False
theorem zCl_V6 {X : zCt} {lim : zMm → Prop} {ci nf : Nat} {Cc : List Value → zMm → zKt → Prop} {mc ms : Nat} {P : zPP} (hl : ∀ M, lim M → (mc = 0 ∨ M.1.length + mc ≤ zlc X) ∧ (ms = 0 ∨ zss M.1 + ms ≤ zls X)) : zCl X (fun _ _ _ as => ∃ kk as', as = .ref kk :: as' ∧ as'.length = 6 ∧ zsh kk = (5, ci, nf)) (zT_V6 lim ci nf Cc P) Cc mc ms P := by
  intro M ls st h
  unfold zT_V6 at h
  split at h
  · exact ⟨_, _, ⟨_, _, rfl, rfl, h.1⟩, rfl, h.2.2.1, (hl M h.2.1).1, (hl M h.2.1).2, h.2.2.2⟩
  · exact h.elim
def zT_I0 (lim : zMm → Prop) (Cc : List Value → zMm → zKt → Prop) (P : zPP) : zPP := fun M ls st => match st with
  | .ref k :: r => lim M ∧ r.length ≤ 4 ∧ Cc [.ref k] M (fun q M' => P M' ls (q.toList ++ r))
  | _ => False
theorem zCl_I0 {X : zCt} {lim : zMm → Prop} {Cc : List Value → zMm → zKt → Prop} {mc ms : Nat} {P : zPP} (hl : ∀ M, lim M → (mc = 0 ∨ M.1.length + mc ≤ zlc X) ∧ (ms = 0 ∨ zss M.1 + ms ≤ zls X)) : zCl X (fun _ _ _ as => ∃ kk as', as = .ref kk :: as' ∧ as'.length = 0) (zT_I0 lim Cc P) Cc mc ms P := by
  intro M ls st h
  unfold zT_I0 at h
  split at h
  · exact ⟨_, _, ⟨_, _, rfl, rfl⟩, rfl, h.2.1, (hl M h.1).1, (hl M h.1).2, h.2.2⟩
  · exact h.elim
def zT_I1 (lim : zMm → Prop) (Cc : List Value → zMm → zKt → Prop) (P : zPP) : zPP := fun M ls st => match st with
  | a1 :: .ref k :: r => lim M ∧ r.length ≤ 4 ∧ Cc [.ref k, a1] M (fun q M' => P M' ls (q.toList ++ r))
  | _ => False
theorem zCl_I1 {X : zCt} {lim : zMm → Prop} {Cc : List Value → zMm → zKt → Prop} {mc ms : Nat} {P : zPP} (hl : ∀ M, lim M → (mc = 0 ∨ M.1.length + mc ≤ zlc X) ∧ (ms = 0 ∨ zss M.1 + ms ≤ zls X)) : zCl X (fun _ _ _ as => ∃ kk as', as = .ref kk :: as' ∧ as'.length = 1) (zT_I1 lim Cc P) Cc mc ms P := by
  intro M ls st h
  unfold zT_I1 at h
  split at h
  · exact ⟨_, _, ⟨_, _, rfl, rfl⟩, rfl, h.2.1, (hl M h.1).1, (hl M h.1).2, h.2.2⟩
  · exact h.elim
def zT_I2 (lim : zMm → Prop) (Cc : List Value → zMm → zKt → Prop) (P : zPP) : zPP := fun M ls st => match st with
  | a2 :: a1 :: .ref k :: r => lim M ∧ r.length ≤ 4 ∧ Cc [.ref k, a1, a2] M (fun q M' => P M' ls (q.toList ++ r))
  | _ => False
theorem zCl_I2 {X : zCt} {lim : zMm → Prop} {Cc : List Value → zMm → zKt → Prop} {mc ms : Nat} {P : zPP} (hl : ∀ M, lim M → (mc = 0 ∨ M.1.length + mc ≤ zlc X) ∧ (ms = 0 ∨ zss M.1 + ms ≤ zls X)) : zCl X (fun _ _ _ as => ∃ kk as', as = .ref kk :: as' ∧ as'.length = 2) (zT_I2 lim Cc P) Cc mc ms P := by
  intro M ls st h
  unfold zT_I2 at h
  split at h
  · exact ⟨_, _, ⟨_, _, rfl, rfl⟩, rfl, h.2.1, (hl M h.1).1, (hl M h.1).2, h.2.2⟩
  · exact h.elim
def zok (_ : zMm) : Prop := True
def zlm (mc ms lc lz : Nat) (M : zMm) : Prop := M.1.length + mc ≤ lc ∧ zss M.1 + ms ≤ lz
theorem zok_l {X : zCt} (M : zMm) (_ : zok M) : ((0 : Nat) = 0 ∨ M.1.length + 0 ≤ zlc X) ∧ ((0 : Nat) = 0 ∨ zss M.1 + 0 ≤ zls X) := ⟨Or.inl rfl, Or.inl rfl⟩
theorem zlm_l {X : zCt} {mc ms : Nat} (M : zMm) (h : zlm mc ms (zlc X) (zls X) M) : (mc = 0 ∨ M.1.length + mc ≤ zlc X) ∧ (ms = 0 ∨ zss M.1 + ms ≤ zls X) := ⟨Or.inr h.1, Or.inr h.2⟩
theorem zrm {X : zCt} {fr lo mc ms fr1 lo1 maxL : Nat} (h : zRX X = { frames := fr, cells := mc, slots := ms, locals := lo }) (h1 : fr1 + 1 ≤ fr) (h2 : 8 + (maxL + 11) + lo1 ≤ lo) : fr1 + 1 ≤ (zRX X).frames ∧ 8 + (maxL + 11) + lo1 ≤ (zRX X).locals := by
  rw [h]
  exact ⟨h1, h2⟩
theorem zrm1 {X : zCt} {fr lo mc ms : Nat} (h : zRX X = { frames := fr, cells := mc, slots := ms, locals := lo }) {a b : Nat} (h1 : a ≤ fr) (h2 : b ≤ lo) : a ≤ (zRX X).frames ∧ b ≤ (zRX X).locals := by
  rw [h]
  exact ⟨h1, h2⟩
/-- all heads of loops at once: Inv n h at the head h; each turn comes to a head with a smaller n, or to the end -/
theorem zloop {X : zCt} {own nm : String} {cc : ByteArray} {nL : Nat} {ret : Option FieldType} {heads : List Nat} (B : (Nat → zPP) → Nat → zPP) (Inv : Nat → Nat → zPP) (hB : ∀ J : Nat → zPP, (∀ h ∈ heads, zSd X own nm cc nL ret h (J h)) → ∀ h ∈ heads, zSd X own nm cc nL ret h (B J h))
    (hI : ∀ n, ∀ h ∈ heads, ∀ M ls st, Inv n h M ls st → B (fun h' M' ls' st' => ∃ n', n' < n ∧ Inv n' h' M' ls' st') h M ls st) : ∀ h ∈ heads, zSd X own nm cc nL ret h (fun M ls st => ∃ n, Inv n h M ls st) := by
  have key : ∀ n, ∀ h ∈ heads, zSd X own nm cc nL ret h (fun M ls st => ∃ n', n' < n ∧ Inv n' h M ls st) := by
    intro n
    induction n with
    | zero => exact fun h _ C M ls st ⟨n', h1, _⟩ => absurd h1 (Nat.not_lt_zero _)
    | succ n ih =>
      intro h hh C M ls st ⟨n', h1, h2⟩
      refine hB (fun h' M' ls' st' => ∃ k, k < n' ∧ Inv k h' M' ls' st') (fun h' hh' C' M' ls' st' ⟨k, k1, k2⟩ => ih h' hh' C' M' ls' st' ⟨k, by omega, k2⟩) h hh C M ls st (hI n' h hh M ls st h2)
  exact fun h hh C M ls st ⟨n, hn⟩ => key (n + 1) h hh C M ls st ⟨n, Nat.lt_succ_self n, hn⟩
