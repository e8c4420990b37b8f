/-! PURE: the Model's order of pouring -/
/-- A behind the pours of gv to nb along ds -/
def mpo (nb gv : Nat → Nat) (ds : List Nat) (A : Nat → Nat) (x : Nat) : Nat := A x + wsl (fun d => if nb d = x then gv d else 0) ds
theorem mpo_sum {nb gv : Nat → Nat} {L : List Nat} (hL : L.Nodup) : ∀ {ds : List Nat} {A : Nat → Nat}, wsl (mpo nb gv ds A) L ≤ wsl A L + wsl gv ds
  | [], A => by
    have e : mpo nb gv [] A = A := by funext x; simp [mpo, wsl]
    rw [e]
    exact Nat.le_add_right _ _
  | d :: ds, A => by
    have ih := mpo_sum (nb := nb) (gv := gv) hL (ds := ds) (A := va_up A (nb d) (A (nb d) + gv d))
    have e : mpo nb gv ds (va_up A (nb d) (A (nb d) + gv d)) = mpo nb gv (d :: ds) A := by
      funext x
      unfold mpo
      rw [wsl_cons, zup_at]
      by_cases q : x = nb d
      · rw [if_pos q, if_pos q.symm, q]; omega
      · rw [if_neg q, if_neg (fun z => q z.symm)]; omega
    rw [e] at ih
    have := wsl_up1 (A := A) (c := nb d) (v := gv d) hL
    rw [wsl_cons]
    omega
/-- the flow behind k cells of L -/
def mfw (w h : Nat) (H : Nat → Nat) (D : Nat → Bool) (sort sp fl : Nat) (L : List Nat) (k : Nat) (A : Nat → Nat) : Prop := (∀ x, wil w h x → A x = (if x = sp then fl else 0) + wsm (wfr w h H D sort A (fun b => b ∈ L.take k) x) 4) ∧ wsl A (L.drop k) ≤ fl ∧ (∀ x ∈ L.take k, A x ≤ fl) ∧ ∀ x, ¬ wil w h x → A x = 0
def mLs (w h : Nat) (H : Nat → Nat) (L : List Nat) : Prop := L.Nodup ∧ (∀ x, x ∈ L ↔ wil w h x) ∧ L.Pairwise (fun a b => H b ≤ H a)
theorem mfw_step {w h : Nat} {H : Nat → Nat} {D : Nat → Bool} {sort sp fl k c : Nat} {L : List Nat} {A : Nat → Nat} (hw : w ≤ 12) (hh : h ≤ 10) (hL : mLs w h H L) (hS : mfw w h H D sort sp fl L k A) (hg : L[k]? = some c) :
    mfw w h H D sort sp fl L (k + 1) (mpo (wnx w h c) (wgv sort (A c) (wdr w h H D c)) (wds (wdr w h H D c) 4) A) ∧ A c ≤ fl := by
  obtain ⟨hnd, hmem, hpw⟩ := hL
  obtain ⟨hfl, hcon, hdone, hz⟩ := hS
  have hk : k < L.length := (List.getElem?_eq_some_iff.mp hg).1
  have hcm : c ∈ L := List.mem_of_getElem? hg
  have hil := (hmem c).mp hcm
  have htk : L.take (k + 1) = L.take k ++ [c] := by rw [List.take_succ, hg]; rfl
  have hdk : L.drop k = c :: L.drop (k + 1) := by
    rw [List.drop_eq_getElem_cons hk]
    congr 1
    exact (List.getElem?_eq_some_iff.mp hg).2
  have hup : ∀ x ∈ L.take (k + 1), H c ≤ H x := by
    intro x hx
    rw [htk] at hx
    rcases List.mem_append.mp hx with hx | hx
    · rw [← List.take_append_drop k L, List.pairwise_append] at hpw
      exact hpw.2.2 x hx c (by rw [hdk]; exact List.mem_cons_self)
    · have : x = c := by simpa using hx
      subst this; exact Nat.le_refl _
  have hway : ∀ d ∈ wds (wdr w h H D c) 4, wil w h (wnx w h c d) ∧ H (wnx w h c d) < H c := by
    intro d hd
    obtain ⟨j, hj⟩ := List.getElem?_of_mem hd
    obtain ⟨d1, d2, -⟩ := wds_get _ 4 j d hj
    obtain ⟨q1, q2, q3, q4, q5⟩ := wdr_way hw hil d1 (wpo_t.mp d2)
    exact ⟨q2, q4⟩
  have hzero : ∀ x, (∀ d ∈ wds (wdr w h H D c) 4, wnx w h c d ≠ x) → mpo (wnx w h c) (wgv sort (A c) (wdr w h H D c)) (wds (wdr w h H D c) 4) A x = A x := by
    intro x hx
    unfold mpo
    have : ∀ (L : List Nat), (∀ d ∈ L, wnx w h c d ≠ x) → wsl (fun d => if wnx w h c d = x then wgv sort (A c) (wdr w h H D c) d else 0) L = 0 := by
      intro L
      induction L with
      | nil => intro _; rfl
      | cons a l ih =>
        intro hL
        rw [wsl_cons, ih (fun d hd => hL d (List.mem_cons_of_mem _ hd)), if_neg (hL a List.mem_cons_self)]
    rw [this _ hx, Nat.add_zero]
  have hsame : ∀ x ∈ L.take (k + 1), mpo (wnx w h c) (wgv sort (A c) (wdr w h H D c)) (wds (wdr w h H D c) 4) A x = A x := by
    intro x hx
    refine hzero x (fun d hd e => ?_)
    have := (hway d hd).2
    have := hup x hx
    rw [e] at *
    omega
  have hcfl : A c ≤ fl := by
    have := wsl_mem (A := A) (L := L.drop k) (x := c) (by rw [hdk]; exact List.mem_cons_self)
    omega
  have hsumgv : wsl (wgv sort (A c) (wdr w h H D c)) (wds (wdr w h H D c) 4) ≤ A c := by
    rw [wds_sl, wif_po]
    · exact wgv_sum
    · intro d hd
      unfold wgv
      rw [if_pos hd]
  refine ⟨⟨fun x hxl => ?_, ?_, fun x hx => ?_, fun x hx => ?_⟩, hcfl⟩
  · have e : mpo (wnx w h c) (wgv sort (A c) (wdr w h H D c)) (wds (wdr w h H D c) 4) A x = (if x = sp then fl else 0) + wsm (fun e => wfr w h H D sort A (fun b => b ∈ L.take k) x e + (if wnb w h x e = some c then wgv sort (A c) (wdr w h H D c) (wop e) else 0)) 4 := by
      unfold mpo
      rw [wturn hw hil hxl, wsm_add, ← Nat.add_assoc, ← hfl x hxl]
    refine e.trans ?_
    congr 1
    refine wsm_congr fun e he => ?_
    unfold wfr
    cases hnb : wnb w h x e with
    | none => simp
    | some b =>
      dsimp only
      have hmem2 : b ∈ L.take (k + 1) ↔ b ∈ L.take k ∨ b = c := by
        rw [htk, List.mem_append]
        simp
      by_cases e1 : b = c
      · subst e1
        have hnot : b ∉ L.take k := by
          intro z
          rw [← List.take_append_drop k L, List.nodup_append] at hnd
          exact hnd.2.2 b z b (by rw [hdk]; exact List.mem_cons_self) rfl
        rw [if_neg hnot, if_pos rfl, if_pos (hmem2.mpr (Or.inr rfl)), hsame b (hmem2.mpr (Or.inr rfl)), Nat.zero_add]
      · have hb2 : ¬ (some b = some c) := fun z => e1 (Option.some.inj z)
        rw [if_neg hb2, Nat.add_zero]
        by_cases e2 : b ∈ L.take k
        · rw [if_pos e2, if_pos (hmem2.mpr (Or.inl e2)), hsame b (hmem2.mpr (Or.inl e2))]
        · rw [if_neg e2, if_neg (fun z => (hmem2.mp z).elim e2 e1)]
  · have h5 : wsl A (L.drop k) = A c + wsl A (L.drop (k + 1)) := by rw [hdk, wsl_cons]
    have h6 := mpo_sum (nb := wnx w h c) (gv := wgv sort (A c) (wdr w h H D c)) (L := L.drop (k + 1)) (hnd.sublist (List.drop_sublist _ _)) (ds := wds (wdr w h H D c) 4) (A := A)
    omega
  · rw [hsame x hx]
    rw [htk] at hx
    rcases List.mem_append.mp hx with hx | hx
    · exact hdone x hx
    · have : x = c := by simpa using hx
      subst this; exact hcfl
  · rw [hzero x (fun d hd e => hx (by rw [← e]; exact (hway d hd).1))]
    exact hz x hx
theorem mfw_end {w h : Nat} {H : Nat → Nat} {D : Nat → Bool} {sort sp fl : Nat} {L : List Nat} {A : Nat → Nat} (hw : w ≤ 12) (hh : h ≤ 10) (hL : mLs w h H L) (hS : mfw w h H D sort sp fl L L.length A) (hH : ∀ x, x < 120 → H x ≤ 200) : (∀ x, x < 120 → wG w h H D sort sp fl x = A x) ∧ ∀ x, A x ≤ fl := by
  obtain ⟨hnd, hmem, hpw⟩ := hL
  obtain ⟨hfl, hcon, hdone, hz⟩ := hS
  rw [List.take_length] at hdone
  refine ⟨wG_eq hw hh ?_ hH (fun x _ hx => hz x hx), fun x => ?_⟩
  · intro x hx hxl
    refine (hfl x hxl).trans ?_
    congr 1
    refine wsm_congr fun e he => ?_
    unfold wfr
    cases hnb : wnb w h x e with
    | none => rfl
    | some b =>
      dsimp only
      rw [if_pos trivial, List.take_length, if_pos ((hmem b).mpr (wnb_sym hw he hxl hnb).2)]
  · by_cases q : wil w h x
    · exact hdone x ((hmem x).mpr q)
    · rw [hz x q]; exact Nat.zero_le _
theorem mfw_0 {w h : Nat} {H : Nat → Nat} {D : Nat → Bool} {sort sp fl : Nat} {L : List Nat} (hL : mLs w h H L) (hsp : wil w h sp) : mfw w h H D sort sp fl L 0 (fun x => if x = sp then fl else 0) := by
  refine ⟨fun x hx => ?_, ?_, fun x hx => ?_, fun x hx => ?_⟩
  · have : wsm (wfr w h H D sort (fun x => if x = sp then fl else 0) (fun b => b ∈ L.take 0) x) 4 = wsm (fun _ => 0) 4 := wsm_congr fun e he => by
      unfold wfr
      cases wnb w h x e with
      | none => rfl
      | some b => simp
    rw [this]
    rfl
  · rw [List.drop_zero]
    have e : (fun x => if x = sp then fl else 0) = va_up (fun _ => 0) sp fl := by
      funext x
      rw [zup_at]
    rw [e]
    have h1 := wsl_up1 (A := fun _ => 0) (c := sp) (v := fl) hL.1
    have h2 : ∀ l : List Nat, wsl (fun _ => 0) l = 0 := by
      intro l
      induction l with
      | nil => rfl
      | cons a l ih => rw [wsl_cons, ih]
    rw [h2, Nat.zero_add] at h1
    exact h1
  · rw [List.take_zero] at hx
    exact absurd hx List.not_mem_nil
  · show (if x = sp then fl else 0) = 0
    rw [if_neg]
    intro z
    rw [z] at hx
    exact hx hsp
/-- the list of an order -/
theorem mor_L {w h : Nat} {H o : Nat → Nat} (hw : 1 ≤ w) (hw2 : w ≤ 12) (hh : h ≤ 10) (ho : mor w h H (w * h) o) : mLs w h H ((List.range (w * h)).map o) ∧ ((List.range (w * h)).map o).length = w * h ∧ ∀ i, i < w * h → ((List.range (w * h)).map o)[i]? = some (o i) := by
  obtain ⟨h1, h2, h3⟩ := ho
  refine ⟨⟨?_, fun x => ⟨fun hx => ?_, fun hx => ?_⟩, ?_⟩, by simp, fun i hi => by simp [hi]⟩
  · unfold List.Nodup
    rw [List.pairwise_map]
    have := @List.pairwise_lt_range (w * h)
    refine this.imp_of_mem (fun {a b} ha hb hab => ?_)
    exact (h2 a b hab (List.mem_range.mp hb)).2
  · obtain ⟨i, hi, rfl⟩ := List.mem_map.mp hx
    exact (h1 i (List.mem_range.mp hi)).1
  · obtain ⟨i, hi, rfl⟩ := h3 x hx (mI_lt hw2 hh hx)
    exact List.mem_map.mpr ⟨i, List.mem_range.mpr hi, rfl⟩
  · rw [List.pairwise_map]
    have := @List.pairwise_lt_range (w * h)
    refine this.imp_of_mem (fun {a b} ha hb hab => ?_)
    exact (h2 a b hab (List.mem_range.mp hb)).1
theorem zmh.to {M M' : zMm} {w h : Nat} {H : Nat → Nat} {ks : List Nat} (hl : zmh M w h H) (hs : zsm ks M M') (h1 : 209 ∉ ks) : zmh M' w h H := fun e he => by
  rw [hs.at h1]; exact hl e he
theorem zmd.to {M M' : zMm} {w h : Nat} {D : Nat → Bool} {ks : List Nat} (hl : zmd M w h D) (hs : zsm ks M M') (h1 : 210 ∉ ks) : zmd M' w h D := fun e he => by
  rw [hs.at h1]; exact hl e he
theorem zmg.to {M M' : zMm} {w h : Nat} {G : Nat → Nat} {ks : List Nat} (hl : zmg M w h G) (hs : zsm ks M M') (h1 : 211 ∉ ks) : zmg M' w h G := fun e he => by
  rw [hs.at h1]; exact hl e he
theorem zmh.w {M : zMm} {w h : Nat} {H : Nat → Nat} (hl : zmh M w h H) {k j : Nat} {v : Int32} (hk : k ≠ 209) : zmh (zwI M k j v) w h H := fun e he => by
  rw [show (zwI M k j v).2.1 209 = M.2.1 209 from zw2_n (fun z => hk z.symm)]; exact hl e he
theorem zmd.w {M : zMm} {w h : Nat} {D : Nat → Bool} (hl : zmd M w h D) {k j : Nat} {v : Int32} (hk : k ≠ 210) : zmd (zwI M k j v) w h D := fun e he => by
  rw [show (zwI M k j v).2.1 210 = M.2.1 210 from zw2_n (fun z => hk z.symm)]; exact hl e he
theorem zmg.w {M : zMm} {w h : Nat} {G : Nat → Nat} (hl : zmg M w h G) {k j : Nat} {v : Int32} (hk : k ≠ 211) : zmg (zwI M k j v) w h G := fun e he => by
  rw [show (zwI M k j v).2.1 211 = M.2.1 211 from zw2_n (fun z => hk z.symm)]; exact hl e he
theorem zMS.to {M M' : zMm} {σ : wSP} {ks : List Nat} (hl : zMS M σ) (hs : zsm ks M M') (h1 : ∀ k ∈ ks, 207 ≤ k) : zMS M' σ := by
  have e : ∀ k, k ≤ 206 → M'.2.1 k = M.2.1 k := fun k hk => hs.at (fun z => by have := h1 k z; omega)
  unfold zMS
  rw [e 200 (by decide), e 201 (by decide), e 202 (by decide), e 203 (by decide), e 204 (by decide), e 205 (by decide), e 206 (by decide)]
  exact hl
theorem zMr.to {M M' : zMm} {ks : List Nat} (hl : zMr M) (hs : zsm ks M M') : zMr M' := by
  unfold zMr
  rw [hs.R]
  exact hl
