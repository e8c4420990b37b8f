/-! DeltaRuns startedYears -/
theorem zd_X7_startedYears_0 : decode cX7_startedYears 0 = .ok (.aload_n 0, 1) := by decide +kernel
theorem zd_X7_startedYears_1 : decode cX7_startedYears 1 = .ok (.getfield 39, 3) := by decide +kernel
theorem zd_X7_startedYears_4 : decode cX7_startedYears 4 = .ok (.iload_n 1, 1) := by decide +kernel
theorem zd_X7_startedYears_5 : decode cX7_startedYears 5 = .ok (.aaload, 1) := by decide +kernel
theorem zd_X7_startedYears_6 : decode cX7_startedYears 6 = .ok (.astore_n 2, 1) := by decide +kernel
theorem zd_X7_startedYears_7 : decode cX7_startedYears 7 = .ok (.aload_n 2, 1) := by decide +kernel
theorem zd_X7_startedYears_8 : decode cX7_startedYears 8 = .ok (.ifnonnull 18, 3) := by decide +kernel
theorem zd_X7_startedYears_11 : decode cX7_startedYears 11 = .ok (.new 37, 3) := by decide +kernel
theorem zd_X7_startedYears_14 : decode cX7_startedYears 14 = .ok (.dup, 1) := by decide +kernel
theorem zd_X7_startedYears_15 : decode cX7_startedYears 15 = .ok (.invokespecial 199, 3) := by decide +kernel
theorem zd_X7_startedYears_18 : decode cX7_startedYears 18 = .ok (.astore_n 2, 1) := by decide +kernel
theorem zd_X7_startedYears_19 : decode cX7_startedYears 19 = .ok (.aload_n 0, 1) := by decide +kernel
theorem zd_X7_startedYears_20 : decode cX7_startedYears 20 = .ok (.getfield 39, 3) := by decide +kernel
theorem zd_X7_startedYears_23 : decode cX7_startedYears 23 = .ok (.iload_n 1, 1) := by decide +kernel
theorem zd_X7_startedYears_24 : decode cX7_startedYears 24 = .ok (.aload_n 2, 1) := by decide +kernel
theorem zd_X7_startedYears_25 : decode cX7_startedYears 25 = .ok (.aastore, 1) := by decide +kernel
theorem zd_X7_startedYears_26 : decode cX7_startedYears 26 = .ok (.aload_n 2, 1) := by decide +kernel
theorem zd_X7_startedYears_27 : decode cX7_startedYears 27 = .ok (.getfield 177, 3) := by decide +kernel
theorem zd_X7_startedYears_30 : decode cX7_startedYears 30 = .ok (.ifCond .ge 15, 3) := by decide +kernel
theorem zd_X7_startedYears_33 : decode cX7_startedYears 33 = .ok (.aload_n 2, 1) := by decide +kernel
theorem zd_X7_startedYears_34 : decode cX7_startedYears 34 = .ok (.iconst 0, 1) := by decide +kernel
theorem zd_X7_startedYears_35 : decode cX7_startedYears 35 = .ok (.aload_n 0, 1) := by decide +kernel
theorem zd_X7_startedYears_36 : decode cX7_startedYears 36 = .ok (.getfield 10, 3) := by decide +kernel
theorem zd_X7_startedYears_39 : decode cX7_startedYears 39 = .ok (.getfield 171, 3) := by decide +kernel
theorem zd_X7_startedYears_42 : decode cX7_startedYears 42 = .ok (.invokevirtual 195, 3) := by decide +kernel
theorem zd_X7_startedYears_45 : decode cX7_startedYears 45 = .ok (.aload_n 2, 1) := by decide +kernel
theorem zd_X7_startedYears_46 : decode cX7_startedYears 46 = .ok (.areturn, 1) := by decide +kernel
def zb_X7_startedYears_45 (K : zKt) (J : Nat → zPP) (lc lz : Nat) : zPP := zT_ald 2 (zT_aret K)
theorem zbs_X7_startedYears_45 {X : zCt} (hR : zRX X = { frames := 2, cells := 2, slots := 467, locals := 40 }) (J : Nat → zPP) (hJ : ∀ h ∈ ([] : List Nat), zSd X RX7 "startedYears" cX7_startedYears 3 (some (.object "DeltaRuns$Years")) h (J h)) : zSd X RX7 "startedYears" cX7_startedYears 3 (some (.object "DeltaRuns$Years")) 45 (zb_X7_startedYears_45 (zKX X) J (zlc X) (zls X)) := zs_aload_n zd_X7_startedYears_45 rfl (zs_aret rfl zd_X7_startedYears_46)
def zb_X7_startedYears_26 (K : zKt) (J : Nat → zPP) (lc lz : Nat) : zPP := zT_ald 2 (zT_getI 6 1 2 (zT_if1 (fun x => 0 ≤ x) (zb_X7_startedYears_45 K J lc lz) (zT_ald 2 (zT_push (.int 0) (zT_ald 0 (zT_getR 7 0 9 (zT_getR 1 0 6 (zT_V2 zok 6 2 zc_X6_keep (zb_X7_startedYears_45 K J lc lz)))))))))
theorem zbs_X7_startedYears_26 {X : zCt} (hR : zRX X = { frames := 2, cells := 2, slots := 467, locals := 40 }) (J : Nat → zPP) (hJ : ∀ h ∈ ([] : List Nat), zSd X RX7 "startedYears" cX7_startedYears 3 (some (.object "DeltaRuns$Years")) h (J h)) : zSd X RX7 "startedYears" cX7_startedYears 3 (some (.object "DeltaRuns$Years")) 26 (zb_X7_startedYears_26 (zKX X) J (zlc X) (zls X)) := zs_aload_n zd_X7_startedYears_26 rfl (zs_getI (ci := 6) (j := 1) (T := TX6) rfl inX6 (by decide) gw_2_172 rfl zd_X7_startedYears_27 (zs_if_ge (tgt := 45) zd_X7_startedYears_30 (by decide) (zbs_X7_startedYears_45 hR J hJ) (zs_aload_n zd_X7_startedYears_33 rfl (zs_iconst zd_X7_startedYears_34 (by decide) (zs_aload_n zd_X7_startedYears_35 rfl (zs_getR (ci := 7) (j := 0) (T := TX7) rfl inX7 (by decide) gw_1_185 rfl zd_X7_startedYears_36 (zs_getR (ci := 1) (j := 0) (T := TX1) rfl inX1 (by decide) gw_1_34 rfl zd_X7_startedYears_39 (zs_V (ci := 6) rfl rfl (zm_X6_keep _ _ _) gw_2_182 gw_2_179 gw_2_180 gw_2_181 gw_1_14 zdn_X6_keep (zrm hR (by decide) (by decide)) zd_X7_startedYears_42 (zCl_V2 zok_l) (zbs_X7_startedYears_45 hR J hJ)))))))))
def zb_X7_startedYears_0 (K : zKt) (J : Nat → zPP) (lc lz : Nat) : zPP := zT_ald 0 (zT_getR 7 4 9 (zT_ild 1 (zT_aald (zT_ast 2 (zT_ald 2 (zT_ifn (zT_new 6 2 lc lz (zT_dup (zT_I0 (zlm 1 465 lc lz) zc_X6_init (zT_ast 2 (zT_ald 0 (zT_getR 7 4 9 (zT_ild 1 (zT_ald 2 (zT_aast (zb_X7_startedYears_26 K J lc lz)))))))))) (zb_X7_startedYears_26 K J lc lz)))))))
theorem zbs_X7_startedYears_0 {X : zCt} (hR : zRX X = { frames := 2, cells := 2, slots := 467, locals := 40 }) (J : Nat → zPP) (hJ : ∀ h ∈ ([] : List Nat), zSd X RX7 "startedYears" cX7_startedYears 3 (some (.object "DeltaRuns$Years")) h (J h)) : zSd X RX7 "startedYears" cX7_startedYears 3 (some (.object "DeltaRuns$Years")) 0 (zb_X7_startedYears_0 (zKX X) J (zlc X) (zls X)) := zs_aload_n zd_X7_startedYears_0 rfl (zs_getR (ci := 7) (j := 4) (T := TX7) rfl inX7 (by decide) gw_1_189 rfl zd_X7_startedYears_1 (zs_iload_n zd_X7_startedYears_4 rfl (zs_aald zd_X7_startedYears_5 (zs_astore_n zd_X7_startedYears_6 rfl (by decide) (zs_aload_n zd_X7_startedYears_7 rfl (zs_ifnonnull (tgt := 26) zd_X7_startedYears_8 (by decide) (zbs_X7_startedYears_26 hR J hJ) (zs_new (ci := 6) (T := TX6) rfl inX6 tyX6_ok gw_1_151 gw_2_165 gw_1_14 (by decide) rfl rfl zd_X7_startedYears_11 (zs_dup zd_X7_startedYears_14 (zs_IN rfl (zm_X6_init _ _ _) gw_2_168 (List.mem_of_getElem? (i := 6) rfl) gw_2_167 gw_1_14 zdn_X6_init (zrm hR (by decide) (by decide)) zd_X7_startedYears_15 (zCl_I0 zlm_l) (zs_astore_n zd_X7_startedYears_18 rfl (by decide) (zs_aload_n zd_X7_startedYears_19 rfl (zs_getR (ci := 7) (j := 4) (T := TX7) rfl inX7 (by decide) gw_1_189 rfl zd_X7_startedYears_20 (zs_iload_n zd_X7_startedYears_23 rfl (zs_aload_n zd_X7_startedYears_24 rfl (zs_aast zd_X7_startedYears_25 (zbs_X7_startedYears_26 hR J hJ))))))))))))))))
theorem zdn_X7_startedYears : yX7_startedYears.cls ≠ "java/lang/invoke/MethodHandle" ∧ yX7_startedYears.cls ≠ "java/lang/invoke/VarHandle" ∧ (parseMethodDescriptor yX7_startedYears.desc).map (fun d => d.parameters.length) = some 1 := by decide +kernel
/-! RUNS: what a run of a rule may change -/
def zrn (M M' : zMm) (r : Nat) : Prop :=
  ((M'.1 = M.1 ∧ M'.2.2.2 = M.2.2.2) ∨ (M.2.2.2 20 r = none ∧ M'.1 = M.1 ++ [zyi r, zyi r + 1] ∧ M'.2.2.2 20 r = some (zyi r) ∧ M'.2.2.2 (zyi r) 0 = some (zyi r + 1) ∧ ∀ k j, k ≠ zyi r → k ≠ zyi r + 1 → (k ≠ 20 ∨ j ≠ r) → M'.2.2.2 k j = M.2.2.2 k j)) ∧
  (∀ k, (k < 10 ∨ 20 ≤ k) → k ≠ zyi r → k ≠ zyi r + 1 → M'.2.1 k = M.2.1 k) ∧ (∀ k, k ≠ zyi r → k ≠ zyi r + 1 → M'.2.2.1 k = M.2.2.1 k)
theorem zrn.rf {M : zMm} {r : Nat} : zrn M M r := ⟨Or.inl ⟨rfl, rfl⟩, fun _ _ _ _ => rfl, fun _ _ _ => rfl⟩
theorem zrn.tr {M M' M'' : zMm} {r : Nat} (h : zrn M M' r) (h' : zrn M' M'' r) : zrn M M'' r := by
  obtain ⟨a1, a2, a3⟩ := h
  obtain ⟨b1, b2, b3⟩ := h'
  refine ⟨?_, fun k c1 c2 c3 => (b2 k c1 c2 c3).trans (a2 k c1 c2 c3), fun k c1 c2 => (b3 k c1 c2).trans (a3 k c1 c2)⟩
  rcases a1 with ⟨p1, p2⟩ | ⟨p1, p2, p3, p4, p5⟩
  · rcases b1 with ⟨q1, q2⟩ | ⟨q1, q2, q3, q4, q5⟩
    · exact Or.inl ⟨q1.trans p1, q2.trans p2⟩
    · exact Or.inr ⟨by rw [← p2]; exact q1, by rw [q2, p1], q3, q4, fun k j c1 c2 c3 => by rw [q5 k j c1 c2 c3, p2]⟩
  · rcases b1 with ⟨q1, q2⟩ | ⟨q1, -⟩
    · exact Or.inr ⟨p1, q1.trans p2, by rw [q2]; exact p3, by rw [q2]; exact p4, fun k j c1 c2 c3 => by rw [q2]; exact p5 k j c1 c2 c3⟩
    · rw [p3] at q1; cases q1
theorem zrn.len {M M' : zMm} {r : Nat} (h : zrn M M' r) : M.1.length ≤ M'.1.length ∧ M'.1.length ≤ M.1.length + 2 := by
  rcases h.1 with ⟨p1, -⟩ | ⟨-, p2, -⟩
  · rw [p1]; omega
  · rw [p2]; simp
theorem zrn.ref {M M' : zMm} {r : Nat} (h : zrn M M' r) {k j : Nat} (hk : k < 100) (hj : k ≠ 20 ∨ j ≠ r) : M'.2.2.2 k j = M.2.2.2 k j := by
  rcases h.1 with ⟨-, p2⟩ | ⟨-, -, -, -, p5⟩
  · rw [p2]
  · exact p5 k j (by unfold zyi; omega) (by unfold zyi; omega) hj
theorem zrn.row {M M' : zMm} {r k : Nat} (h : zrn M M' r) (hk : k < 10 ∨ (20 ≤ k ∧ k < 100)) : M'.2.1 k = M.2.1 k := h.2.1 k (by omega) (by unfold zyi; omega) (by unfold zyi; omega)
theorem zXr.run {M M' : zMm} {pk dk r : Nat} (h : zXr M pk dk) (hn : zrn M M' r) : zXr M' pk dk := by
  have e : ∀ {k j : Nat}, k < 20 → M'.2.2.2 k j = M.2.2.2 k j := fun hk => hn.ref (by omega) (Or.inl (by omega))
  have e2 : ∀ {j : Nat}, M'.2.2.2 21 j = M.2.2.2 21 j := hn.ref (by omega) (Or.inl (by omega))
  have e3 : ∀ {j : Nat}, M'.2.2.2 27 j = M.2.2.2 27 j := hn.ref (by omega) (Or.inl (by omega))
  unfold zXr zxw
  simp only [e (k := 0) (by decide), e (k := 1) (by decide), e (k := 3) (by decide), e (k := 5) (by decide), e (k := 10) (by decide), e2, e3]
  exact h
theorem zpl.run {M M' : zMm} {pk r : Nat} {acts : List wAc} (h : zpl M pk acts) (hn : zrn M M' r) : zpl M' pk acts := by
  obtain ⟨h1, h2⟩ := h
  have e : ∀ {k : Nat}, k < 6 → M'.2.1 (pk + k) = M.2.1 (pk + k) := fun hk => hn.row (by omega)
  have e0 : M'.2.1 pk = M.2.1 pk := hn.row (by omega)
  have er : ∀ {j : Nat}, M'.2.2.2 pk j = M.2.2.2 pk j := hn.ref (by omega) (Or.inl (by omega))
  refine ⟨h1, ?_⟩
  simp only [er, e0, e (k := 1) (by decide), e (k := 2) (by decide), e (k := 3) (by decide), e (k := 4) (by decide), e (k := 5) (by decide)]
  exact h2
theorem zyi_ne {r r' : Nat} (h : r' ≠ r) : zyi r' ≠ zyi r ∧ zyi r' ≠ zyi r + 1 ∧ zyi r' + 1 ≠ zyi r ∧ zyi r' + 1 ≠ zyi r + 1 := by
  unfold zyi
  omega
theorem zXI.run {M M' : zMm} {σ : wSP} {pk dk p r : Nat} (h : zXI M σ pk dk p) (hr : r < 36) (hn : zrn M M' r) (hw : ∃ S : wST, zwt M' S.1 S.2 ∧ wwf S)
    (hy : M'.2.2.2 20 r = some (zyi r) ∧ M'.2.2.2 (zyi r) 0 = some (zyi r + 1) ∧ (M'.2.1 (zyi r) 1 = -1 ∨ ∃ m, m ≤ 30 ∧ M'.2.1 (zyi r) 1 = nI m ∧ zys M' (zyi r) m (fun n => (wHD σ r n).1))) : zXI M' σ pk dk p := by
  obtain ⟨h1, h2, h3, h4, h5, h6, h7, h8, h9, -, h11, h12⟩ := h
  have e1 : M'.2.1 1 = M.2.1 1 := hn.row (by omega)
  have e2 : M'.2.1 2 = M.2.1 2 := hn.row (by omega)
  have e20 : ∀ r', r' ≠ r → M'.2.2.2 20 r' = M.2.2.2 20 r' := fun r' hr' => hn.ref (by omega) (Or.inr hr')
  refine ⟨h1.run hn, h2, by rw [e1]; exact h3, by rw [e1]; exact h4, by rw [e1]; exact h5, by rw [e1]; exact h6, by rw [e1]; exact h7, by rw [e2]; exact h8, h9.run hn, hw, fun r' hr' => ?_, ?_⟩
  · by_cases e : r' = r
    · subst e
      exact Or.inr hy
    · obtain ⟨n1, n2, n3, n4⟩ := zyi_ne e
      rcases h11 r' hr' with ⟨a1, a2, a3⟩ | ⟨a1, a2, a3⟩
      · refine Or.inl ⟨by rw [e20 r' e]; exact a1, ?_, ?_⟩
        · rcases hn.1 with ⟨p1, -⟩ | ⟨-, p2, -⟩
          · rw [p1]; exact a2
          · rw [p2, List.mem_append]
            rintro (z | z)
            · exact a2 z
            · simp at z; omega
        · rcases hn.1 with ⟨p1, -⟩ | ⟨-, p2, -⟩
          · rw [p1]; exact a3
          · rw [p2, List.mem_append]
            rintro (z | z)
            · exact a3 z
            · simp at z; omega
      · refine Or.inr ⟨by rw [e20 r' e]; exact a1, ?_, ?_⟩
        · rcases hn.1 with ⟨-, p2⟩ | ⟨-, -, -, -, p5⟩
          · rw [p2]; exact a2
          · rw [p5 _ _ n1 n2 (Or.inl (by unfold zyi; omega))]; exact a2
        · rw [hn.2.1 (zyi r') (by unfold zyi; omega) n1 n2]
          rcases a3 with a3 | ⟨m, m1, m2, m3⟩
          · exact Or.inl a3
          · refine Or.inr ⟨m, m1, m2, fun n hnn i hi => ?_⟩
            rw [hn.2.2 (zyi r' + 1) n3 n4]
            exact m3 n hnn i hi
  · obtain ⟨l1, l2, l3⟩ := h12
    rcases hn.1 with ⟨p1, p2⟩ | ⟨p1, p2, p3, p4, p5⟩
    · have : zlv M' = zlv M := by unfold zlv; rw [p2]
      unfold zLL
      rw [this, p1]
      exact ⟨l1, l2, l3⟩
    · have hc : wct (zlv M') 36 = wct (zlv M) 36 + 1 := wct_up hr (by unfold zlv; rw [p1]; rfl) (fun i hi => by
        by_cases e : i = r
        · subst e
          unfold zlv
          rw [p3, if_pos rfl]
          rfl
        · rw [if_neg e]
          unfold zlv
          rw [e20 i e])
      obtain ⟨y0, y1⟩ := zyk_sh (yk := zyi r) ⟨r, hr, rfl⟩
      have z0 : zsz (zyi r) = 2 := zsz_obj y0
      have z1 : zsz (zyi r + 1) = 465 := by unfold zsz; rw [y1]; rfl
      refine ⟨?_, ?_, fun k hk h5 => ?_⟩
      · rw [p2, hc, List.length_append, l1]
        simp
        omega
      · rw [p2, hc]
        have : zss (M.1 ++ [zyi r, zyi r + 1]) = zss M.1 + 467 := by
          unfold zss
          rw [List.map_append, List.sum_append]
          simp [z0, z1]
        rw [this, l2]
        omega
      · rw [p2, List.mem_append] at hk
        rcases hk with hk | hk
        · exact l3 k hk h5
        · simp at hk
          unfold zyi at hk
          omega
def zc_X7_startedYears (a : List Value) (M : zMm) (K : zKt) : Prop := match a with
  | [.ref k, .int x] => k = 0 ∧ ∃ r σ pk dk p, x = nI r ∧ r < 36 ∧ zXI M σ pk dk p ∧ ∀ M' m, zrn M M' r → zXI M' σ pk dk p → (∀ k, 10 ≤ k → k < 20 → M'.2.1 k = M.2.1 k) → M'.2.2.2 20 r = some (zyi r) → M'.2.2.2 (zyi r) 0 = some (zyi r + 1) → m ≤ 30 → M'.2.1 (zyi r) 1 = nI m → zys M' (zyi r) m (fun n => (wHD σ r n).1) → K (some (.ref (zyi r))) M'
  | _ => False
set_option maxHeartbeats 2000000 in
theorem zm_X7_startedYears (l : Launch) (D : va_G) (Y : Nat → ClassId) : zMt l D Y yX7_startedYears cX7_startedYears 3 (some (.object "DeltaRuns$Years")) 2 40 2 467 zc_X7_startedYears := by
  refine zflat (by decide) (fun K J lc lz => zb_X7_startedYears_0 K J lc lz) (fun X hR => zbs_X7_startedYears_0 hR zJ0 zJ0_ok) (fun avs M K h => ?_)
  unfold zc_X7_startedYears at h
  split at h
  · next k x =>
    obtain ⟨rfl, r, σ, pk, dk, p, rfl, hr, hxi, h⟩ := h
    have hXI := hxi
    obtain ⟨hxr, hok, w1, w2, w3, w4, w5, hg, hpl, ⟨S, hS1, hS2⟩, hYS, hLL⟩ := hxi
    obtain ⟨a0, a1, a2, a3, a4, -⟩ := hxr
    obtain ⟨y0, y1⟩ := zyk_sh (yk := zyi r) ⟨r, hr, rfl⟩
    have hrne : zyi r = 100 + 2 * r := rfl
    refine ⟨by simp [zent], ?_⟩
    -- from the join on: the object is there
    have wtk : ∀ M1, (∀ k, 10 ≤ k → k < 20 → M1.2.1 k = M.2.1 k) → zwt M1 S.1 S.2 := by
      intro M1 h1
      unfold zwt
      rw [h1 13 (by decide) (by decide), h1 15 (by decide) (by decide), h1 10 (by decide) (by decide)]
      exact hS1
    have join : ∀ M1, zrn M M1 r → (∀ k, 10 ≤ k → k < 20 → M1.2.1 k = M.2.1 k) → M1.2.2.2 20 r = some (zyi r) → M1.2.2.2 (zyi r) 0 = some (zyi r + 1) → (M1.2.1 (zyi r) 1 = -1 ∨ ∃ m, m ≤ 30 ∧ M1.2.1 (zyi r) 1 = nI m ∧ zys M1 (zyi r) m (fun n => (wHD σ r n).1)) → zb_X7_startedYears_26 K zJ0 (M.1.length + 2) (zss M.1 + 467) M1 [some (.ref 0), some (.int (nI r)), some (.ref (zyi r))] [] := by
      intro M1 hn hw hr1 hr2 hlat
      have hxi1 := hXI.run hr hn ⟨S, wtk M1 hw, hS2⟩ ⟨hr1, hr2, hlat⟩
      obtain ⟨b0, -, -, -, -, -, -, b7, -⟩ := hxi1.1
      have e2 : M1.2.1 2 = M.2.1 2 := hn.row (by omega)
      simp only [zb_X7_startedYears_26, zb_X7_startedYears_45, y0, zsh_0, zsh_1, b0, b7, zT_push, zT_bin, zT_div, zT_bil, zT_shl, zT_un, zT_i2l, zT_l2i, zT_lcmp, zT_ild, zT_lld, zT_ald, zT_ist, zT_lst, zT_ast, zT_iinc, zT_dup, zT_dup2, zT_pop, zT_if1, zT_if2, zT_ifn, zT_getI, zT_getJ, zT_getR, zT_putI, zT_putZ, zT_putJ, zT_putR, zT_ald0, zT_lald, zT_aald, zT_iast, zT_zast, zT_bast, zT_last, zT_aast, zT_iret, zT_nret, zT_aret, zT_vret, zT_oi, zT_mm, zT_ialX, zT_S1, zT_S2, zT_S3, zT_V0, zT_V1, zT_V2, zT_V3, zT_V4, zT_V5, zT_V6, zT_I0, zT_I1, zT_I2, zlg, zlset, zlpr, zent, zok, va_rf, List.length_cons, List.length_nil, List.replicate, List.cons_append, List.nil_append, List.append_nil, Option.toList_some, Option.toList_none, Option.toList, Nat.reduceAdd, Nat.reduceSub, Nat.reduceLeDiff, Nat.zero_add, Nat.zero_le, true_and, and_true, Nat.le_refl, ge_iff_le, Nat.reduceEqDiff]
      refine ⟨fun h1 => ?_, fun h1 => ?_⟩
      · rcases hlat with hl | ⟨m, m1, m2, m3⟩
        · rw [hl] at h1; exact absurd h1 (by decide)
        · exact h M1 m hn hxi1 hw hr1 hr2 m1 m2 m3
      · have hl : M1.2.1 (zyi r) 1 = -1 := by
          rcases hlat with hl | ⟨m, m1, m2, m3⟩
          · exact hl
          · rw [m2] at h1; exact absurd (nI_pos' (by omega)) h1
        unfold zc_X6_keep
        dsimp only
        refine ⟨⟨⟨r, hr, rfl⟩, hr2⟩, Or.inl rfl, 0, sG σ, rfl, by decide, fun e he => ⟨by rw [e2]; exact hg e he, hok.2.2.2.2.2.2.2.2 e⟩, fun M2 c1 c2 c3 c4 c5 c6 c7 => ?_⟩
        have hn2 : zrn M M2 r := hn.tr ⟨Or.inl ⟨c1, c2⟩, fun k q1 q2 q3 => c6 k q2, fun k q1 q2 => c3 k q2⟩
        have hw2 : ∀ k, 10 ≤ k → k < 20 → M2.2.1 k = M.2.1 k := fun k q1 q2 => by rw [c6 k (by omega)]; exact hw k q1 q2
        have hz2 : zys M2 (zyi r) 0 (fun n => (wHD σ r n).1) := fun n hn0 i hi => by
          have : n = 0 := by omega
          subst this
          exact c5 i hi
        have hr12 : M2.2.2.2 20 r = some (zyi r) := by rw [c2]; exact hr1
        have hr22 : M2.2.2.2 (zyi r) 0 = some (zyi r + 1) := by rw [c2]; exact hr2
        have hxi2 := hXI.run hr hn2 ⟨S, wtk M2 hw2, hS2⟩ ⟨hr12, hr22, Or.inr ⟨0, by decide, c7, hz2⟩⟩
        exact h M2 0 hn2 hxi2 hw2 hr12 hr22 (by decide) c7 hz2
    simp only [zb_X7_startedYears_0, zT_new, zsh_0, zsh_20, a4, zT_push, zT_bin, zT_div, zT_bil, zT_shl, zT_un, zT_i2l, zT_l2i, zT_lcmp, zT_ild, zT_lld, zT_ald, zT_ist, zT_lst, zT_ast, zT_iinc, zT_dup, zT_dup2, zT_pop, zT_if1, zT_if2, zT_ifn, zT_getI, zT_getJ, zT_getR, zT_putI, zT_putZ, zT_putJ, zT_putR, zT_ald0, zT_lald, zT_aald, zT_iast, zT_zast, zT_bast, zT_last, zT_aast, zT_iret, zT_nret, zT_aret, zT_vret, zT_oi, zT_mm, zT_ialX, zT_S1, zT_S2, zT_S3, zT_V0, zT_V1, zT_V2, zT_V3, zT_V4, zT_V5, zT_V6, zT_I0, zT_I1, zT_I2, zlg, zlset, zlpr, zent, zok, va_rf, List.length_cons, List.length_nil, List.replicate, List.cons_append, List.nil_append, List.append_nil, Option.toList_some, Option.toList_none, Option.toList, Nat.reduceAdd, Nat.reduceSub, Nat.reduceLeDiff, Nat.zero_add, Nat.zero_le, true_and, and_true, Nat.le_refl, ge_iff_le, Nat.reduceEqDiff]
    rw [nI_clamp (by omega)]
    refine ⟨vp_in_nI hr (by decide), ?_⟩
    rcases hYS r hr with ⟨q1, q2, q3⟩ | ⟨q1, q2, q3⟩
    · rw [q1]
      dsimp only
      refine ⟨zyi r, q2, y0, by omega, by omega, ⟨by simp [znw], ?_⟩, by decide, ?_⟩
      · show zss (M.1 ++ [zyi r]) + 465 ≤ _
        rw [zss_app, zsz_obj y0]
        omega
      · unfold zc_X6_init
        dsimp only
        refine ⟨⟨r, hr, rfl⟩, ?_, fun M1 hM1 => ?_⟩
        · show zyi r + 1 ∉ M.1 ++ [zyi r]
          rw [List.mem_append]
          rintro (z | z)
          · exact q3 z
          · simp at z
        · have rr : ∀ k j, k ≠ zyi r → k ≠ zyi r + 1 → M1.2.2.2 k j = M.2.2.2 k j := by
            intro k j c1 c2
            rw [hM1]
            show zw2 (zrw (zrw M.2.2.2 (zyi r) none) (zyi r + 1) none) (zyi r) 0 (some (zyi r + 1)) k j = _
            rw [zw2_n c1, zrw_n c2, zrw_n c1]
          have ri : ∀ k, k ≠ zyi r → k ≠ zyi r + 1 → M1.2.1 k = M.2.1 k := by
            intro k c1 c2
            rw [hM1]
            show zw2 (zrw (zrw M.2.1 (zyi r) 0) (zyi r + 1) 0) (zyi r) 1 (-1) k = _
            rw [zw2_n c1, zrw_n c2, zrw_n c1]
          have rj : ∀ k, k ≠ zyi r → k ≠ zyi r + 1 → M1.2.2.1 k = M.2.2.1 k := by
            intro k c1 c2
            rw [hM1]
            show zrw (zrw M.2.2.1 (zyi r) 0) (zyi r + 1) 0 k = _
            rw [zrw_n c2, zrw_n c1]
          have rL : M1.1 = M.1 ++ [zyi r, zyi r + 1] := by
            rw [hM1]
            show (M.1 ++ [zyi r]) ++ [zyi r + 1] = _
            rw [List.append_assoc]
            rfl
          have r0 : M1.2.2.2 (zyi r) 0 = some (zyi r + 1) := by
            rw [hM1]
            show zw2 (zrw (zrw M.2.2.2 (zyi r) none) (zyi r + 1) none) (zyi r) 0 (some (zyi r + 1)) (zyi r) 0 = _
            rw [zw2_s, zup_s]
          have rl : M1.2.1 (zyi r) 1 = -1 := by
            rw [hM1]
            show zw2 (zrw (zrw M.2.1 (zyi r) 0) (zyi r + 1) 0) (zyi r) 1 (-1) (zyi r) 1 = _
            rw [zw2_s, zup_s]
          have a4' : M1.2.2.2 0 4 = some 20 := by rw [rr 0 4 (by omega) (by omega)]; exact a4
          clear hM1
          simp only [zsh_0, zsh_20, a4', y0, zT_push, zT_bin, zT_div, zT_bil, zT_shl, zT_un, zT_i2l, zT_l2i, zT_lcmp, zT_ild, zT_lld, zT_ald, zT_ist, zT_lst, zT_ast, zT_iinc, zT_dup, zT_dup2, zT_pop, zT_if1, zT_if2, zT_ifn, zT_getI, zT_getJ, zT_getR, zT_putI, zT_putZ, zT_putJ, zT_putR, zT_ald0, zT_lald, zT_aald, zT_iast, zT_zast, zT_bast, zT_last, zT_aast, zT_iret, zT_nret, zT_aret, zT_vret, zT_oi, zT_mm, zT_ialX, zT_S1, zT_S2, zT_S3, zT_V0, zT_V1, zT_V2, zT_V3, zT_V4, zT_V5, zT_V6, zT_I0, zT_I1, zT_I2, zlg, zlset, zlpr, zent, zok, va_rf, List.length_cons, List.length_nil, List.replicate, List.cons_append, List.nil_append, List.append_nil, Option.toList_some, Option.toList_none, Option.toList, Nat.reduceAdd, Nat.reduceSub, Nat.reduceLeDiff, Nat.zero_add, Nat.zero_le, true_and, and_true, Nat.le_refl, ge_iff_le, Nat.reduceEqDiff]
          rw [nI_clamp (by omega)]
          refine ⟨vp_in_nI hr (by decide), join _ ⟨Or.inr ⟨q1, rL, ?_, ?_, fun k j c1 c2 c3 => ?_⟩, fun k c1 c2 c3 => ri k c2 c3, fun k c1 c2 => rj k c1 c2⟩ (fun k c1 c2 => ri k (by omega) (by omega)) ?_ ?_ (Or.inl rl)⟩
          · simp only [zwI_L, zwI_I, zwI_J, zwI_R, zwJ_L, zwJ_I, zwJ_J, zwJ_R, zwR_L, zwR_I, zwR_J, zwR_R, zw2_s, zw2_n, ne_eq, not_false_eq_true, reduceCtorEq, not_true_eq_false, Nat.reduceEqDiff]; rw [zup_s]
          · simp only [zwI_L, zwI_I, zwI_J, zwI_R, zwJ_L, zwJ_I, zwJ_J, zwJ_R, zwR_L, zwR_I, zwR_J, zwR_R, zw2_s, zw2_n, ne_eq, not_false_eq_true, reduceCtorEq, not_true_eq_false, Nat.reduceEqDiff]
            rw [zw2_n (by omega)]; exact r0
          · simp only [zwI_L, zwI_I, zwI_J, zwI_R, zwJ_L, zwJ_I, zwJ_J, zwJ_R, zwR_L, zwR_I, zwR_J, zwR_R, zw2_s, zw2_n, ne_eq, not_false_eq_true, reduceCtorEq, not_true_eq_false, Nat.reduceEqDiff]
            by_cases e : k = 20
            · subst e
              rw [zw2_s, zup_n (by omega)]
              exact rr 20 j c1 c2
            · rw [zw2_n e]
              exact rr k j c1 c2
          · simp only [zwI_L, zwI_I, zwI_J, zwI_R, zwJ_L, zwJ_I, zwJ_J, zwJ_R, zwR_L, zwR_I, zwR_J, zwR_R, zw2_s, zw2_n, ne_eq, not_false_eq_true, reduceCtorEq, not_true_eq_false, Nat.reduceEqDiff]; rw [zup_s]
          · simp only [zwI_L, zwI_I, zwI_J, zwI_R, zwJ_L, zwJ_I, zwJ_J, zwJ_R, zwR_L, zwR_I, zwR_J, zwR_R, zw2_s, zw2_n, ne_eq, not_false_eq_true, reduceCtorEq, not_true_eq_false, Nat.reduceEqDiff]
            rw [zw2_n (by omega)]; exact r0
    · rw [q1]
      dsimp only
      exact join M zrn.rf (fun _ _ _ => rfl) q1 q2 q3
  · exact h.elim
