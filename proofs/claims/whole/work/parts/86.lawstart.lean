/-! THE LAW: what the start gives -/
theorem lm_1 {i : Nat} {w : Cond} (h : tables_1_1[i]? = some w) : w ∈ lw_tbl := List.mem_append_right _ (List.mem_append_left _ (List.mem_of_getElem? h))
theorem lm_2 {i : Nat} {w : Cond} (h : tables_1_2[i]? = some w) : w ∈ lw_tbl := List.mem_append_right _ (List.mem_append_right _ (List.mem_append_left _ (List.mem_of_getElem? h)))
def ltm (i : Nat) : Term := .string "DeltaRuns$Reader" (zSi i)
abbrev lfl : List Cond := flatC (Jvm.Cond.and given_1 narrow_1)
theorem ls_ex : ∀ i, i < 8 → Cond.exactly (ltm i) "java/lang/String" ∈ lfl := by decide +kernel
theorem ls_co : ∀ i, i < 8 → Cond.eq (.field (ltm i) "java/lang/String" "coder" "B") (.int 0) ∈ lfl := by decide +kernel
theorem ls_ar : ∀ i, i < 8 → Cond.arrayOf (.field (ltm i) "java/lang/String" "value" "[B") .byte ∈ lfl := by decide +kernel
theorem ls_le : ∀ i, i < 8 → Cond.eq (.length (.field (ltm i) "java/lang/String" "value" "[B")) (.int (Int32.ofNat (zSl.getD i 0))) ∈ lfl := by decide +kernel
theorem ls_el : ∀ i, i < 8 → ∀ j, j < zSl.getD i 0 → Cond.eq (.elem (.field (ltm i) "java/lang/String" "value" "[B") (.int (Int32.ofNat j))) (.int ((zSb.getD i []).getD j 0)) ∈ lfl := by decide +kernel
theorem ls_ne : ∀ i, i < 8 → ∀ j, j < 8 → i ≠ j → Cond.not (Cond.eq (ltm i) (ltm j)) ∈ lfl ∨ Cond.not (Cond.eq (ltm j) (ltm i)) ∈ lfl := by decide +kernel
theorem ls_n : ∀ i, i < 8 → zSl.getD i 0 < 2 ^ 31 := by decide
theorem lx_ar : Cond.arrayOf (.static "DeltaRuns" "SIDE_X" "[I") .int ∈ lfl := by decide +kernel
theorem lx_le : Cond.eq (.length (.static "DeltaRuns" "SIDE_X" "[I")) (.int (Int32.ofNat 4)) ∈ lfl := by decide +kernel
theorem lx_el : ∀ j, j < 4 → Cond.eq (.elem (.static "DeltaRuns" "SIDE_X" "[I") (.int (Int32.ofNat j))) (.int (zXs j)) ∈ lfl := by decide +kernel
theorem ly_ar : Cond.arrayOf (.static "DeltaRuns" "SIDE_Y" "[I") .int ∈ lfl := by decide +kernel
theorem ly_le : Cond.eq (.length (.static "DeltaRuns" "SIDE_Y" "[I")) (.int (Int32.ofNat 4)) ∈ lfl := by decide +kernel
theorem ly_el : ∀ j, j < 4 → Cond.eq (.elem (.static "DeltaRuns" "SIDE_Y" "[I") (.int (Int32.ofNat j))) (.int (zYs j)) ∈ lfl := by decide +kernel
theorem lz_cs : Cond.eq (.static "java/lang/String" "COMPACT_STRINGS" "Z") (.int 1) ∈ lfl := by decide +kernel
theorem lz_sf : Cond.isRef (.static "jdk/internal/util/Preconditions" "SIOOBE_FORMATTER" "Ljava/util/function/BiFunction;") ∈ lfl := by decide +kernel
theorem larr {args : Array Value} {s : State} {ty : FieldType} (h : (Cond.arrayClass ty).before args s = true) : ∃ cA : ClassId, ArrOfT s cA ty ∧ s.vm.findClass ("[" ++ ty.toString) = some cA := by
  obtain ⟨cA, kA, comp, h1, h2, h3⟩ := Cond.arrayClass_spec h
  exact ⟨cA, fun n z => ⟨fun k h => (by cases h), kA, h2, comp, h3⟩, h1⟩
theorem lover {args : Array Value} {s : State} {C : String} (h : (Cond.arrayOver (.object C)).before args s = true) : ∃ cA : ClassId, ArrOfT s cA (.object C) ∧ va_RA s cA (.object C) := by
  obtain ⟨comp, cA, kA, h1, -, h3, h4, h5⟩ := Cond.arrayOver_spec h
  exact ⟨cA, fun n z => ⟨fun k h => (by cases h), kA, h3, comp, h4⟩, kA, comp, h3, h4, h1, h5⟩
set_option maxHeartbeats 2000000 in
theorem lw_ctx {p : Program} {s : State} {m : MethodId} {meth : Method} {c : Code} {b L : Nat} {xs : Nat → Int32} (C0 : lw_At p s m meth c b L xs) : ∃ (D : va_G) (Y : Nat → ClassId) (ad0 : Nat → Nat), lCx p s m meth c b L xs D Y ad0 := by
  obtain ⟨hx, hb, hr, hml, hown, hts, hX, hbl, hlocks, hgv⟩ := id C0
  have htg : ∀ w ∈ gT, w.before #[Value.ref b] s = true := fun w hw => hts w (gT_sub hw)
  have hn : ∀ w ∈ lfl, w.before #[Value.ref b] s = true := flat_of_before _ hgv
  have hA : ∀ a : Nat, a < s.heap.size → ¬ (fun q : Nat => s.heap.size ≤ q) a := fun a h => Nat.not_le.mpr h
  obtain ⟨c0, i0, k0⟩ := u_known (C := RX0) (T := TX0) (N := 5) (n := 5) htg inX0 (htg _ gw_1_79)
  obtain ⟨c1, i1, k1⟩ := u_known (C := RX1) (T := TX1) (N := 6) (n := 6) htg inX1 (htg _ gw_1_24)
  obtain ⟨c2, i2, k2⟩ := u_known (C := RX2) (T := TX2) (N := 6) (n := 6) htg inX2 (htg _ gw_1_154)
  obtain ⟨c3, i3, k3⟩ := u_known (C := RX3) (T := TX3) (N := 5) (n := 5) htg inX3 (htg _ gw_2_34)
  obtain ⟨c4, i4, k4⟩ := u_known (C := RX4) (T := TX4) (N := 2) (n := 2) htg inX4 (htg _ gw_1_62)
  obtain ⟨c5, i5, k5⟩ := u_known (C := RX5) (T := TX5) (N := 11) (n := 11) htg inX5 (htg _ gw_1_106)
  obtain ⟨c6, i6, k6⟩ := u_known (C := RX6) (T := TX6) (N := 2) (n := 2) htg inX6 (htg _ gw_2_165)
  obtain ⟨c7, i7, k7⟩ := u_known (C := RX7) (T := TX7) (N := 9) (n := 9) htg inX7 (htg _ gw_1_16)
  obtain ⟨c8, i8, k8⟩ := u_known (C := RX8) (T := TX8) (N := 38) (n := 38) htg inX8 (htg _ gw_3_80)
  obtain ⟨a0, b0, e0⟩ := larr (htg _ gw_1_60)
  obtain ⟨a1, b1, e1⟩ := larr (htg _ gw_1_150)
  obtain ⟨a2, b2, e2⟩ := larr (htg _ gw_1_77)
  obtain ⟨a3, b3, e3⟩ := larr (htg _ gw_2_178)
  obtain ⟨a4, b4, e4⟩ := lover (C := RX6) (hts _ (lm_1 (i := 152) rfl))
  obtain ⟨tX, ftX, hTX⟩ := va_Tof (A := fun q : Nat => s.heap.size ≤ q) (f := fun j => .int (zXs j)) (N := 4) (by decide) (hn _ lx_ar) (va_eqt (hn _ lx_le)) (fun j hj => va_eqt (hn _ (lx_el j hj))) hA
  obtain ⟨tY, ftY, hTY⟩ := va_Tof (A := fun q : Nat => s.heap.size ≤ q) (f := fun j => .int (zYs j)) (N := 4) (by decide) (hn _ ly_ar) (va_eqt (hn _ ly_le)) (fun j hj => va_eqt (hn _ (ly_el j hj))) hA
  obtain ⟨adK, adV, hSS, hSe⟩ := vk_Sof (A := fun q : Nat => s.heap.size ≤ q) (N := 8) (tm := ltm) (len := zSl) (byt := zSb) ls_n (fun i hi => hn _ (ls_ex i hi)) (fun i hi => hn _ (ls_co i hi)) (fun i hi => hn _ (ls_ar i hi)) (fun i hi => hn _ (ls_le i hi)) (fun i hi j hj => hn _ (ls_el i hi j hj)) (fun i j hi hj hij => (ls_ne i hi j hj hij).elim (fun z => Or.inl (hn _ z)) (fun z => Or.inr (hn _ z))) hA
  have hZX := va_Zof (A := fun q : Nat => s.heap.size ≤ q) (hts _ (lm_2 (i := 234) rfl)) (htg _ gw_1_1) ftX hA
  have hZY := va_Zof (A := fun q : Nat => s.heap.size ≤ q) (hts _ (lm_2 (i := 236) rfl)) (htg _ gw_1_1) ftY hA
  have hZC := va_Zof (A := fun q : Nat => s.heap.size ≤ q) (hts _ (lm_2 (i := 91) rfl)) (htg _ gw_1_9) (va_eqi (hn _ lz_cs)) hA
  have hZF := va_Zqof (A := fun q : Nat => s.heap.size ≤ q) (hts _ (lm_2 (i := 107) rfl)) (htg _ gw_1_11) (hn _ lz_sf) hA
  obtain ⟨tF, hZF⟩ : ∃ tF : Nat, va_Z "jdk/internal/util/Preconditions" "SIOOBE_FORMATTER" "Ljava/util/function/BiFunction;" .null (fun q : Nat => s.heap.size ≤ q) s s.heap ∨ va_Z "jdk/internal/util/Preconditions" "SIOOBE_FORMATTER" "Ljava/util/function/BiFunction;" (.ref tF) (fun q : Nat => s.heap.size ≤ q) s s.heap := by
    rcases hZF with h | ⟨t, h⟩
    · exact ⟨0, Or.inl h⟩
    · exact ⟨t, Or.inr h⟩
  obtain ⟨ad0, x1, x2, x3, x4, x5⟩ : ∃ ad0 : Nat → Nat, ad0 2001 = tX ∧ ad0 2002 = tY ∧ ad0 2003 = tF ∧ (∀ i, i < 8 → ad0 (2010 + i) = adK i) ∧ ∀ i, i < 8 → ad0 (2020 + i) = adV i := by
    refine ⟨fun k => if k = 2001 then tX else if k = 2002 then tY else if k = 2003 then tF else if k < 2020 then adK (k - 2010) else adV (k - 2020), rfl, rfl, rfl, fun i hi => ?_, fun i hi => ?_⟩
    · dsimp only
      rw [if_neg (by omega), if_neg (by omega), if_neg (by omega), if_pos (by omega), show 2010 + i - 2010 = i by omega]
    · dsimp only
      rw [if_neg (by omega), if_neg (by omega), if_neg (by omega), if_neg (by omega), show 2020 + i - 2020 = i by omega]
  refine ⟨(fun k => match k with | 0 => c0 | 1 => c1 | 2 => c2 | 3 => c3 | 4 => c4 | 5 => c5 | 6 => c6 | 7 => c7 | _ => c8, fun k => match k with | 0 => i0 | 1 => i1 | 2 => i2 | 3 => i3 | 4 => i4 | 5 => i5 | 6 => i6 | 7 => i7 | _ => i8), fun k => match k with | 0 => a0 | 1 => a1 | 2 => a2 | 3 => a3 | _ => a4, ad0, C0, ⟨fun k q hq => ?_, fun k q hq => ?_⟩, ?_⟩
  · match k, hq with
    | 0, hq => cases hq; exact k0
    | 1, hq => cases hq; exact k1
    | 2, hq => cases hq; exact k2
    | 3, hq => cases hq; exact k3
    | 4, hq => cases hq; exact k4
    | 5, hq => cases hq; exact k5
    | 6, hq => cases hq; exact k6
    | 7, hq => cases hq; exact k7
    | 8, hq => cases hq; exact k8
    | k + 9, hq => simp [vwCl] at hq
  · match k, hq with
    | 0, hq => cases hq; exact ⟨b0, e0⟩
    | 1, hq => cases hq; exact ⟨b1, e1⟩
    | 2, hq => cases hq; exact ⟨b2, e2⟩
    | 3, hq => cases hq; exact ⟨b3, e3⟩
    | 4, hq => cases hq; exact ⟨b4, e4⟩
    | k + 5, hq => simp [zTY] at hq
  · have nw : ∀ w, w.onTables = true → w ∈ lw_tbl → va_Nw w s := fun w h1 h2 => va_Nw.of h1 (hts w h2)
    refine ⟨?_, nw _ rfl (lm_2 (i := 233) rfl), nw _ rfl (lm_2 (i := 235) rfl), va_AO.of (hts _ (lm_1 (i := 152) rfl)), by rw [x1]; exact hZX, by rw [x1]; exact hTX, by rw [x2]; exact hZY, by rw [x2]; exact hTY, ?_, fun i hi => ?_, hZC, by rw [x3]; exact hZF⟩
    · exact List.forall_mem_cons.mpr ⟨nw _ rfl (lm_1 (i := 63) rfl), List.forall_mem_cons.mpr ⟨nw _ rfl (lm_1 (i := 80) rfl), List.forall_mem_cons.mpr ⟨nw _ rfl (lm_1 (i := 107) rfl), List.forall_mem_cons.mpr ⟨nw _ rfl (lm_1 (i := 155) rfl), List.forall_mem_cons.mpr ⟨nw _ rfl (lm_2 (i := 5) rfl), List.forall_mem_cons.mpr ⟨nw _ rfl (lm_2 (i := 137) rfl), List.forall_mem_cons.mpr ⟨nw _ rfl (lm_2 (i := 166) rfl), List.forall_mem_cons.mpr ⟨nw _ rfl (lm_2 (i := 196) rfl), List.forall_mem_cons.mpr ⟨nw _ rfl (lm_2 (i := 238) rfl), fun _ h => absurd h List.not_mem_nil⟩⟩⟩⟩⟩⟩⟩⟩⟩
    · refine ⟨fun i hi => ?_, fun i j hi hj e => ?_⟩
      · dsimp only
        rw [x4 i hi, x5 i hi]
        exact hSS.1 i hi
      · dsimp only at e
        rw [x4 i hi, x4 j hj] at e
        exact hSS.2 i j hi hj e
    · rw [x4 i hi]
      refine vk_R.of (A := #[Value.ref b]) ?_ (hSe i hi)
      have : ∀ i, i < 8 → Cond.stringRef RX3 (zSi i) (zSt i) ∈ lw_tbl := by
        intro i hi
        match i, hi with
        | 0, _ => exact lm_2 (i := 77) rfl
        | 1, _ => exact lm_2 (i := 142) rfl
        | 2, _ => exact lm_2 (i := 143) rfl
        | 3, _ => exact lm_2 (i := 144) rfl
        | 4, _ => exact lm_2 (i := 145) rfl
        | 5, _ => exact lm_2 (i := 146) rfl
        | 6, _ => exact lm_2 (i := 147) rfl
        | 7, _ => exact lm_2 (i := 148) rfl
        | i + 8, hi => omega
      exact hts _ (this i hi)
