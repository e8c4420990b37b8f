/-! THE LAW: its loop -/
theorem lS.up {D : va_G} {Y : Nat → ClassId} {ad0 : Nat → Nat} {s : State} {b i t : Nat} {F : wFS} {adX : Nat → Nat} {MX : zMm} {adM : Nat → Nat} {MM : zMm} {H : Heap} {locs : List Loc} {ls : Array Slot} (h : lS D Y ad0 s b i t F adX MX adM MM H locs ls) : lS D Y ad0 s b i (t + 1) F adX MX adM MM H locs ls := by
  obtain ⟨h1, ⟨pk, dk, q, hq, h2⟩, h3⟩ := h
  exact ⟨h1, ⟨pk, dk, q, by omega, h2⟩, h3⟩
section LL
variable {p : Program} {l : Launch} {e : Env} {s : State} {m : MethodId} {below : List Frame} {meth : Method} {c : Code} {b L : Nat} {xs : Nat → Int32} {D : va_G} {Y : Nat → ClassId} {ad0 : Nat → Nat}
theorem lback (C : lCx p s m meth c b L xs D Y ad0) {i t : Nat} {F : wFS} (h : lGo p l e s m below meth c b D Y ad0 (i + 6) t 18 F) : lGo p l e s m below meth c b D Y ad0 i t 784 F := by
  intro adX MX adM MM H locs ls hS
  obtain ⟨hx, hb, hr, hml, hown, hts, hX, hbl, hlocks, hgv⟩ := C.1
  obtain ⟨h1, h2, h3, h4, h5, h6, hl⟩ := hS
  refine lv_iinc (v := nI (i + 6)) (lv' := [(3, .int (nI (i + 6))), (0, .ref b), (1, .ref (adX 0)), (2, .ref (adM 200))]) hx hb zdL_784 hl (k := 3) rfl (nI_add i 6) (by decide) rfl (fun ls' hl' => ?_)
  refine lv_goto (tgt := 18) hx hb zdL_787 (by decide) ?_
  exact h adX MX adM MM H locs ls' ⟨h1, h2, h3, h4, h5, h6, lv_sub hl' [1, 2, 3, 0] rfl⟩
theorem lneg : ∀ n, n < 6 → nI n - 6 < (0 : Int32) := by decide
theorem lloop (C : lCx p s m meth c b L xs D Y ad0) (hL : L ≤ 3072) : ∀ (n i t : Nat) (F : wFS), i = 6 * t → i ≤ L + 6 → L + 7 ≤ i + n → lGo p l e s m below meth c b D Y ad0 i t 18 F
  | 0, i, t, F, h1, h2, h3 => by omega
  | n + 1, i, t, F, h1, h2, h3 => by
    intro adX MX adM MM H locs ls hS
    obtain ⟨hx, hb, hr, hml, hown, hts, hX, hbl, hlocks, hgv⟩ := C.1
    obtain ⟨g1, ⟨pk, dk, q, hq, g2⟩, g3, g4, g5, g6, hl⟩ := id hS
    have hVS := g1.2.2.2.2.2.1
    refine lv_iload_n hx hb zdL_18 rfl (lv_at hl 3 rfl) ?_
    refine lv_aload_n hx hb zdL_19 rfl (lv_at hl 0 rfl) ?_
    refine va_slen hx hb hX hbl (Nat.not_le.mpr hbl) hVS zdL_20 ?_
    refine lv_bipush (v := 6) hx hb zdL_21 (by decide) ?_
    refine lv_isub hx hb zdL_23 ?_
    refine lv_icmp_gt (tgt := 790) hx hb zdL_24 (by decide) (fun hgt => ?_) (fun hgt => ?_)
    · refine lv_iconst (v := 1) hx hb zdL_790 (by decide) ?_
      refine va_forget (fun q hq => hVS.2.2 q hq) ?_
      have hroom := zXF_room g2
      refine W.widen (k := 600000) (n := 7302250) (by omega) (by omega) ?_
      exact lw_ret hx hb hr hlocks zdL_791
    · have hgt' : ¬ (nI L - 6 < nI i) := hgt
      have hi : i + 6 ≤ L := by
        rcases Nat.lt_or_ge L 6 with z | z
        · have z1 := lneg L z
          have z2 := (nI_leI (a := 0) (b := i) (by decide) (by omega)).mpr (Nat.zero_le _)
          exact absurd (Int32.lt_of_lt_of_le z1 z2) hgt'
        · have e6 : nI L - 6 = nI (L - 6) := pk_sub (a := L) (b := 6) z
          rw [e6] at hgt'
          rcases Nat.lt_or_ge (L - 6) i with y | y
          · exact absurd ((nI_ltI (by omega) (by omega)).mpr y) hgt'
          · omega
      have ht : t ≤ 512 := by omega
      have nx : ∀ F1, lGo p l e s m below meth c b D Y ad0 i (t + 1) 784 F1 := fun F1 => lback C (lloop C hL n (i + 6) (t + 1) F1 (by omega) (by omega) (by omega))
      refine lv_aload_n hx hb zdL_27 rfl (lv_at hl 0 rfl) ?_
      refine lv_iload_n hx hb zdL_28 rfl (lv_at hl 3 rfl) ?_
      have hin : vp_in (nI i) L := vp_in_nI (by omega) (by omega)
      refine va_sld hx hb hX hbl (Nat.not_le.mpr hbl) hVS hin zdL_29 ?_
      refine lv_bipush (v := 31) hx hb zdL_30 (by decide) ?_
      refine lv_iand hx hb zdL_32 ?_
      generalize xs (nI i).toNatClampNeg &&& 31 = x
      by_cases hout : x.toInt < 0 ∨ 17 < x.toInt
      · refine lv_tableOut (tgt := 784) hx hb zdL_33 hout (by decide) ?_
        exact nx F adX MX adM MM H locs ls hS.up
      · obtain ⟨j, hj⟩ : ∃ j : Nat, x.toInt - 0 = (j : Int) := ⟨x.toInt.toNat, by omega⟩
        have hjt : (x.toInt - 0).toNat = j := by omega
        have hj18 : j = 0 ∨ j = 1 ∨ j = 2 ∨ j = 3 ∨ j = 4 ∨ j = 5 ∨ j = 6 ∨ j = 7 ∨ j = 8 ∨ j = 9 ∨ j = 10 ∨ j = 11 ∨ j = 12 ∨ j = 13 ∨ j = 14 ∨ j = 15 ∨ j = 16 ∨ j = 17 := by omega
        have tin : ∀ (off : Int) (tgt : Nat), (#[87, 120, 183, 206, 249, 312, 335, 348, 361, 414, 467, 500, 563, 596, 659, 682, 715, 738] : Array Int)[j]? = some off → ((33 : Nat) : Int) + off = (tgt : Int) → lGo p l e s m below meth c b D Y ad0 i t tgt F → W p l e room_1 s m #[Value.ref b] below meth c H locs (MX.1.length + MM.1.length) (zss MX.1 + zss MM.1) (lw_Z below #[Value.ref b] s) (F0 m 33 ls [.int x]) := by
          intro off tgt h1 h2 h3
          refine lv_tableIn (off := off) (tgt := tgt) hx hb zdL_33 (by omega) (by omega) (by rw [hjt]; exact h1) h2 ?_
          exact h3 adX MX adM MM H locs ls hS
        rcases hj18 with rfl | rfl | rfl | rfl | rfl | rfl | rfl | rfl | rfl | rfl | rfl | rfl | rfl | rfl | rfl | rfl | rfl | rfl
        · exact tin 87 120 rfl (by decide) (lc_size C hL hi ht nx)
        · exact tin 120 153 rfl (by decide) (lc_land C hL hi ht nx)
        · exact tin 183 216 rfl (by decide) (lc_level C hL hi ht nx)
        · exact tin 206 239 rfl (by decide) (lc_spring C hL hi ht nx)
        · exact tin 249 282 rfl (by decide) (lc_feed C hL hi ht nx)
        · exact tin 312 345 rfl (by decide) (lc_end C hL hi ht nx)
        · exact tin 335 368 rfl (by decide) (lc_plan C hL hi ht nx)
        · exact tin 348 381 rfl (by decide) (lc_fault C hL hi ht nx)
        · exact tin 361 394 rfl (by decide) (lc_height C hL hi ht nx)
        · exact tin 414 447 rfl (by decide) (lc_flow C hL hi ht nx)
        · exact tin 467 500 rfl (by decide) (lc_lake C hL hi ht nx)
        · exact tin 500 533 rfl (by decide) (lc_map C hL hi ht nx)
        · exact tin 563 596 rfl (by decide) (lc_stays C hL hi ht nx)
        · exact tin 596 629 rfl (by decide) (lc_foretold C hL hi ht nx)
        · exact tin 659 692 rfl (by decide) (lc_wasted C hL hi ht nx)
        · exact tin 682 715 rfl (by decide) (lc_against C hL hi ht nx)
        · exact tin 715 748 rfl (by decide) (lc_count C hL hi ht nx)
        · exact tin 738 771 rfl (by decide) (lc_status C hL hi ht nx)
end LL
