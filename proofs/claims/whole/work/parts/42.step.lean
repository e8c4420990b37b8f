/-! THE READER: bytes, tokens -/
def bt (tp : List Nat) (i : Nat) : Nat := tp.getD i 0
def ltr (b : Nat) : Bool := decide (97 ≤ b ∧ b ≤ 122)
def dgt (b : Nat) : Bool := decide (48 ≤ b ∧ b ≤ 57)
def zsb (b : Nat) : Int32 := (nI b).toInt8.toInt32
theorem zsb_eq : ∀ b, b < 256 → ∀ c, c < 128 → (zsb b = nI c ↔ b = c) := by decide +kernel
theorem zsb_ltr : ∀ b, b < 256 → ((97 ≤ zsb b ∧ zsb b ≤ 122) ↔ ltr b = true) := by decide +kernel
theorem zsb_dgt : ∀ b, b < 256 → ((48 ≤ zsb b ∧ zsb b ≤ 57) ↔ dgt b = true) := by decide +kernel
theorem zsb_val : ∀ b, b < 256 → dgt b = true → zsb b = nI b := by decide +kernel
theorem zTp.at {M : zMm} {tp : List Nat} (h : zTp M tp) {i : Nat} (hi : i < tp.length) : bt tp i < 256 ∧ M.2.1 4 i = zsb (bt tp i) := by
  have hg : tp[i]? = some (bt tp i) := by
    unfold bt
    rw [List.getD_eq_getElem?_getD, List.getElem?_eq_getElem hi]
    rfl
  exact h.2.2 i _ hg
def wrun (p : Nat → Bool) : Nat → Nat → Nat
  | 0, i => i
  | k + 1, i => if p i = true then wrun p k (i + 1) else i
theorem wrun_t {p : Nat → Bool} {n i : Nat} (h : i < n) (hp : p i = true) : wrun p (n - i) i = wrun p (n - (i + 1)) (i + 1) := by
  rw [show n - i = (n - (i + 1)) + 1 from by omega]
  show (if p i = true then wrun p (n - (i + 1)) (i + 1) else i) = _
  rw [if_pos hp]
theorem wrun_f {p : Nat → Bool} {n i : Nat} (h : i < n) (hp : p i = false) : wrun p (n - i) i = i := by
  rw [show n - i = (n - (i + 1)) + 1 from by omega]
  show (if p i = true then wrun p (n - (i + 1)) (i + 1) else i) = _
  rw [if_neg (by rw [hp]; decide)]
theorem wrun_bd {p : Nat → Bool} : ∀ k i, i ≤ wrun p k i ∧ wrun p k i ≤ i + k
  | 0, i => ⟨Nat.le_refl _, Nat.le_refl _⟩
  | k + 1, i => by
    show i ≤ (if p i = true then wrun p k (i + 1) else i) ∧ (if p i = true then wrun p k (i + 1) else i) ≤ _
    have := wrun_bd (p := p) k (i + 1)
    split <;> omega
theorem wrun_all {p : Nat → Bool} : ∀ k i j, i ≤ j → j < wrun p k i → p j = true
  | 0, i, j, h1, h2 => by
    have : j < i := h2
    omega
  | k + 1, i, j, h1, h2 => by
    by_cases hp : p i = true
    · have e : wrun p (k + 1) i = wrun p k (i + 1) := if_pos hp
      rw [e] at h2
      rcases Nat.lt_or_ge i j with q | q
      · exact wrun_all k (i + 1) j q h2
      · have : j = i := by omega
        rw [this]; exact hp
    · have e : wrun p (k + 1) i = i := if_neg hp
      rw [e] at h2
      omega
theorem wrun_end {p : Nat → Bool} : ∀ k i, wrun p k i < i + k → p (wrun p k i) = false
  | 0, i, h => by
    have : i < i + 0 := h
    omega
  | k + 1, i, h => by
    by_cases hp : p i = true
    · have e : wrun p (k + 1) i = wrun p k (i + 1) := if_pos hp
      rw [e] at h ⊢
      exact wrun_end k (i + 1) (by omega)
    · have e : wrun p (k + 1) i = i := if_neg hp
      rw [e]
      simpa using hp
def wsp (tp : List Nat) (i : Nat) : Bool := decide (bt tp i = 32)
def wsk (tp : List Nat) (s : Nat) : Nat := wrun (wsp tp) (tp.length - s) s
def wq (tp : List Nat) (a i : Nat) : Bool := (ltr (bt tp a) && ltr (bt tp i)) || (dgt (bt tp a) && dgt (bt tp i))
def wte (tp : List Nat) (a : Nat) : Nat := if tp.length ≤ a then a else wrun (wq tp a) (tp.length - (a + 1)) (a + 1)
/-- the token behind s: from, to -/
def wtk (tp : List Nat) (s : Nat) : Nat × Nat := (wsk tp s, wte tp (wsk tp s))
theorem wsk_bd {tp : List Nat} {s : Nat} (h : s ≤ tp.length) : s ≤ wsk tp s ∧ wsk tp s ≤ tp.length := by
  have := wrun_bd (p := wsp tp) (tp.length - s) s
  unfold wsk
  omega
theorem wte_bd {tp : List Nat} {a : Nat} (h : a ≤ tp.length) : a ≤ wte tp a ∧ wte tp a ≤ tp.length ∧ (a < tp.length → a < wte tp a) := by
  unfold wte
  split
  · omega
  · have := wrun_bd (p := wq tp a) (tp.length - (a + 1)) (a + 1)
    omega
def zc_X3_isLetter (a : List Value) (M : zMm) (K : zKt) : Prop := match a with
  | [.int x] => K (some (.int (zbI (97 ≤ x ∧ x ≤ 122)))) M
  | _ => False
theorem zm_X3_isLetter (l : Launch) (D : va_G) (Y : Nat → ClassId) : zMt l D Y yX3_isLetter cX3_isLetter 1 (some .boolean) 0 0 0 0 zc_X3_isLetter := by
  refine zflat (by decide) (fun K J _ _ => zb_X3_isLetter_0 K J) (fun X hR => zbs_X3_isLetter_0 hR zJ0 zJ0_ok) (fun avs M K h => ?_)
  unfold zc_X3_isLetter at h
  split at h
  · refine ⟨by simp [zent], ?_⟩
    simp only [zb_X3_isLetter_0, zb_X3_isLetter_16, zb_X3_isLetter_17, zT_push, zT_bin, zT_div, zT_bil, zT_shl, zT_un, zT_i2l, zT_l2i, zT_lcmp, zT_ild, zT_lld, zT_ald, zT_ist, zT_lst, zT_ast, zT_iinc, zT_dup, zT_dup2, zT_pop, zT_if1, zT_if2, zT_ifn, zT_getI, zT_getJ, zT_getR, zT_putI, zT_putZ, zT_putJ, zT_putR, zT_ald0, zT_lald, zT_aald, zT_iast, zT_zast, zT_bast, zT_last, zT_aast, zT_iret, zT_nret, zT_aret, zT_vret, zT_oi, zT_mm, zT_ialX, zT_S1, zT_S2, zT_S3, zT_V0, zT_V1, zT_V2, zT_V3, zT_V4, zT_V5, zT_V6, zT_I0, zT_I1, zT_I2, zlg, zlset, zlpr, zent, zok, va_rf, List.length_cons, List.length_nil, List.replicate, List.cons_append, List.nil_append, List.append_nil, Option.toList_some, Option.toList_none, Option.toList, Nat.reduceAdd, Nat.reduceSub, Nat.reduceLeDiff, Nat.zero_add, Nat.zero_le, true_and, and_true, Nat.le_refl, ge_iff_le, Nat.reduceEqDiff]
    refine ⟨fun h1 => ⟨rfl, ?_⟩, fun h1 => ⟨fun h2 => ⟨rfl, ?_⟩, fun h2 => ⟨rfl, ?_⟩⟩⟩
    · rw [zbI_f (fun q => Int32.not_le.mpr h1 q.1)] at h; exact h
    · rw [zbI_f (fun q => Int32.not_le.mpr h2 q.2)] at h; exact h
    · rw [zbI_t ⟨Int32.not_lt.mp h1, Int32.not_lt.mp h2⟩] at h; exact h
  · exact h.elim
def zc_X3_isDigit (a : List Value) (M : zMm) (K : zKt) : Prop := match a with
  | [.int x] => K (some (.int (zbI (48 ≤ x ∧ x ≤ 57)))) M
  | _ => False
theorem zm_X3_isDigit (l : Launch) (D : va_G) (Y : Nat → ClassId) : zMt l D Y yX3_isDigit cX3_isDigit 1 (some .boolean) 0 0 0 0 zc_X3_isDigit := by
  refine zflat (by decide) (fun K J _ _ => zb_X3_isDigit_0 K J) (fun X hR => zbs_X3_isDigit_0 hR zJ0 zJ0_ok) (fun avs M K h => ?_)
  unfold zc_X3_isDigit at h
  split at h
  · refine ⟨by simp [zent], ?_⟩
    simp only [zb_X3_isDigit_0, zb_X3_isDigit_16, zb_X3_isDigit_17, zT_push, zT_bin, zT_div, zT_bil, zT_shl, zT_un, zT_i2l, zT_l2i, zT_lcmp, zT_ild, zT_lld, zT_ald, zT_ist, zT_lst, zT_ast, zT_iinc, zT_dup, zT_dup2, zT_pop, zT_if1, zT_if2, zT_ifn, zT_getI, zT_getJ, zT_getR, zT_putI, zT_putZ, zT_putJ, zT_putR, zT_ald0, zT_lald, zT_aald, zT_iast, zT_zast, zT_bast, zT_last, zT_aast, zT_iret, zT_nret, zT_aret, zT_vret, zT_oi, zT_mm, zT_ialX, zT_S1, zT_S2, zT_S3, zT_V0, zT_V1, zT_V2, zT_V3, zT_V4, zT_V5, zT_V6, zT_I0, zT_I1, zT_I2, zlg, zlset, zlpr, zent, zok, va_rf, List.length_cons, List.length_nil, List.replicate, List.cons_append, List.nil_append, List.append_nil, Option.toList_some, Option.toList_none, Option.toList, Nat.reduceAdd, Nat.reduceSub, Nat.reduceLeDiff, Nat.zero_add, Nat.zero_le, true_and, and_true, Nat.le_refl, ge_iff_le, Nat.reduceEqDiff]
    refine ⟨fun h1 => ⟨rfl, ?_⟩, fun h1 => ⟨fun h2 => ⟨rfl, ?_⟩, fun h2 => ⟨rfl, ?_⟩⟩⟩
    · rw [zbI_f (fun q => Int32.not_le.mpr h1 q.1)] at h; exact h
    · rw [zbI_f (fun q => Int32.not_le.mpr h2 q.2)] at h; exact h
    · rw [zbI_t ⟨Int32.not_lt.mp h1, Int32.not_lt.mp h2⟩] at h; exact h
  · exact h.elim
/-- the reader k reads the tape tp at start, stop -/
def zRd (M : zMm) (k : Nat) (tp : List Nat) (a b : Nat) : Prop := zsh k = (5, 3, 5) ∧ 500 ≤ k ∧ M.2.2.2 k 0 = some 3 ∧ M.2.2.2 3 0 = some 4 ∧ zTp M tp ∧ M.2.1 k 2 = nI a ∧ M.2.1 k 3 = nI b
def zc_X3_atEnd (a : List Value) (M : zMm) (K : zKt) : Prop := match a with
  | [.ref k] => ∃ tp a b, zRd M k tp a b ∧ a ≤ tp.length ∧ K (some (.int (zbI (tp.length ≤ a)))) M
  | _ => False
theorem zm_X3_atEnd (l : Launch) (D : va_G) (Y : Nat → ClassId) : zMt l D Y yX3_atEnd cX3_atEnd 1 (some .boolean) 0 0 0 0 zc_X3_atEnd := by
  refine zflat (by decide) (fun K J _ _ => zb_X3_atEnd_0 K J) (fun X hR => zbs_X3_atEnd_0 hR zJ0 zJ0_ok) (fun avs M K h => ?_)
  unfold zc_X3_atEnd at h
  split at h
  · obtain ⟨tp, a, b, ⟨h1, -, h2, h3, h4, h5, h6⟩, ha, h⟩ := h
    have t1 := h4.1
    have t2 := h4.2.1
    refine ⟨by simp [zent], ?_⟩
    simp only [zb_X3_atEnd_0, zb_X3_atEnd_19, zsh_3, h1, h2, h5, t1, zT_push, zT_bin, zT_div, zT_bil, zT_shl, zT_un, zT_i2l, zT_l2i, zT_lcmp, zT_ild, zT_lld, zT_ald, zT_ist, zT_lst, zT_ast, zT_iinc, zT_dup, zT_dup2, zT_pop, zT_if1, zT_if2, zT_ifn, zT_getI, zT_getJ, zT_getR, zT_putI, zT_putZ, zT_putJ, zT_putR, zT_ald0, zT_lald, zT_aald, zT_iast, zT_zast, zT_bast, zT_last, zT_aast, zT_iret, zT_nret, zT_aret, zT_vret, zT_oi, zT_mm, zT_ialX, zT_S1, zT_S2, zT_S3, zT_V0, zT_V1, zT_V2, zT_V3, zT_V4, zT_V5, zT_V6, zT_I0, zT_I1, zT_I2, zlg, zlset, zlpr, zent, zok, va_rf, List.length_cons, List.length_nil, List.replicate, List.cons_append, List.nil_append, List.append_nil, Option.toList_some, Option.toList_none, Option.toList, Nat.reduceAdd, Nat.reduceSub, Nat.reduceLeDiff, Nat.zero_add, Nat.zero_le, true_and, and_true, Nat.le_refl, ge_iff_le, Nat.reduceEqDiff]
    refine ⟨fun q => ⟨rfl, ?_⟩, fun q => ⟨rfl, ?_⟩⟩
    · rw [zbI_f (fun z => by have := (nI_ltI (by omega) (by omega)).mp q; omega)] at h; exact h
    · rw [zbI_t] at h
      · exact h
      · rcases Nat.lt_or_ge a tp.length with z | z
        · exact absurd ((nI_ltI (by omega) (by omega)).mpr z) q
        · exact z
  · exact h.elim
/-! DeltaRuns$Reader step -/
theorem zd_X3_step_0 : decode cX3_step 0 = .ok (.aload_n 0, 1) := by decide +kernel
theorem zd_X3_step_1 : decode cX3_step 1 = .ok (.aload_n 0, 1) := by decide +kernel
theorem zd_X3_step_2 : decode cX3_step 2 = .ok (.getfield 86, 3) := by decide +kernel
theorem zd_X3_step_5 : decode cX3_step 5 = .ok (.putfield 36, 3) := by decide +kernel
theorem zd_X3_step_8 : decode cX3_step 8 = .ok (.aload_n 0, 1) := by decide +kernel
theorem zd_X3_step_9 : decode cX3_step 9 = .ok (.getfield 36, 3) := by decide +kernel
theorem zd_X3_step_12 : decode cX3_step 12 = .ok (.aload_n 0, 1) := by decide +kernel
theorem zd_X3_step_13 : decode cX3_step 13 = .ok (.getfield 9, 3) := by decide +kernel
theorem zd_X3_step_16 : decode cX3_step 16 = .ok (.getfield 117, 3) := by decide +kernel
theorem zd_X3_step_19 : decode cX3_step 19 = .ok (.if_icmp .ge 33, 3) := by decide +kernel
theorem zd_X3_step_22 : decode cX3_step 22 = .ok (.aload_n 0, 1) := by decide +kernel
theorem zd_X3_step_23 : decode cX3_step 23 = .ok (.getfield 9, 3) := by decide +kernel
theorem zd_X3_step_26 : decode cX3_step 26 = .ok (.getfield 94, 3) := by decide +kernel
theorem zd_X3_step_29 : decode cX3_step 29 = .ok (.aload_n 0, 1) := by decide +kernel
theorem zd_X3_step_30 : decode cX3_step 30 = .ok (.getfield 36, 3) := by decide +kernel
theorem zd_X3_step_33 : decode cX3_step 33 = .ok (.baload, 1) := by decide +kernel
theorem zd_X3_step_34 : decode cX3_step 34 = .ok (.bipush 32, 2) := by decide +kernel
theorem zd_X3_step_36 : decode cX3_step 36 = .ok (.if_icmp .ne 16, 3) := by decide +kernel
theorem zd_X3_step_39 : decode cX3_step 39 = .ok (.aload_n 0, 1) := by decide +kernel
theorem zd_X3_step_40 : decode cX3_step 40 = .ok (.dup, 1) := by decide +kernel
theorem zd_X3_step_41 : decode cX3_step 41 = .ok (.getfield 36, 3) := by decide +kernel
theorem zd_X3_step_44 : decode cX3_step 44 = .ok (.iconst 1, 1) := by decide +kernel
theorem zd_X3_step_45 : decode cX3_step 45 = .ok (.iadd, 1) := by decide +kernel
theorem zd_X3_step_46 : decode cX3_step 46 = .ok (.putfield 36, 3) := by decide +kernel
theorem zd_X3_step_49 : decode cX3_step 49 = .ok (.goto (-41), 3) := by decide +kernel
theorem zd_X3_step_52 : decode cX3_step 52 = .ok (.aload_n 0, 1) := by decide +kernel
theorem zd_X3_step_53 : decode cX3_step 53 = .ok (.aload_n 0, 1) := by decide +kernel
theorem zd_X3_step_54 : decode cX3_step 54 = .ok (.getfield 36, 3) := by decide +kernel
theorem zd_X3_step_57 : decode cX3_step 57 = .ok (.putfield 86, 3) := by decide +kernel
theorem zd_X3_step_60 : decode cX3_step 60 = .ok (.aload_n 0, 1) := by decide +kernel
theorem zd_X3_step_61 : decode cX3_step 61 = .ok (.invokevirtual 28, 3) := by decide +kernel
theorem zd_X3_step_64 : decode cX3_step 64 = .ok (.ifCond .eq 4, 3) := by decide +kernel
theorem zd_X3_step_67 : decode cX3_step 67 = .ok (.return_, 1) := by decide +kernel
theorem zd_X3_step_68 : decode cX3_step 68 = .ok (.aload_n 0, 1) := by decide +kernel
theorem zd_X3_step_69 : decode cX3_step 69 = .ok (.dup, 1) := by decide +kernel
theorem zd_X3_step_70 : decode cX3_step 70 = .ok (.getfield 86, 3) := by decide +kernel
theorem zd_X3_step_73 : decode cX3_step 73 = .ok (.iconst 1, 1) := by decide +kernel
theorem zd_X3_step_74 : decode cX3_step 74 = .ok (.iadd, 1) := by decide +kernel
theorem zd_X3_step_75 : decode cX3_step 75 = .ok (.putfield 86, 3) := by decide +kernel
theorem zd_X3_step_78 : decode cX3_step 78 = .ok (.aload_n 0, 1) := by decide +kernel
theorem zd_X3_step_79 : decode cX3_step 79 = .ok (.getfield 9, 3) := by decide +kernel
theorem zd_X3_step_82 : decode cX3_step 82 = .ok (.getfield 94, 3) := by decide +kernel
theorem zd_X3_step_85 : decode cX3_step 85 = .ok (.aload_n 0, 1) := by decide +kernel
theorem zd_X3_step_86 : decode cX3_step 86 = .ok (.getfield 36, 3) := by decide +kernel
theorem zd_X3_step_89 : decode cX3_step 89 = .ok (.baload, 1) := by decide +kernel
theorem zd_X3_step_90 : decode cX3_step 90 = .ok (.invokestatic 119, 3) := by decide +kernel
theorem zd_X3_step_93 : decode cX3_step 93 = .ok (.istore_n 1, 1) := by decide +kernel
theorem zd_X3_step_94 : decode cX3_step 94 = .ok (.aload_n 0, 1) := by decide +kernel
theorem zd_X3_step_95 : decode cX3_step 95 = .ok (.getfield 9, 3) := by decide +kernel
theorem zd_X3_step_98 : decode cX3_step 98 = .ok (.getfield 94, 3) := by decide +kernel
theorem zd_X3_step_101 : decode cX3_step 101 = .ok (.aload_n 0, 1) := by decide +kernel
theorem zd_X3_step_102 : decode cX3_step 102 = .ok (.getfield 36, 3) := by decide +kernel
theorem zd_X3_step_105 : decode cX3_step 105 = .ok (.baload, 1) := by decide +kernel
theorem zd_X3_step_106 : decode cX3_step 106 = .ok (.invokestatic 104, 3) := by decide +kernel
theorem zd_X3_step_109 : decode cX3_step 109 = .ok (.istore_n 2, 1) := by decide +kernel
theorem zd_X3_step_110 : decode cX3_step 110 = .ok (.aload_n 0, 1) := by decide +kernel
theorem zd_X3_step_111 : decode cX3_step 111 = .ok (.getfield 86, 3) := by decide +kernel
theorem zd_X3_step_114 : decode cX3_step 114 = .ok (.aload_n 0, 1) := by decide +kernel
theorem zd_X3_step_115 : decode cX3_step 115 = .ok (.getfield 9, 3) := by decide +kernel
theorem zd_X3_step_118 : decode cX3_step 118 = .ok (.getfield 117, 3) := by decide +kernel
theorem zd_X3_step_121 : decode cX3_step 121 = .ok (.if_icmp .ge 60, 3) := by decide +kernel
theorem zd_X3_step_124 : decode cX3_step 124 = .ok (.iload_n 1, 1) := by decide +kernel
theorem zd_X3_step_125 : decode cX3_step 125 = .ok (.ifCond .eq 21, 3) := by decide +kernel
theorem zd_X3_step_128 : decode cX3_step 128 = .ok (.aload_n 0, 1) := by decide +kernel
theorem zd_X3_step_129 : decode cX3_step 129 = .ok (.getfield 9, 3) := by decide +kernel
theorem zd_X3_step_132 : decode cX3_step 132 = .ok (.getfield 94, 3) := by decide +kernel
theorem zd_X3_step_135 : decode cX3_step 135 = .ok (.aload_n 0, 1) := by decide +kernel
theorem zd_X3_step_136 : decode cX3_step 136 = .ok (.getfield 86, 3) := by decide +kernel
theorem zd_X3_step_139 : decode cX3_step 139 = .ok (.baload, 1) := by decide +kernel
theorem zd_X3_step_140 : decode cX3_step 140 = .ok (.invokestatic 119, 3) := by decide +kernel
theorem zd_X3_step_143 : decode cX3_step 143 = .ok (.ifCond .ne 25, 3) := by decide +kernel
theorem zd_X3_step_146 : decode cX3_step 146 = .ok (.iload_n 2, 1) := by decide +kernel
theorem zd_X3_step_147 : decode cX3_step 147 = .ok (.ifCond .eq 34, 3) := by decide +kernel
theorem zd_X3_step_150 : decode cX3_step 150 = .ok (.aload_n 0, 1) := by decide +kernel
theorem zd_X3_step_151 : decode cX3_step 151 = .ok (.getfield 9, 3) := by decide +kernel
theorem zd_X3_step_154 : decode cX3_step 154 = .ok (.getfield 94, 3) := by decide +kernel
theorem zd_X3_step_157 : decode cX3_step 157 = .ok (.aload_n 0, 1) := by decide +kernel
theorem zd_X3_step_158 : decode cX3_step 158 = .ok (.getfield 86, 3) := by decide +kernel
theorem zd_X3_step_161 : decode cX3_step 161 = .ok (.baload, 1) := by decide +kernel
theorem zd_X3_step_162 : decode cX3_step 162 = .ok (.invokestatic 104, 3) := by decide +kernel
theorem zd_X3_step_165 : decode cX3_step 165 = .ok (.ifCond .eq 16, 3) := by decide +kernel
theorem zd_X3_step_168 : decode cX3_step 168 = .ok (.aload_n 0, 1) := by decide +kernel
theorem zd_X3_step_169 : decode cX3_step 169 = .ok (.dup, 1) := by decide +kernel
theorem zd_X3_step_170 : decode cX3_step 170 = .ok (.getfield 86, 3) := by decide +kernel
theorem zd_X3_step_173 : decode cX3_step 173 = .ok (.iconst 1, 1) := by decide +kernel
theorem zd_X3_step_174 : decode cX3_step 174 = .ok (.iadd, 1) := by decide +kernel
theorem zd_X3_step_175 : decode cX3_step 175 = .ok (.putfield 86, 3) := by decide +kernel
theorem zd_X3_step_178 : decode cX3_step 178 = .ok (.goto (-68), 3) := by decide +kernel
theorem zd_X3_step_181 : decode cX3_step 181 = .ok (.return_, 1) := by decide +kernel
def zb_X3_step_0 (K : zKt) (J : Nat → zPP) : zPP := zT_ald 0 (zT_ald 0 (zT_getI 3 3 5 (zT_putI 3 2 5 (J 8))))
theorem zbs_X3_step_0 {X : zCt} (hR : zRX X = { frames := 1, cells := 0, slots := 0, locals := 20 }) (J : Nat → zPP) (hJ : ∀ h ∈ ([8, 110] : List Nat), zSd X RX3 "step" cX3_step 3 none h (J h)) : zSd X RX3 "step" cX3_step 3 none 0 (zb_X3_step_0 (zKX X) J) := zs_aload_n zd_X3_step_0 rfl (zs_aload_n zd_X3_step_1 rfl (zs_getI (ci := 3) (j := 3) (T := TX3) rfl inX3 (by decide) gw_2_42 rfl zd_X3_step_2 (zs_putI (ci := 3) (j := 2) (T := TX3) rfl inX3 tyX3_ok nmX3 (by decide) gw_2_41 rfl rfl rfl zd_X3_step_5 (hJ 8 (by decide)))))
def zb_X3_step_52 (K : zKt) (J : Nat → zPP) : zPP := zT_ald 0 (zT_ald 0 (zT_getI 3 2 5 (zT_putI 3 3 5 (zT_ald 0 (zT_V0 zok 3 5 zc_X3_atEnd (zT_if1 (fun x => x = 0) (zT_ald 0 (zT_dup (zT_getI 3 3 5 (zT_push (.int 1) (zT_bin (fun x y => x + y) (zT_putI 3 3 5 (zT_ald 0 (zT_getR 3 0 5 (zT_getR 4 0 2 (zT_ald 0 (zT_getI 3 2 5 (zT_ald0 2 (zT_S1 zok zc_X3_isLetter (zT_ist 1 (zT_ald 0 (zT_getR 3 0 5 (zT_getR 4 0 2 (zT_ald 0 (zT_getI 3 2 5 (zT_ald0 2 (zT_S1 zok zc_X3_isDigit (zT_ist 2 (J 110))))))))))))))))))))))) (zT_vret K)))))))
theorem zbs_X3_step_52 {X : zCt} (hR : zRX X = { frames := 1, cells := 0, slots := 0, locals := 20 }) (J : Nat → zPP) (hJ : ∀ h ∈ ([8, 110] : List Nat), zSd X RX3 "step" cX3_step 3 none h (J h)) : zSd X RX3 "step" cX3_step 3 none 52 (zb_X3_step_52 (zKX X) J) := zs_aload_n zd_X3_step_52 rfl (zs_aload_n zd_X3_step_53 rfl (zs_getI (ci := 3) (j := 2) (T := TX3) rfl inX3 (by decide) gw_2_41 rfl zd_X3_step_54 (zs_putI (ci := 3) (j := 3) (T := TX3) rfl inX3 tyX3_ok nmX3 (by decide) gw_2_42 rfl rfl rfl zd_X3_step_57 (zs_aload_n zd_X3_step_60 rfl (zs_V (ci := 3) rfl rfl (zm_X3_atEnd _ _ _) gw_2_66 gw_2_63 gw_2_65 gw_0_4 gw_1_8 zdn_X3_atEnd (zrm hR (by decide) (by decide)) zd_X3_step_61 (zCl_V0 zok_l) (zs_if_eq (tgt := 68) zd_X3_step_64 (by decide) (zs_aload_n zd_X3_step_68 rfl (zs_dup zd_X3_step_69 (zs_getI (ci := 3) (j := 3) (T := TX3) rfl inX3 (by decide) gw_2_42 rfl zd_X3_step_70 (zs_iconst zd_X3_step_73 (by decide) (zs_iadd zd_X3_step_74 (zs_putI (ci := 3) (j := 3) (T := TX3) rfl inX3 tyX3_ok nmX3 (by decide) gw_2_42 rfl rfl rfl zd_X3_step_75 (zs_aload_n zd_X3_step_78 rfl (zs_getR (ci := 3) (j := 0) (T := TX3) rfl inX3 (by decide) gw_2_39 rfl zd_X3_step_79 (zs_getR (ci := 4) (j := 0) (T := TX4) rfl inX4 (by decide) gw_1_68 rfl zd_X3_step_82 (zs_aload_n zd_X3_step_85 rfl (zs_getI (ci := 3) (j := 2) (T := TX3) rfl inX3 (by decide) gw_2_41 rfl zd_X3_step_86 (zs_bald zd_X3_step_89 (zs_S (zm_X3_isLetter _ _ _) gw_2_69 gw_2_67 gw_2_68 gw_1_8 zdn_X3_isLetter (zrm hR (by decide) (by decide)) zd_X3_step_90 (zCl_S1 zok_l) (zs_istore_n zd_X3_step_93 rfl (by decide) (zs_aload_n zd_X3_step_94 rfl (zs_getR (ci := 3) (j := 0) (T := TX3) rfl inX3 (by decide) gw_2_39 rfl zd_X3_step_95 (zs_getR (ci := 4) (j := 0) (T := TX4) rfl inX4 (by decide) gw_1_68 rfl zd_X3_step_98 (zs_aload_n zd_X3_step_101 rfl (zs_getI (ci := 3) (j := 2) (T := TX3) rfl inX3 (by decide) gw_2_41 rfl zd_X3_step_102 (zs_bald zd_X3_step_105 (zs_S (zm_X3_isDigit _ _ _) gw_2_72 gw_2_70 gw_2_71 gw_1_8 zdn_X3_isDigit (zrm hR (by decide) (by decide)) zd_X3_step_106 (zCl_S1 zok_l) (zs_istore_n zd_X3_step_109 rfl (by decide) (hJ 110 (by decide)))))))))))))))))))))))) (zs_vret rfl zd_X3_step_67)))))))
def zb_X3_step_8 (K : zKt) (J : Nat → zPP) : zPP := zT_ald 0 (zT_getI 3 2 5 (zT_ald 0 (zT_getR 3 0 5 (zT_getI 4 1 2 (zT_if2 (fun x y => y ≤ x) (zb_X3_step_52 K J) (zT_ald 0 (zT_getR 3 0 5 (zT_getR 4 0 2 (zT_ald 0 (zT_getI 3 2 5 (zT_ald0 2 (zT_push (.int 32) (zT_if2 (fun x y => x = y) (zT_ald 0 (zT_dup (zT_getI 3 2 5 (zT_push (.int 1) (zT_bin (fun x y => x + y) (zT_putI 3 2 5 (J 8))))))) (zb_X3_step_52 K J))))))))))))))
theorem zbs_X3_step_8 {X : zCt} (hR : zRX X = { frames := 1, cells := 0, slots := 0, locals := 20 }) (J : Nat → zPP) (hJ : ∀ h ∈ ([8, 110] : List Nat), zSd X RX3 "step" cX3_step 3 none h (J h)) : zSd X RX3 "step" cX3_step 3 none 8 (zb_X3_step_8 (zKX X) J) := zs_aload_n zd_X3_step_8 rfl (zs_getI (ci := 3) (j := 2) (T := TX3) rfl inX3 (by decide) gw_2_41 rfl zd_X3_step_9 (zs_aload_n zd_X3_step_12 rfl (zs_getR (ci := 3) (j := 0) (T := TX3) rfl inX3 (by decide) gw_2_39 rfl zd_X3_step_13 (zs_getI (ci := 4) (j := 1) (T := TX4) rfl inX4 (by decide) gw_1_71 rfl zd_X3_step_16 (zs_icmp_ge (tgt := 52) zd_X3_step_19 (by decide) (zbs_X3_step_52 hR J hJ) (zs_aload_n zd_X3_step_22 rfl (zs_getR (ci := 3) (j := 0) (T := TX3) rfl inX3 (by decide) gw_2_39 rfl zd_X3_step_23 (zs_getR (ci := 4) (j := 0) (T := TX4) rfl inX4 (by decide) gw_1_68 rfl zd_X3_step_26 (zs_aload_n zd_X3_step_29 rfl (zs_getI (ci := 3) (j := 2) (T := TX3) rfl inX3 (by decide) gw_2_41 rfl zd_X3_step_30 (zs_bald zd_X3_step_33 (zs_bipush zd_X3_step_34 (by decide) (zs_icmp_ne (tgt := 52) zd_X3_step_36 (by decide) (zbs_X3_step_52 hR J hJ) (zs_aload_n zd_X3_step_39 rfl (zs_dup zd_X3_step_40 (zs_getI (ci := 3) (j := 2) (T := TX3) rfl inX3 (by decide) gw_2_41 rfl zd_X3_step_41 (zs_iconst zd_X3_step_44 (by decide) (zs_iadd zd_X3_step_45 (zs_putI (ci := 3) (j := 2) (T := TX3) rfl inX3 tyX3_ok nmX3 (by decide) gw_2_41 rfl rfl rfl zd_X3_step_46 (zs_goto (tgt := 8) zd_X3_step_49 (by decide) (hJ 8 (by decide))))))))))))))))))))))
def zb_X3_step_181 (K : zKt) (J : Nat → zPP) : zPP := zT_vret K
theorem zbs_X3_step_181 {X : zCt} (hR : zRX X = { frames := 1, cells := 0, slots := 0, locals := 20 }) (J : Nat → zPP) (hJ : ∀ h ∈ ([8, 110] : List Nat), zSd X RX3 "step" cX3_step 3 none h (J h)) : zSd X RX3 "step" cX3_step 3 none 181 (zb_X3_step_181 (zKX X) J) := zs_vret rfl zd_X3_step_181
def zb_X3_step_168 (K : zKt) (J : Nat → zPP) : zPP := zT_ald 0 (zT_dup (zT_getI 3 3 5 (zT_push (.int 1) (zT_bin (fun x y => x + y) (zT_putI 3 3 5 (J 110))))))
theorem zbs_X3_step_168 {X : zCt} (hR : zRX X = { frames := 1, cells := 0, slots := 0, locals := 20 }) (J : Nat → zPP) (hJ : ∀ h ∈ ([8, 110] : List Nat), zSd X RX3 "step" cX3_step 3 none h (J h)) : zSd X RX3 "step" cX3_step 3 none 168 (zb_X3_step_168 (zKX X) J) := zs_aload_n zd_X3_step_168 rfl (zs_dup zd_X3_step_169 (zs_getI (ci := 3) (j := 3) (T := TX3) rfl inX3 (by decide) gw_2_42 rfl zd_X3_step_170 (zs_iconst zd_X3_step_173 (by decide) (zs_iadd zd_X3_step_174 (zs_putI (ci := 3) (j := 3) (T := TX3) rfl inX3 tyX3_ok nmX3 (by decide) gw_2_42 rfl rfl rfl zd_X3_step_175 (zs_goto (tgt := 110) zd_X3_step_178 (by decide) (hJ 110 (by decide))))))))
def zb_X3_step_146 (K : zKt) (J : Nat → zPP) : zPP := zT_ild 2 (zT_if1 (fun x => x = 0) (zb_X3_step_181 K J) (zT_ald 0 (zT_getR 3 0 5 (zT_getR 4 0 2 (zT_ald 0 (zT_getI 3 3 5 (zT_ald0 2 (zT_S1 zok zc_X3_isDigit (zT_if1 (fun x => x = 0) (zb_X3_step_181 K J) (zb_X3_step_168 K J))))))))))
theorem zbs_X3_step_146 {X : zCt} (hR : zRX X = { frames := 1, cells := 0, slots := 0, locals := 20 }) (J : Nat → zPP) (hJ : ∀ h ∈ ([8, 110] : List Nat), zSd X RX3 "step" cX3_step 3 none h (J h)) : zSd X RX3 "step" cX3_step 3 none 146 (zb_X3_step_146 (zKX X) J) := zs_iload_n zd_X3_step_146 rfl (zs_if_eq (tgt := 181) zd_X3_step_147 (by decide) (zbs_X3_step_181 hR J hJ) (zs_aload_n zd_X3_step_150 rfl (zs_getR (ci := 3) (j := 0) (T := TX3) rfl inX3 (by decide) gw_2_39 rfl zd_X3_step_151 (zs_getR (ci := 4) (j := 0) (T := TX4) rfl inX4 (by decide) gw_1_68 rfl zd_X3_step_154 (zs_aload_n zd_X3_step_157 rfl (zs_getI (ci := 3) (j := 3) (T := TX3) rfl inX3 (by decide) gw_2_42 rfl zd_X3_step_158 (zs_bald zd_X3_step_161 (zs_S (zm_X3_isDigit _ _ _) gw_2_72 gw_2_70 gw_2_71 gw_1_8 zdn_X3_isDigit (zrm hR (by decide) (by decide)) zd_X3_step_162 (zCl_S1 zok_l) (zs_if_eq (tgt := 181) zd_X3_step_165 (by decide) (zbs_X3_step_181 hR J hJ) (zbs_X3_step_168 hR J hJ))))))))))
def zb_X3_step_110 (K : zKt) (J : Nat → zPP) : zPP := zT_ald 0 (zT_getI 3 3 5 (zT_ald 0 (zT_getR 3 0 5 (zT_getI 4 1 2 (zT_if2 (fun x y => y ≤ x) (zb_X3_step_181 K J) (zT_ild 1 (zT_if1 (fun x => x = 0) (zb_X3_step_146 K J) (zT_ald 0 (zT_getR 3 0 5 (zT_getR 4 0 2 (zT_ald 0 (zT_getI 3 3 5 (zT_ald0 2 (zT_S1 zok zc_X3_isLetter (zT_if1 (fun x => x = 0) (zb_X3_step_146 K J) (zb_X3_step_168 K J))))))))))))))))
theorem zbs_X3_step_110 {X : zCt} (hR : zRX X = { frames := 1, cells := 0, slots := 0, locals := 20 }) (J : Nat → zPP) (hJ : ∀ h ∈ ([8, 110] : List Nat), zSd X RX3 "step" cX3_step 3 none h (J h)) : zSd X RX3 "step" cX3_step 3 none 110 (zb_X3_step_110 (zKX X) J) := zs_aload_n zd_X3_step_110 rfl (zs_getI (ci := 3) (j := 3) (T := TX3) rfl inX3 (by decide) gw_2_42 rfl zd_X3_step_111 (zs_aload_n zd_X3_step_114 rfl (zs_getR (ci := 3) (j := 0) (T := TX3) rfl inX3 (by decide) gw_2_39 rfl zd_X3_step_115 (zs_getI (ci := 4) (j := 1) (T := TX4) rfl inX4 (by decide) gw_1_71 rfl zd_X3_step_118 (zs_icmp_ge (tgt := 181) zd_X3_step_121 (by decide) (zbs_X3_step_181 hR J hJ) (zs_iload_n zd_X3_step_124 rfl (zs_if_eq (tgt := 146) zd_X3_step_125 (by decide) (zbs_X3_step_146 hR J hJ) (zs_aload_n zd_X3_step_128 rfl (zs_getR (ci := 3) (j := 0) (T := TX3) rfl inX3 (by decide) gw_2_39 rfl zd_X3_step_129 (zs_getR (ci := 4) (j := 0) (T := TX4) rfl inX4 (by decide) gw_1_68 rfl zd_X3_step_132 (zs_aload_n zd_X3_step_135 rfl (zs_getI (ci := 3) (j := 3) (T := TX3) rfl inX3 (by decide) gw_2_42 rfl zd_X3_step_136 (zs_bald zd_X3_step_139 (zs_S (zm_X3_isLetter _ _ _) gw_2_69 gw_2_67 gw_2_68 gw_1_8 zdn_X3_isLetter (zrm hR (by decide) (by decide)) zd_X3_step_140 (zCl_S1 zok_l) (zs_if_ne (tgt := 168) zd_X3_step_143 (by decide) (zbs_X3_step_168 hR J hJ) (zbs_X3_step_146 hR J hJ))))))))))))))))
def zB_X3_step (K : zKt) (J : Nat → zPP) (h : Nat) : zPP := if h = 8 then zb_X3_step_8 K J else if h = 110 then zb_X3_step_110 K J else (fun _ _ _ => False)
theorem zBs_X3_step {X : zCt} (hR : zRX X = { frames := 1, cells := 0, slots := 0, locals := 20 }) : ∀ J : Nat → zPP, (∀ h ∈ ([8, 110] : List Nat), zSd X RX3 "step" cX3_step 3 none h (J h)) → ∀ h ∈ ([8, 110] : List Nat), zSd X RX3 "step" cX3_step 3 none h (zB_X3_step (zKX X) J h) := by
  intro J hJ h hh
  unfold zB_X3_step
  simp only [List.mem_cons, List.not_mem_nil, or_false] at hh
  rcases hh with rfl | rfl
  · exact zbs_X3_step_8 hR J hJ
  · exact zbs_X3_step_110 hR J hJ
theorem zdn_X3_step : yX3_step.cls ≠ "java/lang/invoke/MethodHandle" ∧ yX3_step.cls ≠ "java/lang/invoke/VarHandle" ∧ (parseMethodDescriptor yX3_step.desc).map (fun d => d.parameters.length) = some 0 := by decide +kernel
