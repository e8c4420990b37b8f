/-! THE READER: bytes, tokens -/
def bt (tp : List Nat) (i : Nat) : Nat := tp.getD i 0
def ltr (b : Nat) : Bool := decide (97 ≤ b ∧ b ≤ 122)
def dgt (b : Nat) : Bool := decide (48 ≤ b ∧ b ≤ 57)
def zsb (b : Nat) : Int32 := (nI b).toInt8.toInt32
theorem zsb_eq : ∀ b, b < 256 → ∀ c, c < 128 → (zsb b = nI c ↔ b = c) := by decide +kernel
theorem zsb_ltr : ∀ b, b < 256 → ((97 ≤ zsb b ∧ zsb b ≤ 122) ↔ ltr b = true) := by decide +kernel
theorem zsb_dgt : ∀ b, b < 256 → ((48 ≤ zsb b ∧ zsb b ≤ 57) ↔ dgt b = true) := by decide +kernel
theorem zsb_val : ∀ b, b < 256 → dgt b = true → zsb b = nI b := by decide +kernel
theorem zTp.at {M : zMm} {tp : List Nat} (h : zTp M tp) {i : Nat} (hi : i < tp.length) : bt tp i < 256 ∧ M.2.1 4 i = zsb (bt tp i) := by
  have hg : tp[i]? = some (bt tp i) := by
    unfold bt
    rw [List.getD_eq_getElem?_getD, List.getElem?_eq_getElem hi]
    rfl
  exact h.2.2 i _ hg
def wrun (p : Nat → Bool) : Nat → Nat → Nat
  | 0, i => i
  | k + 1, i => if p i = true then wrun p k (i + 1) else i
theorem wrun_t {p : Nat → Bool} {n i : Nat} (h : i < n) (hp : p i = true) : wrun p (n - i) i = wrun p (n - (i + 1)) (i + 1) := by
  rw [show n - i = (n - (i + 1)) + 1 from by omega]
  show (if p i = true then wrun p (n - (i + 1)) (i + 1) else i) = _
  rw [if_pos hp]
theorem wrun_f {p : Nat → Bool} {n i : Nat} (h : i < n) (hp : p i = false) : wrun p (n - i) i = i := by
  rw [show n - i = (n - (i + 1)) + 1 from by omega]
  show (if p i = true then wrun p (n - (i + 1)) (i + 1) else i) = _
  rw [if_neg (by rw [hp]; decide)]
theorem wrun_bd {p : Nat → Bool} : ∀ k i, i ≤ wrun p k i ∧ wrun p k i ≤ i + k
  | 0, i => ⟨Nat.le_refl _, Nat.le_refl _⟩
  | k + 1, i => by
    show i ≤ (if p i = true then wrun p k (i + 1) else i) ∧ (if p i = true then wrun p k (i + 1) else i) ≤ _
    have := wrun_bd (p := p) k (i + 1)
    split <;> omega
theorem wrun_all {p : Nat → Bool} : ∀ k i j, i ≤ j → j < wrun p k i → p j = true
  | 0, i, j, h1, h2 => by
    have : j < i := h2
    omega
  | k + 1, i, j, h1, h2 => by
    by_cases hp : p i = true
    · have e : wrun p (k + 1) i = wrun p k (i + 1) := if_pos hp
      rw [e] at h2
      rcases Nat.lt_or_ge i j with q | q
      · exact wrun_all k (i + 1) j q h2
      · have : j = i := by omega
        rw [this]; exact hp
    · have e : wrun p (k + 1) i = i := if_neg hp
      rw [e] at h2
      omega
theorem wrun_end {p : Nat → Bool} : ∀ k i, wrun p k i < i + k → p (wrun p k i) = false
  | 0, i, h => by
    have : i < i + 0 := h
    omega
  | k + 1, i, h => by
    by_cases hp : p i = true
    · have e : wrun p (k + 1) i = wrun p k (i + 1) := if_pos hp
      rw [e] at h ⊢
      exact wrun_end k (i + 1) (by omega)
    · have e : wrun p (k + 1) i = i := if_neg hp
      rw [e]
      simpa using hp
def wsp (tp : List Nat) (i : Nat) : Bool := decide (bt tp i = 32)
def wsk (tp : List Nat) (s : Nat) : Nat := wrun (wsp tp) (tp.length - s) s
def wq (tp : List Nat) (a i : Nat) : Bool := (ltr (bt tp a) && ltr (bt tp i)) || (dgt (bt tp a) && dgt (bt tp i))
def wte (tp : List Nat) (a : Nat) : Nat := if tp.length ≤ a then a else wrun (wq tp a) (tp.length - (a + 1)) (a + 1)
/-- the token behind s: from, to -/
def wtk (tp : List Nat) (s : Nat) : Nat × Nat := (wsk tp s, wte tp (wsk tp s))
theorem wsk_bd {tp : List Nat} {s : Nat} (h : s ≤ tp.length) : s ≤ wsk tp s ∧ wsk tp s ≤ tp.length := by
  have := wrun_bd (p := wsp tp) (tp.length - s) s
  unfold wsk
  omega
theorem wte_bd {tp : List Nat} {a : Nat} (h : a ≤ tp.length) : a ≤ wte tp a ∧ wte tp a ≤ tp.length ∧ (a < tp.length → a < wte tp a) := by
  unfold wte
  split
  · omega
  · have := wrun_bd (p := wq tp a) (tp.length - (a + 1)) (a + 1)
    omega
def zc_X3_isLetter (a : List Value) (M : zMm) (K : zKt) : Prop := match a with
  | [.int x] => K (some (.int (zbI (97 ≤ x ∧ x ≤ 122)))) M
  | _ => False
theorem zm_X3_isLetter (l : Launch) (D : va_G) (Y : Nat → ClassId) : zMt l D Y yX3_isLetter cX3_isLetter 1 (some .boolean) 0 0 0 0 zc_X3_isLetter := by
  refine zflat (by decide) (fun K J _ _ => zb_X3_isLetter_0 K J) (fun X hR => zbs_X3_isLetter_0 hR zJ0 zJ0_ok) (fun avs M K h => ?_)
  unfold zc_X3_isLetter at h
  split at h
  · refine ⟨by simp [zent], ?_⟩
    simp only [zb_X3_isLetter_0, zb_X3_isLetter_16, zb_X3_isLetter_17, zT_push, zT_bin, zT_div, zT_bil, zT_shl, zT_un, zT_i2l, zT_l2i, zT_lcmp, zT_ild, zT_lld, zT_ald, zT_ist, zT_lst, zT_ast, zT_iinc, zT_dup, zT_dup2, zT_pop, zT_if1, zT_if2, zT_ifn, zT_getI, zT_getJ, zT_getR, zT_putI, zT_putZ, zT_putJ, zT_putR, zT_ald0, zT_lald, zT_aald, zT_iast, zT_zast, zT_bast, zT_last, zT_aast, zT_iret, zT_nret, zT_aret, zT_vret, zT_oi, zT_mm, zT_ialX, zT_S1, zT_S2, zT_S3, zT_V0, zT_V1, zT_V2, zT_V3, zT_V4, zT_V5, zT_V6, zT_I0, zT_I1, zT_I2, zlg, zlset, zlpr, zent, zok, va_rf, List.length_cons, List.length_nil, List.replicate, List.cons_append, List.nil_append, List.append_nil, Option.toList_some, Option.toList_none, Option.toList, Nat.reduceAdd, Nat.reduceSub, Nat.reduceLeDiff, Nat.zero_add, Nat.zero_le, true_and, and_true, Nat.le_refl, ge_iff_le, Nat.reduceEqDiff]
    refine ⟨fun h1 => ⟨rfl, ?_⟩, fun h1 => ⟨fun h2 => ⟨rfl, ?_⟩, fun h2 => ⟨rfl, ?_⟩⟩⟩
    · rw [zbI_f (fun q => Int32.not_le.mpr h1 q.1)] at h; exact h
    · rw [zbI_f (fun q => Int32.not_le.mpr h2 q.2)] at h; exact h
    · rw [zbI_t ⟨Int32.not_lt.mp h1, Int32.not_lt.mp h2⟩] at h; exact h
  · exact h.elim
def zc_X3_isDigit (a : List Value) (M : zMm) (K : zKt) : Prop := match a with
  | [.int x] => K (some (.int (zbI (48 ≤ x ∧ x ≤ 57)))) M
  | _ => False
theorem zm_X3_isDigit (l : Launch) (D : va_G) (Y : Nat → ClassId) : zMt l D Y yX3_isDigit cX3_isDigit 1 (some .boolean) 0 0 0 0 zc_X3_isDigit := by
  refine zflat (by decide) (fun K J _ _ => zb_X3_isDigit_0 K J) (fun X hR => zbs_X3_isDigit_0 hR zJ0 zJ0_ok) (fun avs M K h => ?_)
  unfold zc_X3_isDigit at h
  split at h
  · refine ⟨by simp [zent], ?_⟩
    simp only [zb_X3_isDigit_0, zb_X3_isDigit_16, zb_X3_isDigit_17, zT_push, zT_bin, zT_div, zT_bil, zT_shl, zT_un, zT_i2l, zT_l2i, zT_lcmp, zT_ild, zT_lld, zT_ald, zT_ist, zT_lst, zT_ast, zT_iinc, zT_dup, zT_dup2, zT_pop, zT_if1, zT_if2, zT_ifn, zT_getI, zT_getJ, zT_getR, zT_putI, zT_putZ, zT_putJ, zT_putR, zT_ald0, zT_lald, zT_aald, zT_iast, zT_zast, zT_bast, zT_last, zT_aast, zT_iret, zT_nret, zT_aret, zT_vret, zT_oi, zT_mm, zT_ialX, zT_S1, zT_S2, zT_S3, zT_V0, zT_V1, zT_V2, zT_V3, zT_V4, zT_V5, zT_V6, zT_I0, zT_I1, zT_I2, zlg, zlset, zlpr, zent, zok, va_rf, List.length_cons, List.length_nil, List.replicate, List.cons_append, List.nil_append, List.append_nil, Option.toList_some, Option.toList_none, Option.toList, Nat.reduceAdd, Nat.reduceSub, Nat.reduceLeDiff, Nat.zero_add, Nat.zero_le, true_and, and_true, Nat.le_refl, ge_iff_le, Nat.reduceEqDiff]
    refine ⟨fun h1 => ⟨rfl, ?_⟩, fun h1 => ⟨fun h2 => ⟨rfl, ?_⟩, fun h2 => ⟨rfl, ?_⟩⟩⟩
    · rw [zbI_f (fun q => Int32.not_le.mpr h1 q.1)] at h; exact h
    · rw [zbI_f (fun q => Int32.not_le.mpr h2 q.2)] at h; exact h
    · rw [zbI_t ⟨Int32.not_lt.mp h1, Int32.not_lt.mp h2⟩] at h; exact h
  · exact h.elim
/-- the reader k reads the tape tp at start, stop -/
def zRd (M : zMm) (k : Nat) (tp : List Nat) (a b : Nat) : Prop := zsh k = (5, 3, 5) ∧ 500 ≤ k ∧ M.2.2.2 k 0 = some 3 ∧ M.2.2.2 3 0 = some 4 ∧ zTp M tp ∧ M.2.1 k 2 = nI a ∧ M.2.1 k 3 = nI b
def zc_X3_atEnd (a : List Value) (M : zMm) (K : zKt) : Prop := match a with
  | [.ref k] => ∃ tp a b, zRd M k tp a b ∧ a ≤ tp.length ∧ K (some (.int (zbI (tp.length ≤ a)))) M
  | _ => False
theorem zm_X3_atEnd (l : Launch) (D : va_G) (Y : Nat → ClassId) : zMt l D Y yX3_atEnd cX3_atEnd 1 (some .boolean) 0 0 0 0 zc_X3_atEnd := by
  refine zflat (by decide) (fun K J _ _ => zb_X3_atEnd_0 K J) (fun X hR => zbs_X3_atEnd_0 hR zJ0 zJ0_ok) (fun avs M K h => ?_)
  unfold zc_X3_atEnd at h
  split at h
  · obtain ⟨tp, a, b, ⟨h1, -, h2, h3, h4, h5, h6⟩, ha, h⟩ := h
    have t1 := h4.1
    have t2 := h4.2.1
    refine ⟨by simp [zent], ?_⟩
    simp only [zb_X3_atEnd_0, zb_X3_atEnd_19, zsh_3, h1, h2, h5, t1, zT_push, zT_bin, zT_div, zT_bil, zT_shl, zT_un, zT_i2l, zT_l2i, zT_lcmp, zT_ild, zT_lld, zT_ald, zT_ist, zT_lst, zT_ast, zT_iinc, zT_dup, zT_dup2, zT_pop, zT_if1, zT_if2, zT_ifn, zT_getI, zT_getJ, zT_getR, zT_putI, zT_putZ, zT_putJ, zT_putR, zT_ald0, zT_lald, zT_aald, zT_iast, zT_zast, zT_bast, zT_last, zT_aast, zT_iret, zT_nret, zT_aret, zT_vret, zT_oi, zT_mm, zT_ialX, zT_S1, zT_S2, zT_S3, zT_V0, zT_V1, zT_V2, zT_V3, zT_V4, zT_V5, zT_V6, zT_I0, zT_I1, zT_I2, zlg, zlset, zlpr, zent, zok, va_rf, List.length_cons, List.length_nil, List.replicate, List.cons_append, List.nil_append, List.append_nil, Option.toList_some, Option.toList_none, Option.toList, Nat.reduceAdd, Nat.reduceSub, Nat.reduceLeDiff, Nat.zero_add, Nat.zero_le, true_and, and_true, Nat.le_refl, ge_iff_le, Nat.reduceEqDiff]
    refine ⟨fun q => ⟨rfl, ?_⟩, fun q => ⟨rfl, ?_⟩⟩
    · rw [zbI_f (fun z => by have := (nI_ltI (by omega) (by omega)).mp q; omega)] at h; exact h
    · rw [zbI_t] at h
      · exact h
      · rcases Nat.lt_or_ge a tp.length with z | z
        · exact absurd ((nI_ltI (by omega) (by omega)).mpr z) q
        · exact z
  · exact h.elim

