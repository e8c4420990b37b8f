/-! ONE INSTRUCTION, ONE TRANSFORMER: zT_.. P is what must hold ahead of the instruction so that P holds behind it; zs_..: it is sound -/
theorem zoL.top {L : List Nat} {ls : zLo} {v : Value} {st : List Value} (h : zoL L ls (v :: st)) : zov L v ∧ zoL L ls st := ⟨h.1 v List.mem_cons_self, fun w hw => h.1 w (List.mem_cons_of_mem _ hw), h.2⟩
theorem zoL.push {L : List Nat} {ls : zLo} {v : Value} {st : List Value} (hv : zov L v) (h : zoL L ls st) : zoL L ls (v :: st) := ⟨fun w hw => (List.mem_cons.mp hw).elim (fun e => e ▸ hv) (h.1 w), h.2⟩
theorem zoL.set {L : List Nat} {ls : zLo} {v : Value} {st : List Value} {i : Nat} (hv : zov L v) (h : zoL L ls st) : zoL L (zlset ls i (some v)) st := ⟨h.1, fun j w hw => (zlg_set hw).elim (fun e => by cases e.2; exact hv) (fun e => h.2 j w e.2)⟩
theorem zoL.clr {L : List Nat} {ls : zLo} {st : List Value} {i : Nat} (h : zoL L ls st) : zoL L (zlset ls i none) st := ⟨h.1, fun j w hw => (zlg_set hw).elim (fun e => by cases e.2) (fun e => h.2 j w e.2)⟩
section ZR
variable {X : zCt} {own nm : String} {cc : ByteArray} {nL : Nat} {ret : Option FieldType} {pc : Nat} {P P2 : zPP}
def zT_push (v : Value) (P : zPP) : zPP := fun M ls st => P M ls (v :: st)
def zT_bin (f : Int32 → Int32 → Int32) (P : zPP) : zPP := fun M ls st => match st with
  | .int y :: .int x :: r => P M ls (.int (f x y) :: r)
  | _ => False
def zT_div (f : Int32 → Int32 → Int32) (P : zPP) : zPP := fun M ls st => match st with
  | .int y :: .int x :: r => ¬ y = 0 ∧ P M ls (.int (f x y) :: r)
  | _ => False
def zT_bil (f : Int64 → Int64 → Int64) (P : zPP) : zPP := fun M ls st => match st with
  | .long y :: .long x :: r => P M ls (.long (f x y) :: r)
  | _ => False
def zT_shl (f : Int64 → Int32 → Int64) (P : zPP) : zPP := fun M ls st => match st with
  | .int y :: .long x :: r => P M ls (.long (f x y) :: r)
  | _ => False
def zT_un (f : Int32 → Int32) (P : zPP) : zPP := fun M ls st => match st with
  | .int x :: r => P M ls (.int (f x) :: r)
  | _ => False
def zT_i2l (P : zPP) : zPP := fun M ls st => match st with
  | .int x :: r => P M ls (.long x.toInt64 :: r)
  | _ => False
def zT_l2i (P : zPP) : zPP := fun M ls st => match st with
  | .long x :: r => P M ls (.int x.toInt32 :: r)
  | _ => False
def zT_lcmp (P : zPP) : zPP := fun M ls st => match st with
  | .long y :: .long x :: r => P M ls (.int (lg_cmp x y) :: r)
  | _ => False
def zT_ild (i : Nat) (P : zPP) : zPP := fun M ls st => match zlg ls i with
  | some (.int x) => P M ls (.int x :: st)
  | _ => False
def zT_lld (i : Nat) (P : zPP) : zPP := fun M ls st => match zlg ls i with
  | some (.long x) => P M ls (.long x :: st)
  | _ => False
def zT_ald (i : Nat) (P : zPP) : zPP := fun M ls st => match zlg ls i with
  | some (.ref x) => P M ls (.ref x :: st)
  | some .null => P M ls (.null :: st)
  | _ => False
def zT_ist (i : Nat) (P : zPP) : zPP := fun M ls st => match st, zlpr ls i with
  | _, some (.long _) => False
  | _, some (.double _) => False
  | .int x :: r, _ => P M (zlset ls i (some (.int x))) r
  | _, _ => False
def zT_lst (i : Nat) (P : zPP) : zPP := fun M ls st => match st, zlpr ls i with
  | _, some (.long _) => False
  | _, some (.double _) => False
  | .long x :: r, _ => P M (zlset (zlset ls i (some (.long x))) (i + 1) none) r
  | _, _ => False
def zT_ast (i : Nat) (P : zPP) : zPP := fun M ls st => match st, zlpr ls i with
  | _, some (.long _) => False
  | _, some (.double _) => False
  | .ref x :: r, _ => P M (zlset ls i (some (.ref x))) r
  | .null :: r, _ => P M (zlset ls i (some .null)) r
  | _, _ => False
def zT_iinc (i : Nat) (n : Int32) (P : zPP) : zPP := fun M ls st => match zlg ls i, zlpr ls i with
  | _, some (.long _) => False
  | _, some (.double _) => False
  | some (.int x), _ => P M (zlset ls i (some (.int (x + n)))) st
  | _, _ => False
def zT_dup (P : zPP) : zPP := fun M ls st => match st with
  | .int x :: r => P M ls (.int x :: .int x :: r)
  | .ref x :: r => P M ls (.ref x :: .ref x :: r)
  | _ => False
def zT_dup2 (P : zPP) : zPP := fun M ls st => match st with
  | .int x :: .ref y :: r => P M ls (.int x :: .ref y :: .int x :: .ref y :: r)
  | _ => False
def zT_pop (P : zPP) : zPP := fun M ls st => match st with
  | .int _ :: r => P M ls r
  | _ => False
def zT_if1 (f : Int32 → Prop) (P P2 : zPP) : zPP := fun M ls st => match st with
  | .int x :: r => (f x → P M ls r) ∧ (¬ f x → P2 M ls r)
  | _ => False
def zT_if2 (f : Int32 → Int32 → Prop) (P P2 : zPP) : zPP := fun M ls st => match st with
  | .int y :: .int x :: r => (f x y → P M ls r) ∧ (¬ f x y → P2 M ls r)
  | _ => False
def zT_ifn (P P2 : zPP) : zPP := fun M ls st => match st with
  | .null :: r => P M ls r
  | .ref _ :: r => P2 M ls r
  | _ => False
theorem zs_iconst {n : Int} {v : Int32} (hd : decode cc pc = .ok (.iconst n, 1)) (hv : Int32.ofInt n = v) (k : zSd X own nm cc nL ret (pc + 1) P) : zSd X own nm cc nL ret pc (zT_push (.int v) P) := by
  intro C M ls st h
  obtain ⟨p, l, e, R, s, m, args, below, meth, c, D, Y, ad0, M0, K⟩ := X
  intro ad H locs lsA hW ho hl
  exact lv_iconst C.1 C.2.1 hd hv (k C M ls _ h ad H locs lsA hW (ho.push trivial) hl)
theorem zs_bipush {n : Int} {v : Int32} (hd : decode cc pc = .ok (.bipush n, 2)) (hv : (Int8.ofInt n).toInt32 = v) (k : zSd X own nm cc nL ret (pc + 2) P) : zSd X own nm cc nL ret pc (zT_push (.int v) P) := by
  intro C M ls st h
  obtain ⟨p, l, e, R, s, m, args, below, meth, c, D, Y, ad0, M0, K⟩ := X
  intro ad H locs lsA hW ho hl
  exact lv_bipush C.1 C.2.1 hd hv (k C M ls _ h ad H locs lsA hW (ho.push trivial) hl)
theorem zs_sipush {n : Int} {v : Int32} (hd : decode cc pc = .ok (.sipush n, 3)) (hv : (Int16.ofInt n).toInt32 = v) (k : zSd X own nm cc nL ret (pc + 3) P) : zSd X own nm cc nL ret pc (zT_push (.int v) P) := by
  intro C M ls st h
  obtain ⟨p, l, e, R, s, m, args, below, meth, c, D, Y, ad0, M0, K⟩ := X
  intro ad H locs lsA hW ho hl
  exact lv_sipush C.1 C.2.1 hd hv (k C M ls _ h ad H locs lsA hW (ho.push trivial) hl)
theorem zs_lconst {n : Fin 2} {v : Int64} (hd : decode cc pc = .ok (.lconst n, 1)) (hv : Int64.ofNat n = v) (k : zSd X own nm cc nL ret (pc + 1) P) : zSd X own nm cc nL ret pc (zT_push (.long v) P) := by
  intro C M ls st h
  obtain ⟨p, l, e, R, s, m, args, below, meth, c, D, Y, ad0, M0, K⟩ := X
  intro ad H locs lsA hW ho hl
  exact lv_lconst C.1 C.2.1 hd hv (k C M ls _ h ad H locs lsA hW (ho.push trivial) hl)
theorem zs_ldc2 {n : Nat} {v : Int64} (hd : decode cc pc = .ok (.ldc2_w n, 3)) (hw : Cond.constantLong own n v ∈ gT) (k : zSd X own nm cc nL ret (pc + 3) P) : zSd X own nm cc nL ret pc (zT_push (.long v) P) := by
  intro C M ls st h
  obtain ⟨p, l, e, R, s, m, args, below, meth, c, D, Y, ad0, M0, K⟩ := X
  intro ad H locs lsA hW ho hl
  exact lv_ldc2 C.1 C.2.1 C.2.2.2.2.1 (C.2.2.2.2.2.1 _ hw) hd (k C M ls _ h ad H locs lsA hW (ho.push trivial) hl)
theorem zs_iadd (hd : decode cc pc = .ok (.iadd, 1)) (k : zSd X own nm cc nL ret (pc + 1) P) : zSd X own nm cc nL ret pc (zT_bin (fun x y => x + y) P) := by
  intro C M ls st h
  obtain ⟨p, l, e, R, s, m, args, below, meth, c, D, Y, ad0, M0, K⟩ := X
  unfold zT_bin at h
  split at h
  · intro ad H locs lsA hW ho hl
    exact lv_iadd C.1 C.2.1 hd (k C M ls _ h ad H locs lsA hW (ho.top.2.top.2.push trivial) hl)
  · exact h.elim
theorem zs_isub (hd : decode cc pc = .ok (.isub, 1)) (k : zSd X own nm cc nL ret (pc + 1) P) : zSd X own nm cc nL ret pc (zT_bin (fun x y => x - y) P) := by
  intro C M ls st h
  obtain ⟨p, l, e, R, s, m, args, below, meth, c, D, Y, ad0, M0, K⟩ := X
  unfold zT_bin at h
  split at h
  · intro ad H locs lsA hW ho hl
    exact lv_isub C.1 C.2.1 hd (k C M ls _ h ad H locs lsA hW (ho.top.2.top.2.push trivial) hl)
  · exact h.elim
theorem zs_imul (hd : decode cc pc = .ok (.imul, 1)) (k : zSd X own nm cc nL ret (pc + 1) P) : zSd X own nm cc nL ret pc (zT_bin (fun x y => x * y) P) := by
  intro C M ls st h
  obtain ⟨p, l, e, R, s, m, args, below, meth, c, D, Y, ad0, M0, K⟩ := X
  unfold zT_bin at h
  split at h
  · intro ad H locs lsA hW ho hl
    exact lv_imul C.1 C.2.1 hd (k C M ls _ h ad H locs lsA hW (ho.top.2.top.2.push trivial) hl)
  · exact h.elim
theorem zs_iand (hd : decode cc pc = .ok (.iand, 1)) (k : zSd X own nm cc nL ret (pc + 1) P) : zSd X own nm cc nL ret pc (zT_bin (fun x y => x &&& y) P) := by
  intro C M ls st h
  obtain ⟨p, l, e, R, s, m, args, below, meth, c, D, Y, ad0, M0, K⟩ := X
  unfold zT_bin at h
  split at h
  · intro ad H locs lsA hW ho hl
    exact lv_iand C.1 C.2.1 hd (k C M ls _ h ad H locs lsA hW (ho.top.2.top.2.push trivial) hl)
  · exact h.elim
theorem zs_ior (hd : decode cc pc = .ok (.ior, 1)) (k : zSd X own nm cc nL ret (pc + 1) P) : zSd X own nm cc nL ret pc (zT_bin (fun x y => x ||| y) P) := by
  intro C M ls st h
  obtain ⟨p, l, e, R, s, m, args, below, meth, c, D, Y, ad0, M0, K⟩ := X
  unfold zT_bin at h
  split at h
  · intro ad H locs lsA hW ho hl
    exact lv_ior C.1 C.2.1 hd (k C M ls _ h ad H locs lsA hW (ho.top.2.top.2.push trivial) hl)
  · exact h.elim
theorem zs_ishr (hd : decode cc pc = .ok (.ishr, 1)) (k : zSd X own nm cc nL ret (pc + 1) P) : zSd X own nm cc nL ret pc (zT_bin (fun x y => x >>> (y &&& 31)) P) := by
  intro C M ls st h
  obtain ⟨p, l, e, R, s, m, args, below, meth, c, D, Y, ad0, M0, K⟩ := X
  unfold zT_bin at h
  split at h
  · intro ad H locs lsA hW ho hl
    exact lv_ishr C.1 C.2.1 hd (k C M ls _ h ad H locs lsA hW (ho.top.2.top.2.push trivial) hl)
  · exact h.elim
theorem zs_ishl (hd : decode cc pc = .ok (.ishl, 1)) (k : zSd X own nm cc nL ret (pc + 1) P) : zSd X own nm cc nL ret pc (zT_bin (fun x y => x <<< (y &&& 31)) P) := by
  intro C M ls st h
  obtain ⟨p, l, e, R, s, m, args, below, meth, c, D, Y, ad0, M0, K⟩ := X
  unfold zT_bin at h
  split at h
  · intro ad H locs lsA hW ho hl
    exact lv_ishl C.1 C.2.1 hd (k C M ls _ h ad H locs lsA hW (ho.top.2.top.2.push trivial) hl)
  · exact h.elim
theorem zs_idiv (hd : decode cc pc = .ok (.idiv, 1)) (k : zSd X own nm cc nL ret (pc + 1) P) : zSd X own nm cc nL ret pc (zT_div (fun x y => x / y) P) := by
  intro C M ls st h
  obtain ⟨p, l, e, R, s, m, args, below, meth, c, D, Y, ad0, M0, K⟩ := X
  unfold zT_div at h
  split at h
  · intro ad H locs lsA hW ho hl
    exact lv_idiv C.1 C.2.1 hd h.1 (k C M ls _ h.2 ad H locs lsA hW (ho.top.2.top.2.push trivial) hl)
  · exact h.elim
theorem zs_irem (hd : decode cc pc = .ok (.irem, 1)) (k : zSd X own nm cc nL ret (pc + 1) P) : zSd X own nm cc nL ret pc (zT_div (fun x y => x - x / y * y) P) := by
  intro C M ls st h
  obtain ⟨p, l, e, R, s, m, args, below, meth, c, D, Y, ad0, M0, K⟩ := X
  unfold zT_div at h
  split at h
  · intro ad H locs lsA hW ho hl
    exact lv_irem C.1 C.2.1 hd h.1 (k C M ls _ h.2 ad H locs lsA hW (ho.top.2.top.2.push trivial) hl)
  · exact h.elim
theorem zs_ladd (hd : decode cc pc = .ok (.ladd, 1)) (k : zSd X own nm cc nL ret (pc + 1) P) : zSd X own nm cc nL ret pc (zT_bil (fun x y => x + y) P) := by
  intro C M ls st h
  obtain ⟨p, l, e, R, s, m, args, below, meth, c, D, Y, ad0, M0, K⟩ := X
  unfold zT_bil at h
  split at h
  · intro ad H locs lsA hW ho hl
    exact lv_ladd C.1 C.2.1 hd (k C M ls _ h ad H locs lsA hW (ho.top.2.top.2.push trivial) hl)
  · exact h.elim
theorem zs_lsub (hd : decode cc pc = .ok (.lsub, 1)) (k : zSd X own nm cc nL ret (pc + 1) P) : zSd X own nm cc nL ret pc (zT_bil (fun x y => x - y) P) := by
  intro C M ls st h
  obtain ⟨p, l, e, R, s, m, args, below, meth, c, D, Y, ad0, M0, K⟩ := X
  unfold zT_bil at h
  split at h
  · intro ad H locs lsA hW ho hl
    exact lv_lsub C.1 C.2.1 hd (k C M ls _ h ad H locs lsA hW (ho.top.2.top.2.push trivial) hl)
  · exact h.elim
theorem zs_lmul (hd : decode cc pc = .ok (.lmul, 1)) (k : zSd X own nm cc nL ret (pc + 1) P) : zSd X own nm cc nL ret pc (zT_bil (fun x y => x * y) P) := by
  intro C M ls st h
  obtain ⟨p, l, e, R, s, m, args, below, meth, c, D, Y, ad0, M0, K⟩ := X
  unfold zT_bil at h
  split at h
  · intro ad H locs lsA hW ho hl
    exact lv_lmul C.1 C.2.1 hd (k C M ls _ h ad H locs lsA hW (ho.top.2.top.2.push trivial) hl)
  · exact h.elim
theorem zs_lor (hd : decode cc pc = .ok (.lor, 1)) (k : zSd X own nm cc nL ret (pc + 1) P) : zSd X own nm cc nL ret pc (zT_bil (fun x y => x ||| y) P) := by
  intro C M ls st h
  obtain ⟨p, l, e, R, s, m, args, below, meth, c, D, Y, ad0, M0, K⟩ := X
  unfold zT_bil at h
  split at h
  · intro ad H locs lsA hW ho hl
    exact lv_lor C.1 C.2.1 hd (k C M ls _ h ad H locs lsA hW (ho.top.2.top.2.push trivial) hl)
  · exact h.elim
theorem zs_lshl (hd : decode cc pc = .ok (.lshl, 1)) (k : zSd X own nm cc nL ret (pc + 1) P) : zSd X own nm cc nL ret pc (zT_shl (fun x y => x <<< (y.toInt64 &&& 63)) P) := by
  intro C M ls st h
  obtain ⟨p, l, e, R, s, m, args, below, meth, c, D, Y, ad0, M0, K⟩ := X
  unfold zT_shl at h
  split at h
  · intro ad H locs lsA hW ho hl
    exact lv_lshl C.1 C.2.1 hd rfl (k C M ls _ h ad H locs lsA hW (ho.top.2.top.2.push trivial) hl)
  · exact h.elim
theorem zs_lushr (hd : decode cc pc = .ok (.lushr, 1)) (k : zSd X own nm cc nL ret (pc + 1) P) : zSd X own nm cc nL ret pc (zT_shl (fun x y => (x.toUInt64 >>> (y.toInt64.toUInt64 &&& Int64.toUInt64 63)).toInt64) P) := by
  intro C M ls st h
  obtain ⟨p, l, e, R, s, m, args, below, meth, c, D, Y, ad0, M0, K⟩ := X
  unfold zT_shl at h
  split at h
  · intro ad H locs lsA hW ho hl
    exact lv_lushr C.1 C.2.1 hd rfl (k C M ls _ h ad H locs lsA hW (ho.top.2.top.2.push trivial) hl)
  · exact h.elim
theorem zs_i2b (hd : decode cc pc = .ok (.i2b, 1)) (k : zSd X own nm cc nL ret (pc + 1) P) : zSd X own nm cc nL ret pc (zT_un (fun x => x.toInt8.toInt32) P) := by
  intro C M ls st h
  obtain ⟨p, l, e, R, s, m, args, below, meth, c, D, Y, ad0, M0, K⟩ := X
  unfold zT_un at h
  split at h
  · intro ad H locs lsA hW ho hl
    exact lv_i2b C.1 C.2.1 hd rfl (k C M ls _ h ad H locs lsA hW (ho.top.2.push trivial) hl)
  · exact h.elim
theorem zs_i2c (hd : decode cc pc = .ok (.i2c, 1)) (k : zSd X own nm cc nL ret (pc + 1) P) : zSd X own nm cc nL ret pc (zT_un (fun x => (x.toUInt32 % 65536).toInt32) P) := by
  intro C M ls st h
  obtain ⟨p, l, e, R, s, m, args, below, meth, c, D, Y, ad0, M0, K⟩ := X
  unfold zT_un at h
  split at h
  · intro ad H locs lsA hW ho hl
    exact lv_i2c C.1 C.2.1 hd rfl (k C M ls _ h ad H locs lsA hW (ho.top.2.push trivial) hl)
  · exact h.elim
theorem zs_i2l (hd : decode cc pc = .ok (.i2l, 1)) (k : zSd X own nm cc nL ret (pc + 1) P) : zSd X own nm cc nL ret pc (zT_i2l P) := by
  intro C M ls st h
  obtain ⟨p, l, e, R, s, m, args, below, meth, c, D, Y, ad0, M0, K⟩ := X
  unfold zT_i2l at h
  split at h
  · intro ad H locs lsA hW ho hl
    exact lv_i2l C.1 C.2.1 hd rfl (k C M ls _ h ad H locs lsA hW (ho.top.2.push trivial) hl)
  · exact h.elim
theorem zs_l2i (hd : decode cc pc = .ok (.l2i, 1)) (k : zSd X own nm cc nL ret (pc + 1) P) : zSd X own nm cc nL ret pc (zT_l2i P) := by
  intro C M ls st h
  obtain ⟨p, l, e, R, s, m, args, below, meth, c, D, Y, ad0, M0, K⟩ := X
  unfold zT_l2i at h
  split at h
  · intro ad H locs lsA hW ho hl
    exact lv_l2i C.1 C.2.1 hd rfl (k C M ls _ h ad H locs lsA hW (ho.top.2.push trivial) hl)
  · exact h.elim
theorem zs_lcmp (hd : decode cc pc = .ok (.lcmp, 1)) (k : zSd X own nm cc nL ret (pc + 1) P) : zSd X own nm cc nL ret pc (zT_lcmp P) := by
  intro C M ls st h
  obtain ⟨p, l, e, R, s, m, args, below, meth, c, D, Y, ad0, M0, K⟩ := X
  unfold zT_lcmp at h
  split at h
  · intro ad H locs lsA hW ho hl
    exact W.lcmp C.1 C.2.1 hd (k C M ls _ h ad H locs lsA hW (ho.top.2.top.2.push trivial) hl)
  · exact h.elim
theorem zs_iload_n {i : Fin 4} {j : Nat} (hd : decode cc pc = .ok (.iload_n i, 1)) (hi : (i : Nat) = j) (k : zSd X own nm cc nL ret (pc + 1) P) : zSd X own nm cc nL ret pc (zT_ild j P) := by
  intro C M ls st h
  obtain ⟨p, l, e, R, s, m, args, below, meth, c, D, Y, ad0, M0, K⟩ := X
  unfold zT_ild at h
  split at h
  · next heq =>
    intro ad H locs lsA hW ho hl
    exact lv_iload_n C.1 C.2.1 hd hi (zlv_get hl heq) (k C M ls _ h ad H locs lsA hW (ho.push trivial) hl)
  · exact h.elim
theorem zs_iload {j : Nat} (hd : decode cc pc = .ok (.iload j, 2)) (k : zSd X own nm cc nL ret (pc + 2) P) : zSd X own nm cc nL ret pc (zT_ild j P) := by
  intro C M ls st h
  obtain ⟨p, l, e, R, s, m, args, below, meth, c, D, Y, ad0, M0, K⟩ := X
  unfold zT_ild at h
  split at h
  · next heq =>
    intro ad H locs lsA hW ho hl
    exact lv_iload C.1 C.2.1 hd (zlv_get hl heq) (k C M ls _ h ad H locs lsA hW (ho.push trivial) hl)
  · exact h.elim
theorem zs_lload_n {i : Fin 4} {j : Nat} (hd : decode cc pc = .ok (.lload_n i, 1)) (hi : (i : Nat) = j) (k : zSd X own nm cc nL ret (pc + 1) P) : zSd X own nm cc nL ret pc (zT_lld j P) := by
  intro C M ls st h
  obtain ⟨p, l, e, R, s, m, args, below, meth, c, D, Y, ad0, M0, K⟩ := X
  unfold zT_lld at h
  split at h
  · next heq =>
    intro ad H locs lsA hW ho hl
    exact lv_lload_n C.1 C.2.1 hd hi (zlv_get hl heq) (k C M ls _ h ad H locs lsA hW (ho.push trivial) hl)
  · exact h.elim
theorem zs_lload {j : Nat} (hd : decode cc pc = .ok (.lload j, 2)) (k : zSd X own nm cc nL ret (pc + 2) P) : zSd X own nm cc nL ret pc (zT_lld j P) := by
  intro C M ls st h
  obtain ⟨p, l, e, R, s, m, args, below, meth, c, D, Y, ad0, M0, K⟩ := X
  unfold zT_lld at h
  split at h
  · next heq =>
    intro ad H locs lsA hW ho hl
    exact lv_lload C.1 C.2.1 hd (zlv_get hl heq) (k C M ls _ h ad H locs lsA hW (ho.push trivial) hl)
  · exact h.elim
theorem zs_aload_n {i : Fin 4} {j : Nat} (hd : decode cc pc = .ok (.aload_n i, 1)) (hi : (i : Nat) = j) (k : zSd X own nm cc nL ret (pc + 1) P) : zSd X own nm cc nL ret pc (zT_ald j P) := by
  intro C M ls st h
  obtain ⟨p, l, e, R, s, m, args, below, meth, c, D, Y, ad0, M0, K⟩ := X
  unfold zT_ald at h
  split at h
  · next heq =>
    intro ad H locs lsA hW ho hl
    exact lv_aload_n C.1 C.2.1 hd hi (zlv_get hl heq) (k C M ls _ h ad H locs lsA hW (ho.push (ho.2 _ _ heq)) hl)
  · next heq =>
    intro ad H locs lsA hW ho hl
    exact lv_aload_nN C.1 C.2.1 hd hi (zlv_get hl heq) (k C M ls _ h ad H locs lsA hW (ho.push trivial) hl)
  · exact h.elim
theorem zs_aload {j : Nat} (hd : decode cc pc = .ok (.aload j, 2)) (k : zSd X own nm cc nL ret (pc + 2) P) : zSd X own nm cc nL ret pc (zT_ald j P) := by
  intro C M ls st h
  obtain ⟨p, l, e, R, s, m, args, below, meth, c, D, Y, ad0, M0, K⟩ := X
  unfold zT_ald at h
  split at h
  · next heq =>
    intro ad H locs lsA hW ho hl
    exact lv_aload C.1 C.2.1 hd (zlv_get hl heq) (k C M ls _ h ad H locs lsA hW (ho.push (ho.2 _ _ heq)) hl)
  · next heq =>
    intro ad H locs lsA hW ho hl
    exact lv_aloadN C.1 C.2.1 hd (zlv_get hl heq) (k C M ls _ h ad H locs lsA hW (ho.push trivial) hl)
  · exact h.elim
theorem zs_istore_n {i : Fin 4} {j : Nat} (hd : decode cc pc = .ok (.istore_n i, 1)) (hi : (i : Nat) = j) (hn : j < nL) (k : zSd X own nm cc nL ret (pc + 1) P) : zSd X own nm cc nL ret pc (zT_ist j P) := by
  intro C M ls st h
  obtain ⟨p, l, e, R, s, m, args, below, meth, c, D, Y, ad0, M0, K⟩ := X
  unfold zT_ist at h
  split at h
  · exact h.elim
  · exact h.elim
  · next h1 h2 =>
    intro ad H locs lsA hW ho hl
    exact lv_istore_n C.1 C.2.1 hd hi hl hn rfl (fun ls' hl' => k C M _ _ h ad H locs ls' hW (ho.top.2.set trivial) (zlv_st1 (v := .int _) (fun x hx => (h1 x hx)) (fun x hx => (h2 x hx)) hl'))
  · exact h.elim
theorem zs_istore {j : Nat} (hd : decode cc pc = .ok (.istore j, 2)) (hn : j < nL) (k : zSd X own nm cc nL ret (pc + 2) P) : zSd X own nm cc nL ret pc (zT_ist j P) := by
  intro C M ls st h
  obtain ⟨p, l, e, R, s, m, args, below, meth, c, D, Y, ad0, M0, K⟩ := X
  unfold zT_ist at h
  split at h
  · exact h.elim
  · exact h.elim
  · next h1 h2 =>
    intro ad H locs lsA hW ho hl
    exact lv_istore C.1 C.2.1 hd hl hn rfl (fun ls' hl' => k C M _ _ h ad H locs ls' hW (ho.top.2.set trivial) (zlv_st1 (v := .int _) (fun x hx => (h1 x hx)) (fun x hx => (h2 x hx)) hl'))
  · exact h.elim
theorem zs_lstore_n {i : Fin 4} {j : Nat} (hd : decode cc pc = .ok (.lstore_n i, 1)) (hi : (i : Nat) = j) (hn : j + 1 < nL) (k : zSd X own nm cc nL ret (pc + 1) P) : zSd X own nm cc nL ret pc (zT_lst j P) := by
  intro C M ls st h
  obtain ⟨p, l, e, R, s, m, args, below, meth, c, D, Y, ad0, M0, K⟩ := X
  unfold zT_lst at h
  split at h
  · exact h.elim
  · exact h.elim
  · next h1 h2 =>
    intro ad H locs lsA hW ho hl
    exact lv_lstore_n C.1 C.2.1 hd hi hl hn rfl (fun ls' hl' => k C M _ _ h ad H locs ls' hW (zoL.clr (ho.top.2.set trivial)) (zlv_st2 (v := .long _) (fun x hx => (h1 x hx)) (fun x hx => (h2 x hx)) hl'))
  · exact h.elim
theorem zs_lstore {j : Nat} (hd : decode cc pc = .ok (.lstore j, 2)) (hn : j + 1 < nL) (k : zSd X own nm cc nL ret (pc + 2) P) : zSd X own nm cc nL ret pc (zT_lst j P) := by
  intro C M ls st h
  obtain ⟨p, l, e, R, s, m, args, below, meth, c, D, Y, ad0, M0, K⟩ := X
  unfold zT_lst at h
  split at h
  · exact h.elim
  · exact h.elim
  · next h1 h2 =>
    intro ad H locs lsA hW ho hl
    exact lv_lstore C.1 C.2.1 hd hl hn rfl (fun ls' hl' => k C M _ _ h ad H locs ls' hW (zoL.clr (ho.top.2.set trivial)) (zlv_st2 (v := .long _) (fun x hx => (h1 x hx)) (fun x hx => (h2 x hx)) hl'))
  · exact h.elim
theorem zs_astore_n {i : Fin 4} {j : Nat} (hd : decode cc pc = .ok (.astore_n i, 1)) (hi : (i : Nat) = j) (hn : j < nL) (k : zSd X own nm cc nL ret (pc + 1) P) : zSd X own nm cc nL ret pc (zT_ast j P) := by
  intro C M ls st h
  obtain ⟨p, l, e, R, s, m, args, below, meth, c, D, Y, ad0, M0, K⟩ := X
  unfold zT_ast at h
  split at h
  · exact h.elim
  · exact h.elim
  · next h1 h2 =>
    intro ad H locs lsA hW ho hl
    exact lv_astore_n C.1 C.2.1 hd hi hl hn rfl (fun ls' hl' => k C M _ _ h ad H locs ls' hW (ho.top.2.set ho.top.1) (zlv_st1 (v := .ref _) (fun x hx => (h1 x hx)) (fun x hx => (h2 x hx)) hl'))
  · next h1 h2 =>
    intro ad H locs lsA hW ho hl
    exact lv_astore_nN C.1 C.2.1 hd hi hl hn rfl (fun ls' hl' => k C M _ _ h ad H locs ls' hW (ho.top.2.set trivial) (zlv_st1 (v := .null) (fun x hx => (h1 x hx)) (fun x hx => (h2 x hx)) hl'))
  · exact h.elim
theorem zs_astore {j : Nat} (hd : decode cc pc = .ok (.astore j, 2)) (hn : j < nL) (k : zSd X own nm cc nL ret (pc + 2) P) : zSd X own nm cc nL ret pc (zT_ast j P) := by
  intro C M ls st h
  obtain ⟨p, l, e, R, s, m, args, below, meth, c, D, Y, ad0, M0, K⟩ := X
  unfold zT_ast at h
  split at h
  · exact h.elim
  · exact h.elim
  · next h1 h2 =>
    intro ad H locs lsA hW ho hl
    exact lv_astore C.1 C.2.1 hd hl hn rfl (fun ls' hl' => k C M _ _ h ad H locs ls' hW (ho.top.2.set ho.top.1) (zlv_st1 (v := .ref _) (fun x hx => (h1 x hx)) (fun x hx => (h2 x hx)) hl'))
  · next h1 h2 =>
    intro ad H locs lsA hW ho hl
    exact lv_astoreN C.1 C.2.1 hd hl hn rfl (fun ls' hl' => k C M _ _ h ad H locs ls' hW (ho.top.2.set trivial) (zlv_st1 (v := .null) (fun x hx => (h1 x hx)) (fun x hx => (h2 x hx)) hl'))
  · exact h.elim
theorem zs_iinc {j : Nat} {n : Int} {v : Int32} (hd : decode cc pc = .ok (.iinc j n, 3)) (hv : Int32.ofInt n = v) (hn : j < nL) (k : zSd X own nm cc nL ret (pc + 3) P) : zSd X own nm cc nL ret pc (zT_iinc j v P) := by
  intro C M ls st h
  obtain ⟨p, l, e, R, s, m, args, below, meth, c, D, Y, ad0, M0, K⟩ := X
  unfold zT_iinc at h
  split at h
  · exact h.elim
  · exact h.elim
  · next heq h1 h2 =>
    intro ad H locs lsA hW ho hl
    obtain ⟨q, hq⟩ := List.getElem?_of_mem (zlcv_mem.mpr ⟨j, _, heq, rfl⟩ : (0 + j, zcv ad (.int _)) ∈ zlcv ad 0 ls)
    rw [Nat.zero_add] at hq
    exact lv_iinc C.1 C.2.1 hd hl hq (by rw [hv]) hn rfl (fun ls' hl' => k C M _ _ h ad H locs ls' hW (ho.set trivial) (zlv_st1 (v := .int _) (fun x hx => (h1 x hx)) (fun x hx => (h2 x hx)) hl'))
  · exact h.elim
theorem zs_dup (hd : decode cc pc = .ok (.dup, 1)) (k : zSd X own nm cc nL ret (pc + 1) P) : zSd X own nm cc nL ret pc (zT_dup P) := by
  intro C M ls st h
  obtain ⟨p, l, e, R, s, m, args, below, meth, c, D, Y, ad0, M0, K⟩ := X
  unfold zT_dup at h
  split at h
  · intro ad H locs lsA hW ho hl
    exact lv_dup C.1 C.2.1 hd rfl (k C M ls _ h ad H locs lsA hW (ho.push ho.top.1) hl)
  · intro ad H locs lsA hW ho hl
    exact lv_dup C.1 C.2.1 hd rfl (k C M ls _ h ad H locs lsA hW (ho.push ho.top.1) hl)
  · exact h.elim
theorem zs_dup2 (hd : decode cc pc = .ok (.dup2, 1)) (k : zSd X own nm cc nL ret (pc + 1) P) : zSd X own nm cc nL ret pc (zT_dup2 P) := by
  intro C M ls st h
  obtain ⟨p, l, e, R, s, m, args, below, meth, c, D, Y, ad0, M0, K⟩ := X
  unfold zT_dup2 at h
  split at h
  · intro ad H locs lsA hW ho hl
    exact lv_dup2_11 C.1 C.2.1 hd rfl rfl (k C M ls _ h ad H locs lsA hW ((ho.push ho.top.2.top.1).push trivial) hl)
  · exact h.elim
theorem zs_pop (hd : decode cc pc = .ok (.pop, 1)) (k : zSd X own nm cc nL ret (pc + 1) P) : zSd X own nm cc nL ret pc (zT_pop P) := by
  intro C M ls st h
  obtain ⟨p, l, e, R, s, m, args, below, meth, c, D, Y, ad0, M0, K⟩ := X
  unfold zT_pop at h
  split at h
  · intro ad H locs lsA hW ho hl
    exact lv_pop C.1 C.2.1 hd rfl (k C M ls _ h ad H locs lsA hW ho.top.2 hl)
  · exact h.elim
theorem zs_goto {off : Int} {tgt : Nat} (hd : decode cc pc = .ok (.goto off, 3)) (ht : (pc : Int) + off = (tgt : Int)) (k : zSd X own nm cc nL ret tgt P) : zSd X own nm cc nL ret pc (P) := by
  intro C M ls st h
  obtain ⟨p, l, e, R, s, m, args, below, meth, c, D, Y, ad0, M0, K⟩ := X
  intro ad H locs lsA hW ho hl
  exact lv_goto C.1 C.2.1 hd ht (k C M ls _ h ad H locs lsA hW ho hl)
theorem zs_if_eq {off : Int} {tgt : Nat} (hd : decode cc pc = .ok (.ifCond .eq off, 3)) (ht : (pc : Int) + off = (tgt : Int)) (k : zSd X own nm cc nL ret tgt P) (k2 : zSd X own nm cc nL ret (pc + 3) P2) : zSd X own nm cc nL ret pc (zT_if1 (fun x => x = 0) P P2) := by
  intro C M ls st h
  obtain ⟨p, l, e, R, s, m, args, below, meth, c, D, Y, ad0, M0, K⟩ := X
  unfold zT_if1 at h
  split at h
  · intro ad H locs lsA hW ho hl
    exact lv_if_eq C.1 C.2.1 hd ht (fun q => k C M ls _ (h.1 q) ad H locs lsA hW ho.top.2 hl) (fun q => k2 C M ls _ (h.2 q) ad H locs lsA hW ho.top.2 hl)
  · exact h.elim
theorem zs_if_lt {off : Int} {tgt : Nat} (hd : decode cc pc = .ok (.ifCond .lt off, 3)) (ht : (pc : Int) + off = (tgt : Int)) (k : zSd X own nm cc nL ret tgt P) (k2 : zSd X own nm cc nL ret (pc + 3) P2) : zSd X own nm cc nL ret pc (zT_if1 (fun x => x < 0) P P2) := by
  intro C M ls st h
  obtain ⟨p, l, e, R, s, m, args, below, meth, c, D, Y, ad0, M0, K⟩ := X
  unfold zT_if1 at h
  split at h
  · intro ad H locs lsA hW ho hl
    exact lv_if_lt C.1 C.2.1 hd ht (fun q => k C M ls _ (h.1 q) ad H locs lsA hW ho.top.2 hl) (fun q => k2 C M ls _ (h.2 q) ad H locs lsA hW ho.top.2 hl)
  · exact h.elim
theorem zs_if_ge {off : Int} {tgt : Nat} (hd : decode cc pc = .ok (.ifCond .ge off, 3)) (ht : (pc : Int) + off = (tgt : Int)) (k : zSd X own nm cc nL ret tgt P) (k2 : zSd X own nm cc nL ret (pc + 3) P2) : zSd X own nm cc nL ret pc (zT_if1 (fun x => 0 ≤ x) P P2) := by
  intro C M ls st h
  obtain ⟨p, l, e, R, s, m, args, below, meth, c, D, Y, ad0, M0, K⟩ := X
  unfold zT_if1 at h
  split at h
  · intro ad H locs lsA hW ho hl
    exact lv_if_ge C.1 C.2.1 hd ht (fun q => k C M ls _ (h.1 q) ad H locs lsA hW ho.top.2 hl) (fun q => k2 C M ls _ (h.2 q) ad H locs lsA hW ho.top.2 hl)
  · exact h.elim
theorem zs_if_gt {off : Int} {tgt : Nat} (hd : decode cc pc = .ok (.ifCond .gt off, 3)) (ht : (pc : Int) + off = (tgt : Int)) (k : zSd X own nm cc nL ret tgt P) (k2 : zSd X own nm cc nL ret (pc + 3) P2) : zSd X own nm cc nL ret pc (zT_if1 (fun x => 0 < x) P P2) := by
  intro C M ls st h
  obtain ⟨p, l, e, R, s, m, args, below, meth, c, D, Y, ad0, M0, K⟩ := X
  unfold zT_if1 at h
  split at h
  · intro ad H locs lsA hW ho hl
    exact lv_if_gt C.1 C.2.1 hd ht (fun q => k C M ls _ (h.1 q) ad H locs lsA hW ho.top.2 hl) (fun q => k2 C M ls _ (h.2 q) ad H locs lsA hW ho.top.2 hl)
  · exact h.elim
theorem zs_if_le {off : Int} {tgt : Nat} (hd : decode cc pc = .ok (.ifCond .le off, 3)) (ht : (pc : Int) + off = (tgt : Int)) (k : zSd X own nm cc nL ret tgt P) (k2 : zSd X own nm cc nL ret (pc + 3) P2) : zSd X own nm cc nL ret pc (zT_if1 (fun x => x ≤ 0) P P2) := by
  intro C M ls st h
  obtain ⟨p, l, e, R, s, m, args, below, meth, c, D, Y, ad0, M0, K⟩ := X
  unfold zT_if1 at h
  split at h
  · intro ad H locs lsA hW ho hl
    exact lv_if_le C.1 C.2.1 hd ht (fun q => k C M ls _ (h.1 q) ad H locs lsA hW ho.top.2 hl) (fun q => k2 C M ls _ (h.2 q) ad H locs lsA hW ho.top.2 hl)
  · exact h.elim
theorem zs_icmp_eq {off : Int} {tgt : Nat} (hd : decode cc pc = .ok (.if_icmp .eq off, 3)) (ht : (pc : Int) + off = (tgt : Int)) (k : zSd X own nm cc nL ret tgt P) (k2 : zSd X own nm cc nL ret (pc + 3) P2) : zSd X own nm cc nL ret pc (zT_if2 (fun x y => x = y) P P2) := by
  intro C M ls st h
  obtain ⟨p, l, e, R, s, m, args, below, meth, c, D, Y, ad0, M0, K⟩ := X
  unfold zT_if2 at h
  split at h
  · intro ad H locs lsA hW ho hl
    exact lv_icmp_eq C.1 C.2.1 hd ht (fun q => k C M ls _ (h.1 q) ad H locs lsA hW ho.top.2.top.2 hl) (fun q => k2 C M ls _ (h.2 q) ad H locs lsA hW ho.top.2.top.2 hl)
  · exact h.elim
theorem zs_icmp_lt {off : Int} {tgt : Nat} (hd : decode cc pc = .ok (.if_icmp .lt off, 3)) (ht : (pc : Int) + off = (tgt : Int)) (k : zSd X own nm cc nL ret tgt P) (k2 : zSd X own nm cc nL ret (pc + 3) P2) : zSd X own nm cc nL ret pc (zT_if2 (fun x y => x < y) P P2) := by
  intro C M ls st h
  obtain ⟨p, l, e, R, s, m, args, below, meth, c, D, Y, ad0, M0, K⟩ := X
  unfold zT_if2 at h
  split at h
  · intro ad H locs lsA hW ho hl
    exact lv_icmp_lt C.1 C.2.1 hd ht (fun q => k C M ls _ (h.1 q) ad H locs lsA hW ho.top.2.top.2 hl) (fun q => k2 C M ls _ (h.2 q) ad H locs lsA hW ho.top.2.top.2 hl)
  · exact h.elim
theorem zs_icmp_ge {off : Int} {tgt : Nat} (hd : decode cc pc = .ok (.if_icmp .ge off, 3)) (ht : (pc : Int) + off = (tgt : Int)) (k : zSd X own nm cc nL ret tgt P) (k2 : zSd X own nm cc nL ret (pc + 3) P2) : zSd X own nm cc nL ret pc (zT_if2 (fun x y => y ≤ x) P P2) := by
  intro C M ls st h
  obtain ⟨p, l, e, R, s, m, args, below, meth, c, D, Y, ad0, M0, K⟩ := X
  unfold zT_if2 at h
  split at h
  · intro ad H locs lsA hW ho hl
    exact lv_icmp_ge C.1 C.2.1 hd ht (fun q => k C M ls _ (h.1 q) ad H locs lsA hW ho.top.2.top.2 hl) (fun q => k2 C M ls _ (h.2 q) ad H locs lsA hW ho.top.2.top.2 hl)
  · exact h.elim
theorem zs_icmp_gt {off : Int} {tgt : Nat} (hd : decode cc pc = .ok (.if_icmp .gt off, 3)) (ht : (pc : Int) + off = (tgt : Int)) (k : zSd X own nm cc nL ret tgt P) (k2 : zSd X own nm cc nL ret (pc + 3) P2) : zSd X own nm cc nL ret pc (zT_if2 (fun x y => y < x) P P2) := by
  intro C M ls st h
  obtain ⟨p, l, e, R, s, m, args, below, meth, c, D, Y, ad0, M0, K⟩ := X
  unfold zT_if2 at h
  split at h
  · intro ad H locs lsA hW ho hl
    exact lv_icmp_gt C.1 C.2.1 hd ht (fun q => k C M ls _ (h.1 q) ad H locs lsA hW ho.top.2.top.2 hl) (fun q => k2 C M ls _ (h.2 q) ad H locs lsA hW ho.top.2.top.2 hl)
  · exact h.elim
theorem zs_icmp_le {off : Int} {tgt : Nat} (hd : decode cc pc = .ok (.if_icmp .le off, 3)) (ht : (pc : Int) + off = (tgt : Int)) (k : zSd X own nm cc nL ret tgt P) (k2 : zSd X own nm cc nL ret (pc + 3) P2) : zSd X own nm cc nL ret pc (zT_if2 (fun x y => x ≤ y) P P2) := by
  intro C M ls st h
  obtain ⟨p, l, e, R, s, m, args, below, meth, c, D, Y, ad0, M0, K⟩ := X
  unfold zT_if2 at h
  split at h
  · intro ad H locs lsA hW ho hl
    exact lv_icmp_le C.1 C.2.1 hd ht (fun q => k C M ls _ (h.1 q) ad H locs lsA hW ho.top.2.top.2 hl) (fun q => k2 C M ls _ (h.2 q) ad H locs lsA hW ho.top.2.top.2 hl)
  · exact h.elim
theorem zs_if_ne {off : Int} {tgt : Nat} (hd : decode cc pc = .ok (.ifCond .ne off, 3)) (ht : (pc : Int) + off = (tgt : Int)) (k : zSd X own nm cc nL ret tgt P) (k2 : zSd X own nm cc nL ret (pc + 3) P2) : zSd X own nm cc nL ret pc (zT_if1 (fun x => x = 0) P2 P) := by
  intro C M ls st h
  obtain ⟨p, l, e, R, s, m, args, below, meth, c, D, Y, ad0, M0, K⟩ := X
  unfold zT_if1 at h
  split at h
  · intro ad H locs lsA hW ho hl
    exact lv_if_ne C.1 C.2.1 hd ht (fun q => k C M ls _ (h.2 q) ad H locs lsA hW ho.top.2 hl) (fun q => k2 C M ls _ (h.1 q) ad H locs lsA hW ho.top.2 hl)
  · exact h.elim
theorem zs_icmp_ne {off : Int} {tgt : Nat} (hd : decode cc pc = .ok (.if_icmp .ne off, 3)) (ht : (pc : Int) + off = (tgt : Int)) (k : zSd X own nm cc nL ret tgt P) (k2 : zSd X own nm cc nL ret (pc + 3) P2) : zSd X own nm cc nL ret pc (zT_if2 (fun x y => x = y) P2 P) := by
  intro C M ls st h
  obtain ⟨p, l, e, R, s, m, args, below, meth, c, D, Y, ad0, M0, K⟩ := X
  unfold zT_if2 at h
  split at h
  · intro ad H locs lsA hW ho hl
    exact lv_icmp_ne C.1 C.2.1 hd ht (fun q => k C M ls _ (h.2 q) ad H locs lsA hW ho.top.2.top.2 hl) (fun q => k2 C M ls _ (h.1 q) ad H locs lsA hW ho.top.2.top.2 hl)
  · exact h.elim
theorem zs_ifnull {off : Int} {tgt : Nat} (hd : decode cc pc = .ok (.ifnull off, 3)) (ht : (pc : Int) + off = (tgt : Int)) (k : zSd X own nm cc nL ret tgt P) (k2 : zSd X own nm cc nL ret (pc + 3) P2) : zSd X own nm cc nL ret pc (zT_ifn P P2) := by
  intro C M ls st h
  obtain ⟨p, l, e, R, s, m, args, below, meth, c, D, Y, ad0, M0, K⟩ := X
  unfold zT_ifn at h
  split at h
  · intro ad H locs lsA hW ho hl
    exact lv_ifnullN C.1 C.2.1 hd ht (k C M ls _ h ad H locs lsA hW ho.top.2 hl)
  · intro ad H locs lsA hW ho hl
    exact lv_ifnull C.1 C.2.1 hd (k2 C M ls _ h ad H locs lsA hW ho.top.2 hl)
  · exact h.elim
theorem zs_ifnonnull {off : Int} {tgt : Nat} (hd : decode cc pc = .ok (.ifnonnull off, 3)) (ht : (pc : Int) + off = (tgt : Int)) (k : zSd X own nm cc nL ret tgt P) (k2 : zSd X own nm cc nL ret (pc + 3) P2) : zSd X own nm cc nL ret pc (zT_ifn P2 P) := by
  intro C M ls st h
  obtain ⟨p, l, e, R, s, m, args, below, meth, c, D, Y, ad0, M0, K⟩ := X
  unfold zT_ifn at h
  split at h
  · intro ad H locs lsA hW ho hl
    exact lv_ifnonnullN C.1 C.2.1 hd (k2 C M ls _ h ad H locs lsA hW ho.top.2 hl)
  · intro ad H locs lsA hW ho hl
    exact lv_ifnonnull C.1 C.2.1 hd ht (k C M ls _ h ad H locs lsA hW ho.top.2 hl)
  · exact h.elim
/-- a table: the list of the targets of lo, lo + 1 .., and the default's -/
def zT_tab (lo : Int) (Ps : List zPP) (P : zPP) : zPP := fun M ls st => match st with
  | .int x :: r => (∀ (j : Nat) (Q : zPP), Ps[j]? = some Q → x.toInt = lo + j → Q M ls r) ∧ ((x.toInt < lo ∨ lo + (Ps.length : Int) ≤ x.toInt) → P M ls r)
  | _ => False
theorem zs_tab {dflt lo hi : Int} {offs : Array Int} {len tgt : Nat} {Ps : List zPP} {tgts : List Nat} (hd : decode cc pc = .ok (.tableswitch dflt lo hi offs, len)) (ht : (pc : Int) + dflt = (tgt : Int)) (hhi : hi + 1 = lo + (Ps.length : Int)) (hlen : tgts.length = Ps.length) (hoff : offs.toList.map (fun x => (pc : Int) + x) = tgts.map (fun t : Nat => (t : Int)))
    (ks : ∀ (j : Nat) (Q : zPP) (t : Nat), Ps[j]? = some Q → tgts[j]? = some t → zSd X own nm cc nL ret t Q) (k : zSd X own nm cc nL ret tgt P) : zSd X own nm cc nL ret pc (zT_tab lo Ps P) := by
  intro C M ls st h
  unfold zT_tab at h
  split at h
  · next x r =>
    by_cases hx : x.toInt < lo ∨ lo + (Ps.length : Int) ≤ x.toInt
    · have hk := k C M ls r (h.2 hx)
      obtain ⟨p, l, e, R, s, m, args, below, meth, c, D, Y, ad0, M0, K⟩ := X
      intro ad H locs lsA hW ho hl
      exact lv_tableOut C.1 C.2.1 hd (by omega) ht (hk ad H locs lsA hW ho.top.2 hl)
    · have hj : (x.toInt - lo).toNat < Ps.length := by omega
      obtain ⟨Q, hQ⟩ : ∃ Q, Ps[(x.toInt - lo).toNat]? = some Q := ⟨_, List.getElem?_eq_getElem hj⟩
      obtain ⟨t, htt⟩ : ∃ t, tgts[(x.toInt - lo).toNat]? = some t := ⟨_, List.getElem?_eq_getElem (by rw [hlen]; exact hj)⟩
      have hoj : (offs.toList.map (fun x => (pc : Int) + x))[(x.toInt - lo).toNat]? = some (t : Int) := by rw [hoff, List.getElem?_map, htt]; rfl
      rw [List.getElem?_map, Array.getElem?_toList] at hoj
      obtain ⟨off, ho1, ho2⟩ := Option.map_eq_some_iff.mp hoj
      have hk := ks _ Q t hQ htt C M ls r (h.1 _ Q hQ (by omega))
      obtain ⟨p, l, e, R, s, m, args, below, meth, c, D, Y, ad0, M0, K⟩ := X
      intro ad H locs lsA hW ho hl
      exact lv_tableIn C.1 C.2.1 hd (by omega) (by omega) ho1 ho2 (hk ad H locs lsA hW ho.top.2 hl)
  · exact h.elim
end ZR
