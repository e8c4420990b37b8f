/-! the layout of the abstract memory: every cell has a number that says what it is -/
/-- (tag, a, b): 0 int[a], 1 boolean[a], 2 byte[a], 3 long[a], 4 Years[a], 5 an object of the a-th class of vwCl with b fields -/
def zsh (k : Nat) : Nat × Nat × Nat := match k with
  | 0 => (5, 7, 9)
  | 1 => (5, 1, 6)
  | 2 => (0, 120, 0)
  | 3 => (5, 4, 2)
  | 4 => (2, 300, 0)
  | 5 => (5, 0, 5)
  | 6 => (0, 200, 0)
  | 7 => (0, 200, 0)
  | 8 => (0, 200, 0)
  | 9 => (0, 200, 0)
  | 10 => (5, 5, 11)
  | 11 => (0, 120, 0)
  | 12 => (1, 120, 0)
  | 13 => (0, 120, 0)
  | 14 => (1, 120, 0)
  | 15 => (0, 120, 0)
  | 16 => (0, 4, 0)
  | 17 => (0, 4, 0)
  | 18 => (0, 4, 0)
  | 19 => (0, 4, 0)
  | 20 => (4, 36, 0)
  | 21 => (5, 2, 6)
  | 22 => (0, 20, 0)
  | 23 => (0, 20, 0)
  | 24 => (0, 20, 0)
  | 25 => (0, 20, 0)
  | 26 => (0, 20, 0)
  | 27 => (5, 2, 6)
  | 28 => (0, 20, 0)
  | 29 => (0, 20, 0)
  | 30 => (0, 20, 0)
  | 31 => (0, 20, 0)
  | 32 => (0, 20, 0)
  | 200 => (5, 8, 38)
  | 201 => (0, 120, 0)
  | 202 => (0, 20, 0)
  | 203 => (0, 20, 0)
  | 204 => (0, 20, 0)
  | 205 => (0, 20, 0)
  | 206 => (0, 20, 0)
  | 207 => (0, 100, 0)
  | 208 => (0, 300, 0)
  | 209 => (0, 120, 0)
  | 210 => (1, 120, 0)
  | 211 => (0, 120, 0)
  | 212 => (1, 120, 0)
  | 213 => (0, 120, 0)
  | 214 => (0, 4, 0)
  | 215 => (0, 4, 0)
  | 216 => (0, 200, 0)
  | 217 => (0, 200, 0)
  | 218 => (0, 200, 0)
  | 219 => (0, 200, 0)
  | 220 => (0, 36, 0)
  | 221 => (0, 36, 0)
  | k => if 100 ≤ k ∧ k < 172 then (if k % 2 = 0 then (5, 6, 2) else (3, 465, 0)) else if 500 ≤ k ∧ k < 2000 then (5, 3, 5) else (9, 0, 0)
theorem zsh_0 : zsh 0 = (5, 7, 9) := rfl
theorem zsh_1 : zsh 1 = (5, 1, 6) := rfl
theorem zsh_2 : zsh 2 = (0, 120, 0) := rfl
theorem zsh_3 : zsh 3 = (5, 4, 2) := rfl
theorem zsh_4 : zsh 4 = (2, 300, 0) := rfl
theorem zsh_5 : zsh 5 = (5, 0, 5) := rfl
theorem zsh_6 : zsh 6 = (0, 200, 0) := rfl
theorem zsh_7 : zsh 7 = (0, 200, 0) := rfl
theorem zsh_8 : zsh 8 = (0, 200, 0) := rfl
theorem zsh_9 : zsh 9 = (0, 200, 0) := rfl
theorem zsh_10 : zsh 10 = (5, 5, 11) := rfl
theorem zsh_11 : zsh 11 = (0, 120, 0) := rfl
theorem zsh_12 : zsh 12 = (1, 120, 0) := rfl
theorem zsh_13 : zsh 13 = (0, 120, 0) := rfl
theorem zsh_14 : zsh 14 = (1, 120, 0) := rfl
theorem zsh_15 : zsh 15 = (0, 120, 0) := rfl
theorem zsh_16 : zsh 16 = (0, 4, 0) := rfl
theorem zsh_17 : zsh 17 = (0, 4, 0) := rfl
theorem zsh_18 : zsh 18 = (0, 4, 0) := rfl
theorem zsh_19 : zsh 19 = (0, 4, 0) := rfl
theorem zsh_20 : zsh 20 = (4, 36, 0) := rfl
theorem zsh_21 : zsh 21 = (5, 2, 6) := rfl
theorem zsh_22 : zsh 22 = (0, 20, 0) := rfl
theorem zsh_23 : zsh 23 = (0, 20, 0) := rfl
theorem zsh_24 : zsh 24 = (0, 20, 0) := rfl
theorem zsh_25 : zsh 25 = (0, 20, 0) := rfl
theorem zsh_26 : zsh 26 = (0, 20, 0) := rfl
theorem zsh_27 : zsh 27 = (5, 2, 6) := rfl
theorem zsh_28 : zsh 28 = (0, 20, 0) := rfl
theorem zsh_29 : zsh 29 = (0, 20, 0) := rfl
theorem zsh_30 : zsh 30 = (0, 20, 0) := rfl
theorem zsh_31 : zsh 31 = (0, 20, 0) := rfl
theorem zsh_32 : zsh 32 = (0, 20, 0) := rfl
theorem zsh_200 : zsh 200 = (5, 8, 38) := rfl
theorem zsh_201 : zsh 201 = (0, 120, 0) := rfl
theorem zsh_202 : zsh 202 = (0, 20, 0) := rfl
theorem zsh_203 : zsh 203 = (0, 20, 0) := rfl
theorem zsh_204 : zsh 204 = (0, 20, 0) := rfl
theorem zsh_205 : zsh 205 = (0, 20, 0) := rfl
theorem zsh_206 : zsh 206 = (0, 20, 0) := rfl
theorem zsh_207 : zsh 207 = (0, 100, 0) := rfl
theorem zsh_208 : zsh 208 = (0, 300, 0) := rfl
theorem zsh_209 : zsh 209 = (0, 120, 0) := rfl
theorem zsh_210 : zsh 210 = (1, 120, 0) := rfl
theorem zsh_211 : zsh 211 = (0, 120, 0) := rfl
theorem zsh_212 : zsh 212 = (1, 120, 0) := rfl
theorem zsh_213 : zsh 213 = (0, 120, 0) := rfl
theorem zsh_214 : zsh 214 = (0, 4, 0) := rfl
theorem zsh_215 : zsh 215 = (0, 4, 0) := rfl
theorem zsh_216 : zsh 216 = (0, 200, 0) := rfl
theorem zsh_217 : zsh 217 = (0, 200, 0) := rfl
theorem zsh_218 : zsh 218 = (0, 200, 0) := rfl
theorem zsh_219 : zsh 219 = (0, 200, 0) := rfl
theorem zsh_220 : zsh 220 = (0, 36, 0) := rfl
theorem zsh_221 : zsh 221 = (0, 36, 0) := rfl
set_option maxRecDepth 4000 in
theorem zsh_ext {k : Nat} (h : 2000 ≤ k) : zsh k = (9, 0, 0) := by
  unfold zsh
  split <;> first | omega | (rw [if_neg (by omega), if_neg (by omega)])
theorem zsh_lt {k a b c : Nat} (h : zsh k = (a, b, c)) (ha : a < 9) : k < 2000 := by
  rcases Nat.lt_or_ge k 2000 with q | q
  · exact q
  · rw [zsh_ext q] at h
    cases h
    omega
theorem zsh_lt1 {k : Nat} (h : (zsh k).1 < 9) : k < 2000 := zsh_lt (a := (zsh k).1) (b := (zsh k).2.1) (c := (zsh k).2.2) rfl h
/-- a field's sort: 0 int or boolean, 1 long, 2 a reference -/
def zft (c j : Nat) : Nat := match c, j with
  | 0, 0 => 2
  | 0, 1 => 2
  | 0, 2 => 2
  | 0, 3 => 2
  | 1, 0 => 2
  | 2, 0 => 2
  | 2, 1 => 2
  | 2, 2 => 2
  | 2, 3 => 2
  | 2, 4 => 2
  | 3, 0 => 2
  | 3, 1 => 2
  | 4, 0 => 2
  | 5, 0 => 2
  | 5, 1 => 2
  | 5, 2 => 2
  | 5, 3 => 2
  | 5, 4 => 2
  | 5, 6 => 2
  | 5, 7 => 2
  | 5, 8 => 2
  | 5, 9 => 2
  | 6, 0 => 2
  | 7, 0 => 2
  | 7, 1 => 2
  | 7, 2 => 2
  | 7, 3 => 2
  | 7, 4 => 2
  | 7, 5 => 2
  | 7, 6 => 2
  | 8, 7 => 2
  | 8, 9 => 2
  | 8, 10 => 2
  | 8, 11 => 2
  | 8, 12 => 2
  | 8, 13 => 2
  | 8, 15 => 2
  | 8, 16 => 2
  | 8, 21 => 1
  | 8, 24 => 2
  | 8, 25 => 2
  | 8, 26 => 2
  | 8, 27 => 2
  | 8, 28 => 2
  | 8, 29 => 2
  | 8, 30 => 2
  | 8, 32 => 2
  | 8, 33 => 2
  | 8, 34 => 2
  | 8, 35 => 2
  | 8, 36 => 2
  | 8, 37 => 2
  | _, _ => 0
