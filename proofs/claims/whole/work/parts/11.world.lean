/-! the worlds: a state is Nat → Nat → Int32 (key, place); keys of the shared state: 0 fault 1 trace 2 high 3 wide 4 year 5 smoke 6 line 7 coats 8 lights 9 count 10 sun 11 coat 12 had 13 air 14 hidden 15 kind 16 bands (3 a coat) 17 weights (3 a light) 18 has 19 sort 20 length 21 cells of sheets (40 a sheet) -/
abbrev ts_T : Type := Nat → Nat → Int32
def ts_a (s : ts_T) (k : Nat) (f : Nat → Int32) : ts_T := fun a => if a = k then f else s a
def ts_s (s : ts_T) (k : Nat) (v : Int32) : ts_T := ts_a s k (fun _ => v)
theorem ts_aa (s : ts_T) (k : Nat) (f g : Nat → Int32) : ts_a (ts_a s k f) k g = ts_a s k g := by
  funext a
  unfold ts_a
  split <;> rfl
theorem ts_mg {s : ts_T} {k : Nat} {f g : Nat → Int32} : ts_a (ts_a s k f) k g = ts_a s k g := ts_aa s k f g
theorem ts_ss (s : ts_T) (k : Nat) (v w : Int32) : ts_s (ts_s s k v) k w = ts_s s k w := ts_aa s k _ _
theorem va_up_s {E : Nat → va_E} {k : Nat} {e : va_E} : va_up E k e k = e := by simp [va_up]
theorem va_up_n {E : Nat → va_E} {k j : Nat} {e : va_E} (h : j ≠ k) : va_up E k e j = E j := by simp [va_up, h]
def eM_f (c : tv_c) (s r : ts_T) : List Value := [.int (s 0 0), .int (s 1 0), .ref (tv_ad c 1), .ref (tv_ad c 2), .ref (tv_ad c 3), .int (s 2 0), .int (s 3 0), .int (s 4 0), .int (s 5 0), .int (s 6 0), .ref (tv_ad c 4), .ref (tv_ad c 5), .ref (tv_ad c 6), .ref (tv_ad c 7), .ref (tv_ad c 8), .int (r 0 0), .int (r 1 0), .int (r 2 0), .ref (tv_ad c 9), .int (s 7 0), .ref (tv_ad c 10), .ref (tv_ad c 11), .int (s 8 0), .ref (tv_ad c 12), .ref (tv_ad c 13), .int (r 5 0), .ref (tv_ad c 14), .int (r 7 0), .ref (tv_ad c 15), .ref (tv_ad c 16), .ref (tv_ad c 17), .ref (tv_ad c 18), .int (r 12 0), .int (r 13 0), .int (r 14 0)]
def eM_so (s : ts_T) : Nat → Int32 := fun k => if s 18 k = 0 then -9 else s 19 k
def eM (c : tv_c) (s r : ts_T) : Nat → va_E := fun k => match k with
  | 0 => .inr (8, eM_f c s r)
  | 1 => .inl (tv_kk c 0, 4, .inl (eM_so s))
  | 2 => .inl (tv_kk c 0, 4, .inl (s 20))
  | 3 => .inl (tv_kk c 0, 160, .inl (s 21))
  | 4 => .inl (tv_kk c 0, 24, .inl (s 10))
  | 5 => .inl (tv_kk c 0, 24, .inl (s 11))
  | 6 => .inl (tv_kk c 0, 24, .inl (s 12))
  | 7 => .inl (tv_kk c 0, 24, .inl (s 13))
  | 8 => .inl (tv_kk c 1, 24, .inl (s 14))
  | 9 => .inl (tv_kk c 0, 24, .inl (r 3))
  | 10 => .inl (tv_kk c 0, 6, .inl (s 15))
  | 11 => .inl (tv_kk c 0, 18, .inl (s 16))
  | 12 => .inl (tv_kk c 0, 12, .inl (s 17))
  | 13 => .inl (tv_kk c 0, 4, .inl (r 4))
  | 14 => .inl (tv_kk c 0, 3, .inl (r 6))
  | 15 => .inl (tv_kk c 0, 4, .inl (r 8))
  | 16 => .inl (tv_kk c 0, 24, .inl (r 9))
  | 17 => .inl (tv_kk c 0, 24, .inl (r 10))
  | 18 => .inl (tv_kk c 0, 24, .inl (r 11))
  | _ => .inr (0, [])
theorem eM_u_fault (c : tv_c) (s r : ts_T) (v : Int32) : va_up (eM c s r) 0 (.inr (8, (eM_f c s r).set 0 (.int v))) = eM c (ts_s s 0 v) r := funext fun k => match k with
  | 0 => rfl
  | 1 => rfl
  | 2 => rfl
  | 3 => rfl
  | 4 => rfl
  | 5 => rfl
  | 6 => rfl
  | 7 => rfl
  | 8 => rfl
  | 9 => rfl
  | 10 => rfl
  | 11 => rfl
  | 12 => rfl
  | 13 => rfl
  | 14 => rfl
  | 15 => rfl
  | 16 => rfl
  | 17 => rfl
  | 18 => rfl
  | _ + 19 => rfl
theorem eM_u_trace (c : tv_c) (s r : ts_T) (v : Int32) : va_up (eM c s r) 0 (.inr (8, (eM_f c s r).set 1 (.int v))) = eM c (ts_s s 1 v) r := funext fun k => match k with
  | 0 => rfl
  | 1 => rfl
  | 2 => rfl
  | 3 => rfl
  | 4 => rfl
  | 5 => rfl
  | 6 => rfl
  | 7 => rfl
  | 8 => rfl
  | 9 => rfl
  | 10 => rfl
  | 11 => rfl
  | 12 => rfl
  | 13 => rfl
  | 14 => rfl
  | 15 => rfl
  | 16 => rfl
  | 17 => rfl
  | 18 => rfl
  | _ + 19 => rfl
theorem eM_u_high (c : tv_c) (s r : ts_T) (v : Int32) : va_up (eM c s r) 0 (.inr (8, (eM_f c s r).set 5 (.int v))) = eM c (ts_s s 2 v) r := funext fun k => match k with
  | 0 => rfl
  | 1 => rfl
  | 2 => rfl
  | 3 => rfl
  | 4 => rfl
  | 5 => rfl
  | 6 => rfl
  | 7 => rfl
  | 8 => rfl
  | 9 => rfl
  | 10 => rfl
  | 11 => rfl
  | 12 => rfl
  | 13 => rfl
  | 14 => rfl
  | 15 => rfl
  | 16 => rfl
  | 17 => rfl
  | 18 => rfl
  | _ + 19 => rfl
theorem eM_u_wide (c : tv_c) (s r : ts_T) (v : Int32) : va_up (eM c s r) 0 (.inr (8, (eM_f c s r).set 6 (.int v))) = eM c (ts_s s 3 v) r := funext fun k => match k with
  | 0 => rfl
  | 1 => rfl
  | 2 => rfl
  | 3 => rfl
  | 4 => rfl
  | 5 => rfl
  | 6 => rfl
  | 7 => rfl
  | 8 => rfl
  | 9 => rfl
  | 10 => rfl
  | 11 => rfl
  | 12 => rfl
  | 13 => rfl
  | 14 => rfl
  | 15 => rfl
  | 16 => rfl
  | 17 => rfl
  | 18 => rfl
  | _ + 19 => rfl
theorem eM_u_year (c : tv_c) (s r : ts_T) (v : Int32) : va_up (eM c s r) 0 (.inr (8, (eM_f c s r).set 7 (.int v))) = eM c (ts_s s 4 v) r := funext fun k => match k with
  | 0 => rfl
  | 1 => rfl
  | 2 => rfl
  | 3 => rfl
  | 4 => rfl
  | 5 => rfl
  | 6 => rfl
  | 7 => rfl
  | 8 => rfl
  | 9 => rfl
  | 10 => rfl
  | 11 => rfl
  | 12 => rfl
  | 13 => rfl
  | 14 => rfl
  | 15 => rfl
  | 16 => rfl
  | 17 => rfl
  | 18 => rfl
  | _ + 19 => rfl
theorem eM_u_smoke (c : tv_c) (s r : ts_T) (v : Int32) : va_up (eM c s r) 0 (.inr (8, (eM_f c s r).set 8 (.int v))) = eM c (ts_s s 5 v) r := funext fun k => match k with
  | 0 => rfl
  | 1 => rfl
  | 2 => rfl
  | 3 => rfl
  | 4 => rfl
  | 5 => rfl
  | 6 => rfl
  | 7 => rfl
  | 8 => rfl
  | 9 => rfl
  | 10 => rfl
  | 11 => rfl
  | 12 => rfl
  | 13 => rfl
  | 14 => rfl
  | 15 => rfl
  | 16 => rfl
  | 17 => rfl
  | 18 => rfl
  | _ + 19 => rfl
theorem eM_u_line (c : tv_c) (s r : ts_T) (v : Int32) : va_up (eM c s r) 0 (.inr (8, (eM_f c s r).set 9 (.int v))) = eM c (ts_s s 6 v) r := funext fun k => match k with
  | 0 => rfl
  | 1 => rfl
  | 2 => rfl
  | 3 => rfl
  | 4 => rfl
  | 5 => rfl
  | 6 => rfl
  | 7 => rfl
  | 8 => rfl
  | 9 => rfl
  | 10 => rfl
  | 11 => rfl
  | 12 => rfl
  | 13 => rfl
  | 14 => rfl
  | 15 => rfl
  | 16 => rfl
  | 17 => rfl
  | 18 => rfl
  | _ + 19 => rfl
theorem eM_u_at (c : tv_c) (s r : ts_T) (v : Int32) : va_up (eM c s r) 0 (.inr (8, (eM_f c s r).set 15 (.int v))) = eM c s (ts_s r 0 v) := funext fun k => match k with
  | 0 => rfl
  | 1 => rfl
  | 2 => rfl
  | 3 => rfl
  | 4 => rfl
  | 5 => rfl
  | 6 => rfl
  | 7 => rfl
  | 8 => rfl
  | 9 => rfl
  | 10 => rfl
  | 11 => rfl
  | 12 => rfl
  | 13 => rfl
  | 14 => rfl
  | 15 => rfl
  | 16 => rfl
  | 17 => rfl
  | 18 => rfl
  | _ + 19 => rfl
theorem eM_u_readHigh (c : tv_c) (s r : ts_T) (v : Int32) : va_up (eM c s r) 0 (.inr (8, (eM_f c s r).set 16 (.int v))) = eM c s (ts_s r 1 v) := funext fun k => match k with
  | 0 => rfl
  | 1 => rfl
  | 2 => rfl
  | 3 => rfl
  | 4 => rfl
  | 5 => rfl
  | 6 => rfl
  | 7 => rfl
  | 8 => rfl
  | 9 => rfl
  | 10 => rfl
  | 11 => rfl
  | 12 => rfl
  | 13 => rfl
  | 14 => rfl
  | 15 => rfl
  | 16 => rfl
  | 17 => rfl
  | 18 => rfl
  | _ + 19 => rfl
theorem eM_u_readWide (c : tv_c) (s r : ts_T) (v : Int32) : va_up (eM c s r) 0 (.inr (8, (eM_f c s r).set 17 (.int v))) = eM c s (ts_s r 2 v) := funext fun k => match k with
  | 0 => rfl
  | 1 => rfl
  | 2 => rfl
  | 3 => rfl
  | 4 => rfl
  | 5 => rfl
  | 6 => rfl
  | 7 => rfl
  | 8 => rfl
  | 9 => rfl
  | 10 => rfl
  | 11 => rfl
  | 12 => rfl
  | 13 => rfl
  | 14 => rfl
  | 15 => rfl
  | 16 => rfl
  | 17 => rfl
  | 18 => rfl
  | _ + 19 => rfl
theorem eM_u_coats (c : tv_c) (s r : ts_T) (v : Int32) : va_up (eM c s r) 0 (.inr (8, (eM_f c s r).set 19 (.int v))) = eM c (ts_s s 7 v) r := funext fun k => match k with
  | 0 => rfl
  | 1 => rfl
  | 2 => rfl
  | 3 => rfl
  | 4 => rfl
  | 5 => rfl
  | 6 => rfl
  | 7 => rfl
  | 8 => rfl
  | 9 => rfl
  | 10 => rfl
  | 11 => rfl
  | 12 => rfl
  | 13 => rfl
  | 14 => rfl
  | 15 => rfl
  | 16 => rfl
  | 17 => rfl
  | 18 => rfl
  | _ + 19 => rfl
theorem eM_u_lights (c : tv_c) (s r : ts_T) (v : Int32) : va_up (eM c s r) 0 (.inr (8, (eM_f c s r).set 22 (.int v))) = eM c (ts_s s 8 v) r := funext fun k => match k with
  | 0 => rfl
  | 1 => rfl
  | 2 => rfl
  | 3 => rfl
  | 4 => rfl
  | 5 => rfl
  | 6 => rfl
  | 7 => rfl
  | 8 => rfl
  | 9 => rfl
  | 10 => rfl
  | 11 => rfl
  | 12 => rfl
  | 13 => rfl
  | 14 => rfl
  | 15 => rfl
  | 16 => rfl
  | 17 => rfl
  | 18 => rfl
  | _ + 19 => rfl
theorem eM_u_mixKind (c : tv_c) (s r : ts_T) (v : Int32) : va_up (eM c s r) 0 (.inr (8, (eM_f c s r).set 25 (.int v))) = eM c s (ts_s r 5 v) := funext fun k => match k with
  | 0 => rfl
  | 1 => rfl
  | 2 => rfl
  | 3 => rfl
  | 4 => rfl
  | 5 => rfl
  | 6 => rfl
  | 7 => rfl
  | 8 => rfl
  | 9 => rfl
  | 10 => rfl
  | 11 => rfl
  | 12 => rfl
  | 13 => rfl
  | 14 => rfl
  | 15 => rfl
  | 16 => rfl
  | 17 => rfl
  | 18 => rfl
  | _ + 19 => rfl
theorem eM_u_bestUnlike (c : tv_c) (s r : ts_T) (v : Int32) : va_up (eM c s r) 0 (.inr (8, (eM_f c s r).set 27 (.int v))) = eM c s (ts_s r 7 v) := funext fun k => match k with
  | 0 => rfl
  | 1 => rfl
  | 2 => rfl
  | 3 => rfl
  | 4 => rfl
  | 5 => rfl
  | 6 => rfl
  | 7 => rfl
  | 8 => rfl
  | 9 => rfl
  | 10 => rfl
  | 11 => rfl
  | 12 => rfl
  | 13 => rfl
  | 14 => rfl
  | 15 => rfl
  | 16 => rfl
  | 17 => rfl
  | 18 => rfl
  | _ + 19 => rfl
theorem eM_u_patchMany (c : tv_c) (s r : ts_T) (v : Int32) : va_up (eM c s r) 0 (.inr (8, (eM_f c s r).set 32 (.int v))) = eM c s (ts_s r 12 v) := funext fun k => match k with
  | 0 => rfl
  | 1 => rfl
  | 2 => rfl
  | 3 => rfl
  | 4 => rfl
  | 5 => rfl
  | 6 => rfl
  | 7 => rfl
  | 8 => rfl
  | 9 => rfl
  | 10 => rfl
  | 11 => rfl
  | 12 => rfl
  | 13 => rfl
  | 14 => rfl
  | 15 => rfl
  | 16 => rfl
  | 17 => rfl
  | 18 => rfl
  | _ + 19 => rfl
theorem eM_u_patchFirst (c : tv_c) (s r : ts_T) (v : Int32) : va_up (eM c s r) 0 (.inr (8, (eM_f c s r).set 33 (.int v))) = eM c s (ts_s r 13 v) := funext fun k => match k with
  | 0 => rfl
  | 1 => rfl
  | 2 => rfl
  | 3 => rfl
  | 4 => rfl
  | 5 => rfl
  | 6 => rfl
  | 7 => rfl
  | 8 => rfl
  | 9 => rfl
  | 10 => rfl
  | 11 => rfl
  | 12 => rfl
  | 13 => rfl
  | 14 => rfl
  | 15 => rfl
  | 16 => rfl
  | 17 => rfl
  | 18 => rfl
  | _ + 19 => rfl
theorem eM_u_patchLast (c : tv_c) (s r : ts_T) (v : Int32) : va_up (eM c s r) 0 (.inr (8, (eM_f c s r).set 34 (.int v))) = eM c s (ts_s r 14 v) := funext fun k => match k with
  | 0 => rfl
  | 1 => rfl
  | 2 => rfl
  | 3 => rfl
  | 4 => rfl
  | 5 => rfl
  | 6 => rfl
  | 7 => rfl
  | 8 => rfl
  | 9 => rfl
  | 10 => rfl
  | 11 => rfl
  | 12 => rfl
  | 13 => rfl
  | 14 => rfl
  | 15 => rfl
  | 16 => rfl
  | 17 => rfl
  | 18 => rfl
  | _ + 19 => rfl
theorem eM_u_sheetLong (c : tv_c) (s r : ts_T) (f : Nat → Int32) : va_up (eM c s r) 2 (.inl (tv_kk c 0, 4, .inl f)) = eM c (ts_a s 20 f) r := funext fun k => match k with
  | 0 => rfl
  | 1 => rfl
  | 2 => rfl
  | 3 => rfl
  | 4 => rfl
  | 5 => rfl
  | 6 => rfl
  | 7 => rfl
  | 8 => rfl
  | 9 => rfl
  | 10 => rfl
  | 11 => rfl
  | 12 => rfl
  | 13 => rfl
  | 14 => rfl
  | 15 => rfl
  | 16 => rfl
  | 17 => rfl
  | 18 => rfl
  | _ + 19 => rfl
theorem eM_u_cells (c : tv_c) (s r : ts_T) (f : Nat → Int32) : va_up (eM c s r) 3 (.inl (tv_kk c 0, 160, .inl f)) = eM c (ts_a s 21 f) r := funext fun k => match k with
  | 0 => rfl
  | 1 => rfl
  | 2 => rfl
  | 3 => rfl
  | 4 => rfl
  | 5 => rfl
  | 6 => rfl
  | 7 => rfl
  | 8 => rfl
  | 9 => rfl
  | 10 => rfl
  | 11 => rfl
  | 12 => rfl
  | 13 => rfl
  | 14 => rfl
  | 15 => rfl
  | 16 => rfl
  | 17 => rfl
  | 18 => rfl
  | _ + 19 => rfl
theorem eM_u_sun (c : tv_c) (s r : ts_T) (f : Nat → Int32) : va_up (eM c s r) 4 (.inl (tv_kk c 0, 24, .inl f)) = eM c (ts_a s 10 f) r := funext fun k => match k with
  | 0 => rfl
  | 1 => rfl
  | 2 => rfl
  | 3 => rfl
  | 4 => rfl
  | 5 => rfl
  | 6 => rfl
  | 7 => rfl
  | 8 => rfl
  | 9 => rfl
  | 10 => rfl
  | 11 => rfl
  | 12 => rfl
  | 13 => rfl
  | 14 => rfl
  | 15 => rfl
  | 16 => rfl
  | 17 => rfl
  | 18 => rfl
  | _ + 19 => rfl
theorem eM_u_coatOf (c : tv_c) (s r : ts_T) (f : Nat → Int32) : va_up (eM c s r) 5 (.inl (tv_kk c 0, 24, .inl f)) = eM c (ts_a s 11 f) r := funext fun k => match k with
  | 0 => rfl
  | 1 => rfl
  | 2 => rfl
  | 3 => rfl
  | 4 => rfl
  | 5 => rfl
  | 6 => rfl
  | 7 => rfl
  | 8 => rfl
  | 9 => rfl
  | 10 => rfl
  | 11 => rfl
  | 12 => rfl
  | 13 => rfl
  | 14 => rfl
  | 15 => rfl
  | 16 => rfl
  | 17 => rfl
  | 18 => rfl
  | _ + 19 => rfl
theorem eM_u_had (c : tv_c) (s r : ts_T) (f : Nat → Int32) : va_up (eM c s r) 6 (.inl (tv_kk c 0, 24, .inl f)) = eM c (ts_a s 12 f) r := funext fun k => match k with
  | 0 => rfl
  | 1 => rfl
  | 2 => rfl
  | 3 => rfl
  | 4 => rfl
  | 5 => rfl
  | 6 => rfl
  | 7 => rfl
  | 8 => rfl
  | 9 => rfl
  | 10 => rfl
  | 11 => rfl
  | 12 => rfl
  | 13 => rfl
  | 14 => rfl
  | 15 => rfl
  | 16 => rfl
  | 17 => rfl
  | 18 => rfl
  | _ + 19 => rfl
theorem eM_u_air (c : tv_c) (s r : ts_T) (f : Nat → Int32) : va_up (eM c s r) 7 (.inl (tv_kk c 0, 24, .inl f)) = eM c (ts_a s 13 f) r := funext fun k => match k with
  | 0 => rfl
  | 1 => rfl
  | 2 => rfl
  | 3 => rfl
  | 4 => rfl
  | 5 => rfl
  | 6 => rfl
  | 7 => rfl
  | 8 => rfl
  | 9 => rfl
  | 10 => rfl
  | 11 => rfl
  | 12 => rfl
  | 13 => rfl
  | 14 => rfl
  | 15 => rfl
  | 16 => rfl
  | 17 => rfl
  | 18 => rfl
  | _ + 19 => rfl
theorem eM_u_isHung (c : tv_c) (s r : ts_T) (f : Nat → Int32) : va_up (eM c s r) 8 (.inl (tv_kk c 1, 24, .inl f)) = eM c (ts_a s 14 f) r := funext fun k => match k with
  | 0 => rfl
  | 1 => rfl
  | 2 => rfl
  | 3 => rfl
  | 4 => rfl
  | 5 => rfl
  | 6 => rfl
  | 7 => rfl
  | 8 => rfl
  | 9 => rfl
  | 10 => rfl
  | 11 => rfl
  | 12 => rfl
  | 13 => rfl
  | 14 => rfl
  | 15 => rfl
  | 16 => rfl
  | 17 => rfl
  | 18 => rfl
  | _ + 19 => rfl
theorem eM_u_readSun (c : tv_c) (s r : ts_T) (f : Nat → Int32) : va_up (eM c s r) 9 (.inl (tv_kk c 0, 24, .inl f)) = eM c s (ts_a r 3 f) := funext fun k => match k with
  | 0 => rfl
  | 1 => rfl
  | 2 => rfl
  | 3 => rfl
  | 4 => rfl
  | 5 => rfl
  | 6 => rfl
  | 7 => rfl
  | 8 => rfl
  | 9 => rfl
  | 10 => rfl
  | 11 => rfl
  | 12 => rfl
  | 13 => rfl
  | 14 => rfl
  | 15 => rfl
  | 16 => rfl
  | 17 => rfl
  | 18 => rfl
  | _ + 19 => rfl
theorem eM_u_kind (c : tv_c) (s r : ts_T) (f : Nat → Int32) : va_up (eM c s r) 10 (.inl (tv_kk c 0, 6, .inl f)) = eM c (ts_a s 15 f) r := funext fun k => match k with
  | 0 => rfl
  | 1 => rfl
  | 2 => rfl
  | 3 => rfl
  | 4 => rfl
  | 5 => rfl
  | 6 => rfl
  | 7 => rfl
  | 8 => rfl
  | 9 => rfl
  | 10 => rfl
  | 11 => rfl
  | 12 => rfl
  | 13 => rfl
  | 14 => rfl
  | 15 => rfl
  | 16 => rfl
  | 17 => rfl
  | 18 => rfl
  | _ + 19 => rfl
theorem eM_u_bands (c : tv_c) (s r : ts_T) (f : Nat → Int32) : va_up (eM c s r) 11 (.inl (tv_kk c 0, 18, .inl f)) = eM c (ts_a s 16 f) r := funext fun k => match k with
  | 0 => rfl
  | 1 => rfl
  | 2 => rfl
  | 3 => rfl
  | 4 => rfl
  | 5 => rfl
  | 6 => rfl
  | 7 => rfl
  | 8 => rfl
  | 9 => rfl
  | 10 => rfl
  | 11 => rfl
  | 12 => rfl
  | 13 => rfl
  | 14 => rfl
  | 15 => rfl
  | 16 => rfl
  | 17 => rfl
  | 18 => rfl
  | _ + 19 => rfl
theorem eM_u_weights (c : tv_c) (s r : ts_T) (f : Nat → Int32) : va_up (eM c s r) 12 (.inl (tv_kk c 0, 12, .inl f)) = eM c (ts_a s 17 f) r := funext fun k => match k with
  | 0 => rfl
  | 1 => rfl
  | 2 => rfl
  | 3 => rfl
  | 4 => rfl
  | 5 => rfl
  | 6 => rfl
  | 7 => rfl
  | 8 => rfl
  | 9 => rfl
  | 10 => rfl
  | 11 => rfl
  | 12 => rfl
  | 13 => rfl
  | 14 => rfl
  | 15 => rfl
  | 16 => rfl
  | 17 => rfl
  | 18 => rfl
  | _ + 19 => rfl
theorem eM_u_drops (c : tv_c) (s r : ts_T) (f : Nat → Int32) : va_up (eM c s r) 13 (.inl (tv_kk c 0, 4, .inl f)) = eM c s (ts_a r 4 f) := funext fun k => match k with
  | 0 => rfl
  | 1 => rfl
  | 2 => rfl
  | 3 => rfl
  | 4 => rfl
  | 5 => rfl
  | 6 => rfl
  | 7 => rfl
  | 8 => rfl
  | 9 => rfl
  | 10 => rfl
  | 11 => rfl
  | 12 => rfl
  | 13 => rfl
  | 14 => rfl
  | 15 => rfl
  | 16 => rfl
  | 17 => rfl
  | 18 => rfl
  | _ + 19 => rfl
theorem eM_u_mixBands (c : tv_c) (s r : ts_T) (f : Nat → Int32) : va_up (eM c s r) 14 (.inl (tv_kk c 0, 3, .inl f)) = eM c s (ts_a r 6 f) := funext fun k => match k with
  | 0 => rfl
  | 1 => rfl
  | 2 => rfl
  | 3 => rfl
  | 4 => rfl
  | 5 => rfl
  | 6 => rfl
  | 7 => rfl
  | 8 => rfl
  | 9 => rfl
  | 10 => rfl
  | 11 => rfl
  | 12 => rfl
  | 13 => rfl
  | 14 => rfl
  | 15 => rfl
  | 16 => rfl
  | 17 => rfl
  | 18 => rfl
  | _ + 19 => rfl
theorem eM_u_bestDrops (c : tv_c) (s r : ts_T) (f : Nat → Int32) : va_up (eM c s r) 15 (.inl (tv_kk c 0, 4, .inl f)) = eM c s (ts_a r 8 f) := funext fun k => match k with
  | 0 => rfl
  | 1 => rfl
  | 2 => rfl
  | 3 => rfl
  | 4 => rfl
  | 5 => rfl
  | 6 => rfl
  | 7 => rfl
  | 8 => rfl
  | 9 => rfl
  | 10 => rfl
  | 11 => rfl
  | 12 => rfl
  | 13 => rfl
  | 14 => rfl
  | 15 => rfl
  | 16 => rfl
  | 17 => rfl
  | 18 => rfl
  | _ + 19 => rfl
theorem eM_u_keptCoat (c : tv_c) (s r : ts_T) (f : Nat → Int32) : va_up (eM c s r) 16 (.inl (tv_kk c 0, 24, .inl f)) = eM c s (ts_a r 9 f) := funext fun k => match k with
  | 0 => rfl
  | 1 => rfl
  | 2 => rfl
  | 3 => rfl
  | 4 => rfl
  | 5 => rfl
  | 6 => rfl
  | 7 => rfl
  | 8 => rfl
  | 9 => rfl
  | 10 => rfl
  | 11 => rfl
  | 12 => rfl
  | 13 => rfl
  | 14 => rfl
  | 15 => rfl
  | 16 => rfl
  | 17 => rfl
  | 18 => rfl
  | _ + 19 => rfl
theorem eM_u_keptHad (c : tv_c) (s r : ts_T) (f : Nat → Int32) : va_up (eM c s r) 17 (.inl (tv_kk c 0, 24, .inl f)) = eM c s (ts_a r 10 f) := funext fun k => match k with
  | 0 => rfl
  | 1 => rfl
  | 2 => rfl
  | 3 => rfl
  | 4 => rfl
  | 5 => rfl
  | 6 => rfl
  | 7 => rfl
  | 8 => rfl
  | 9 => rfl
  | 10 => rfl
  | 11 => rfl
  | 12 => rfl
  | 13 => rfl
  | 14 => rfl
  | 15 => rfl
  | 16 => rfl
  | 17 => rfl
  | 18 => rfl
  | _ + 19 => rfl
theorem eM_u_keptAir (c : tv_c) (s r : ts_T) (f : Nat → Int32) : va_up (eM c s r) 18 (.inl (tv_kk c 0, 24, .inl f)) = eM c s (ts_a r 11 f) := funext fun k => match k with
  | 0 => rfl
  | 1 => rfl
  | 2 => rfl
  | 3 => rfl
  | 4 => rfl
  | 5 => rfl
  | 6 => rfl
  | 7 => rfl
  | 8 => rfl
  | 9 => rfl
  | 10 => rfl
  | 11 => rfl
  | 12 => rfl
  | 13 => rfl
  | 14 => rfl
  | 15 => rfl
  | 16 => rfl
  | 17 => rfl
  | 18 => rfl
  | _ + 19 => rfl
theorem eM_so_put (s : ts_T) (k : Nat) (v : Int32) : upd (eM_so s) k v = eM_so (ts_a (ts_a s 18 (upd (s 18) k 1)) 19 (upd (s 19) k v)) := by
  funext j
  by_cases h : j = k
  · subst h
    simp [eM_so, upd, ts_a]
  · simp [eM_so, upd, ts_a, h]
theorem eM_so_lose (s : ts_T) (k : Nat) : upd (eM_so s) k (-9) = eM_so (ts_a s 18 (upd (s 18) k 0)) := by
  funext j
  by_cases h : j = k
  · subst h
    simp [eM_so, upd, ts_a]
  · simp [eM_so, upd, ts_a, h]
theorem eM_u_sorts_put (c : tv_c) (s r : ts_T) (k : Nat) (v : Int32) : va_up (eM c s r) 1 (.inl (tv_kk c 0, 4, .inl (upd (eM_so s) k v))) = eM c (ts_a (ts_a s 18 (upd (s 18) k 1)) 19 (upd (s 19) k v)) r := by
  rw [eM_so_put]
  exact funext fun k => match k with
    | 0 => rfl
    | 1 => rfl
    | 2 => rfl
    | 3 => rfl
    | 4 => rfl
    | 5 => rfl
    | 6 => rfl
    | 7 => rfl
    | 8 => rfl
    | 9 => rfl
    | 10 => rfl
    | 11 => rfl
    | 12 => rfl
    | 13 => rfl
    | 14 => rfl
    | 15 => rfl
    | 16 => rfl
    | 17 => rfl
    | 18 => rfl
    | _ + 19 => rfl
theorem eM_u_sorts_lose (c : tv_c) (s r : ts_T) (k : Nat) : va_up (eM c s r) 1 (.inl (tv_kk c 0, 4, .inl (upd (eM_so s) k (-9)))) = eM c (ts_a s 18 (upd (s 18) k 0)) r := by
  rw [eM_so_lose]
  exact funext fun k => match k with
    | 0 => rfl
    | 1 => rfl
    | 2 => rfl
    | 3 => rfl
    | 4 => rfl
    | 5 => rfl
    | 6 => rfl
    | 7 => rfl
    | 8 => rfl
    | 9 => rfl
    | 10 => rfl
    | 11 => rfl
    | 12 => rfl
    | 13 => rfl
    | 14 => rfl
    | 15 => rfl
    | 16 => rfl
    | 17 => rfl
    | 18 => rfl
    | _ + 19 => rfl
theorem eM_count (c : tv_c) (s r : ts_T) (v : Int32) : eM c (ts_s s 9 v) r = eM c s r := funext fun k => match k with
  | 0 => rfl
  | 1 => rfl
  | 2 => rfl
  | 3 => rfl
  | 4 => rfl
  | 5 => rfl
  | 6 => rfl
  | 7 => rfl
  | 8 => rfl
  | 9 => rfl
  | 10 => rfl
  | 11 => rfl
  | 12 => rfl
  | 13 => rfl
  | 14 => rfl
  | 15 => rfl
  | 16 => rfl
  | 17 => rfl
  | 18 => rfl
  | _ + 19 => rfl
theorem eM_id_fault (c : tv_c) (s r : ts_T) : eM c (ts_s s 0 (s 0 0)) r = eM c s r := funext fun k => match k with
  | 0 => rfl
  | 1 => rfl
  | 2 => rfl
  | 3 => rfl
  | 4 => rfl
  | 5 => rfl
  | 6 => rfl
  | 7 => rfl
  | 8 => rfl
  | 9 => rfl
  | 10 => rfl
  | 11 => rfl
  | 12 => rfl
  | 13 => rfl
  | 14 => rfl
  | 15 => rfl
  | 16 => rfl
  | 17 => rfl
  | 18 => rfl
  | _ + 19 => rfl
theorem eM_id_trace (c : tv_c) (s r : ts_T) : eM c (ts_s s 1 (s 1 0)) r = eM c s r := funext fun k => match k with
  | 0 => rfl
  | 1 => rfl
  | 2 => rfl
  | 3 => rfl
  | 4 => rfl
  | 5 => rfl
  | 6 => rfl
  | 7 => rfl
  | 8 => rfl
  | 9 => rfl
  | 10 => rfl
  | 11 => rfl
  | 12 => rfl
  | 13 => rfl
  | 14 => rfl
  | 15 => rfl
  | 16 => rfl
  | 17 => rfl
  | 18 => rfl
  | _ + 19 => rfl
theorem eM_id_high (c : tv_c) (s r : ts_T) : eM c (ts_s s 2 (s 2 0)) r = eM c s r := funext fun k => match k with
  | 0 => rfl
  | 1 => rfl
  | 2 => rfl
  | 3 => rfl
  | 4 => rfl
  | 5 => rfl
  | 6 => rfl
  | 7 => rfl
  | 8 => rfl
  | 9 => rfl
  | 10 => rfl
  | 11 => rfl
  | 12 => rfl
  | 13 => rfl
  | 14 => rfl
  | 15 => rfl
  | 16 => rfl
  | 17 => rfl
  | 18 => rfl
  | _ + 19 => rfl
theorem eM_id_wide (c : tv_c) (s r : ts_T) : eM c (ts_s s 3 (s 3 0)) r = eM c s r := funext fun k => match k with
  | 0 => rfl
  | 1 => rfl
  | 2 => rfl
  | 3 => rfl
  | 4 => rfl
  | 5 => rfl
  | 6 => rfl
  | 7 => rfl
  | 8 => rfl
  | 9 => rfl
  | 10 => rfl
  | 11 => rfl
  | 12 => rfl
  | 13 => rfl
  | 14 => rfl
  | 15 => rfl
  | 16 => rfl
  | 17 => rfl
  | 18 => rfl
  | _ + 19 => rfl
theorem eM_id_year (c : tv_c) (s r : ts_T) : eM c (ts_s s 4 (s 4 0)) r = eM c s r := funext fun k => match k with
  | 0 => rfl
  | 1 => rfl
  | 2 => rfl
  | 3 => rfl
  | 4 => rfl
  | 5 => rfl
  | 6 => rfl
  | 7 => rfl
  | 8 => rfl
  | 9 => rfl
  | 10 => rfl
  | 11 => rfl
  | 12 => rfl
  | 13 => rfl
  | 14 => rfl
  | 15 => rfl
  | 16 => rfl
  | 17 => rfl
  | 18 => rfl
  | _ + 19 => rfl
theorem eM_id_smoke (c : tv_c) (s r : ts_T) : eM c (ts_s s 5 (s 5 0)) r = eM c s r := funext fun k => match k with
  | 0 => rfl
  | 1 => rfl
  | 2 => rfl
  | 3 => rfl
  | 4 => rfl
  | 5 => rfl
  | 6 => rfl
  | 7 => rfl
  | 8 => rfl
  | 9 => rfl
  | 10 => rfl
  | 11 => rfl
  | 12 => rfl
  | 13 => rfl
  | 14 => rfl
  | 15 => rfl
  | 16 => rfl
  | 17 => rfl
  | 18 => rfl
  | _ + 19 => rfl
theorem eM_id_line (c : tv_c) (s r : ts_T) : eM c (ts_s s 6 (s 6 0)) r = eM c s r := funext fun k => match k with
  | 0 => rfl
  | 1 => rfl
  | 2 => rfl
  | 3 => rfl
  | 4 => rfl
  | 5 => rfl
  | 6 => rfl
  | 7 => rfl
  | 8 => rfl
  | 9 => rfl
  | 10 => rfl
  | 11 => rfl
  | 12 => rfl
  | 13 => rfl
  | 14 => rfl
  | 15 => rfl
  | 16 => rfl
  | 17 => rfl
  | 18 => rfl
  | _ + 19 => rfl
theorem eM_id_coats (c : tv_c) (s r : ts_T) : eM c (ts_s s 7 (s 7 0)) r = eM c s r := funext fun k => match k with
  | 0 => rfl
  | 1 => rfl
  | 2 => rfl
  | 3 => rfl
  | 4 => rfl
  | 5 => rfl
  | 6 => rfl
  | 7 => rfl
  | 8 => rfl
  | 9 => rfl
  | 10 => rfl
  | 11 => rfl
  | 12 => rfl
  | 13 => rfl
  | 14 => rfl
  | 15 => rfl
  | 16 => rfl
  | 17 => rfl
  | 18 => rfl
  | _ + 19 => rfl
theorem eM_id_lights (c : tv_c) (s r : ts_T) : eM c (ts_s s 8 (s 8 0)) r = eM c s r := funext fun k => match k with
  | 0 => rfl
  | 1 => rfl
  | 2 => rfl
  | 3 => rfl
  | 4 => rfl
  | 5 => rfl
  | 6 => rfl
  | 7 => rfl
  | 8 => rfl
  | 9 => rfl
  | 10 => rfl
  | 11 => rfl
  | 12 => rfl
  | 13 => rfl
  | 14 => rfl
  | 15 => rfl
  | 16 => rfl
  | 17 => rfl
  | 18 => rfl
  | _ + 19 => rfl
theorem eM_id_smoke2 (c : tv_c) (s r : ts_T) (v : Int32) : eM c (ts_s (ts_s s 5 (s 5 0)) 6 v) r = eM c (ts_s s 6 v) r := funext fun k => match k with
  | 0 => rfl
  | 1 => rfl
  | 2 => rfl
  | 3 => rfl
  | 4 => rfl
  | 5 => rfl
  | 6 => rfl
  | 7 => rfl
  | 8 => rfl
  | 9 => rfl
  | 10 => rfl
  | 11 => rfl
  | 12 => rfl
  | 13 => rfl
  | 14 => rfl
  | 15 => rfl
  | 16 => rfl
  | 17 => rfl
  | 18 => rfl
  | _ + 19 => rfl
/-! the class -/
def eX_0 (c : tv_c) (s : ts_T) : List Value := [.ref (tv_ad c 1), .ref (tv_ad c 2), .ref (tv_ad c 6), .ref (tv_ad c 9), .ref (tv_ad c 15), .int (s 1 0), .int (s 0 0)]
def eX_w (c : tv_c) (s : ts_T) : List Value := [.ref (tv_ad c 3), .ref (tv_ad c 4), .ref (tv_ad c 5), .int (s 2 0), .int (s 3 0), .int (s 9 0), .int (s 7 0), .int (s 8 0), .int (s 4 0), .int (s 5 0), .int (s 6 0)]
def eX_e (c : tv_c) : List Value := [.ref (tv_ad c 2), .ref (tv_ad c 7), .ref (tv_ad c 8)]
def eX_m (c : tv_c) (r : ts_T) : List Value := [.ref (tv_ad c 2), .ref (tv_ad c 10), .ref (tv_ad c 11), .ref (tv_ad c 13), .ref (tv_ad c 14), .int (r 7 0), .int (r 8 0)]
def eX_x (c : tv_c) (r : ts_T) : List Value := [.ref (tv_ad c 12), .int (r 6 0)]
def eX_p (c : tv_c) (r : ts_T) : List Value := [.ref (tv_ad c 2), .ref (tv_ad c 6), .int (r 9 0), .int (r 10 0), .int (r 11 0)]
def eX_s (c : tv_c) (s : ts_T) (k : Nat) : List Value := [.ref (tv_ad c (20 + k)), .int (s 18 k), .int (s 19 k), .int (s 20 k)]
def eX_c (s : ts_T) (j : Nat) : List Value := [.int (s 10 j), .int (s 11 j), .int (s 12 j), .int (s 13 j), .int (s 14 j)]
def eX_k (c : tv_c) (s : ts_T) (k : Nat) : List Value := [.ref (tv_ad c (54 + k)), .int (s 15 k)]
def eX_rf (s : ts_T) (k : Nat) : Nat → Int32 := fun i => if i < 40 then s 21 (40 * k + i) else 0
def eX_bf (s : ts_T) (k : Nat) : Nat → Int32 := fun b => if b < 3 then s 16 (3 * k + b) else 0
def eX_t (c : tv_c) (s : ts_T) (k : Nat) : va_E := if k < 4 then .inr (5, eX_s c s k) else if k < 8 then .inl (tv_kk c 0, 40, .inl (eX_rf s (k - 4))) else if k < 32 then .inr (0, eX_c s (k - 8)) else if k < 38 then .inr (1, eX_k c s (k - 32)) else .inl (tv_kk c 0, 3, .inl (eX_bf s (k - 38)))
def eX (c : tv_c) (s r : ts_T) : Nat → va_E := fun k => match k with
  | 0 => .inr (7, eX_0 c s)
  | 1 => .inl (tv_kk c 2, 4, .inr (.inr (.inr (.inr (fun k => some (tv_ad c (16 + k)))))))
  | 2 => .inr (6, eX_w c s)
  | 3 => .inl (tv_kk c 3, 24, .inr (.inr (.inr (.inr (fun k => some (tv_ad c (24 + k)))))))
  | 4 => .inl (tv_kk c 4, 6, .inr (.inr (.inr (.inr (fun k => some (tv_ad c (48 + k)))))))
  | 5 => .inl (tv_kk c 0, 12, .inl (s 17))
  | 6 => .inr (2, eX_e c)
  | 7 => .inl (tv_kk c 0, 200, .inl (r 0))
  | 8 => .inl (tv_kk c 0, 24, .inl (r 1))
  | 9 => .inr (3, eX_m c r)
  | 10 => .inl (tv_kk c 0, 4, .inl (r 2))
  | 11 => .inr (1, eX_x c r)
  | 12 => .inl (tv_kk c 0, 3, .inl (r 3))
  | 13 => .inl (tv_kk c 0, 8, .inl (r 4))
  | 14 => .inl (tv_kk c 0, 4, .inl (r 5))
  | 15 => .inr (4, eX_p c r)
  | k + 16 => eX_t c s k
theorem eX_at_s (c : tv_c) (s r : ts_T) {j : Nat} (h : j < 4) : eX c s r (16 + j) = .inr (5, eX_s c s j) := by
  rw [show 16 + j = (0 + j) + 16 by omega]
  show eX_t c s (0 + j) = _
  unfold eX_t
  rw [if_pos (by omega)]
  rw [show 0 + j = j by omega]
theorem eX_at_r (c : tv_c) (s r : ts_T) {j : Nat} (h : j < 4) : eX c s r (20 + j) = .inl (tv_kk c 0, 40, .inl (eX_rf s j)) := by
  rw [show 20 + j = (4 + j) + 16 by omega]
  show eX_t c s (4 + j) = _
  unfold eX_t
  rw [if_neg (by omega), if_pos (by omega), show 4 + j - 4 = j by omega]
theorem eX_at_c (c : tv_c) (s r : ts_T) {j : Nat} (h : j < 24) : eX c s r (24 + j) = .inr (0, eX_c s j) := by
  rw [show 24 + j = (8 + j) + 16 by omega]
  show eX_t c s (8 + j) = _
  unfold eX_t
  rw [if_neg (by omega), if_neg (by omega), if_pos (by omega), show 8 + j - 8 = j by omega]
theorem eX_at_k (c : tv_c) (s r : ts_T) {j : Nat} (h : j < 6) : eX c s r (48 + j) = .inr (1, eX_k c s j) := by
  rw [show 48 + j = (32 + j) + 16 by omega]
  show eX_t c s (32 + j) = _
  unfold eX_t
  rw [if_neg (by omega), if_neg (by omega), if_neg (by omega), if_pos (by omega), show 32 + j - 32 = j by omega]
theorem eX_at_b (c : tv_c) (s r : ts_T) {j : Nat} (h : j < 6) : eX c s r (54 + j) = .inl (tv_kk c 0, 3, .inl (eX_bf s j)) := by
  rw [show 54 + j = (38 + j) + 16 by omega]
  show eX_t c s (38 + j) = _
  unfold eX_t
  rw [if_neg (by omega), if_neg (by omega), if_neg (by omega), if_neg (by omega), show 38 + j - 38 = j by omega]
theorem eX_lo_10 (c : tv_c) (s r : ts_T) (f : Nat → Int32) : ∀ k, k < 16 → eX c s r k = eX c (ts_a s 10 f) r k := fun k h => match k, h with
  | 0, _ => rfl
  | 1, _ => rfl
  | 2, _ => rfl
  | 3, _ => rfl
  | 4, _ => rfl
  | 5, _ => rfl
  | 6, _ => rfl
  | 7, _ => rfl
  | 8, _ => rfl
  | 9, _ => rfl
  | 10, _ => rfl
  | 11, _ => rfl
  | 12, _ => rfl
  | 13, _ => rfl
  | 14, _ => rfl
  | 15, _ => rfl
  | _ + 16, h => absurd h (by omega)
theorem eX_lo_11 (c : tv_c) (s r : ts_T) (f : Nat → Int32) : ∀ k, k < 16 → eX c s r k = eX c (ts_a s 11 f) r k := fun k h => match k, h with
  | 0, _ => rfl
  | 1, _ => rfl
  | 2, _ => rfl
  | 3, _ => rfl
  | 4, _ => rfl
  | 5, _ => rfl
  | 6, _ => rfl
  | 7, _ => rfl
  | 8, _ => rfl
  | 9, _ => rfl
  | 10, _ => rfl
  | 11, _ => rfl
  | 12, _ => rfl
  | 13, _ => rfl
  | 14, _ => rfl
  | 15, _ => rfl
  | _ + 16, h => absurd h (by omega)
theorem eX_lo_12 (c : tv_c) (s r : ts_T) (f : Nat → Int32) : ∀ k, k < 16 → eX c s r k = eX c (ts_a s 12 f) r k := fun k h => match k, h with
  | 0, _ => rfl
  | 1, _ => rfl
  | 2, _ => rfl
  | 3, _ => rfl
  | 4, _ => rfl
  | 5, _ => rfl
  | 6, _ => rfl
  | 7, _ => rfl
  | 8, _ => rfl
  | 9, _ => rfl
  | 10, _ => rfl
  | 11, _ => rfl
  | 12, _ => rfl
  | 13, _ => rfl
  | 14, _ => rfl
  | 15, _ => rfl
  | _ + 16, h => absurd h (by omega)
theorem eX_lo_13 (c : tv_c) (s r : ts_T) (f : Nat → Int32) : ∀ k, k < 16 → eX c s r k = eX c (ts_a s 13 f) r k := fun k h => match k, h with
  | 0, _ => rfl
  | 1, _ => rfl
  | 2, _ => rfl
  | 3, _ => rfl
  | 4, _ => rfl
  | 5, _ => rfl
  | 6, _ => rfl
  | 7, _ => rfl
  | 8, _ => rfl
  | 9, _ => rfl
  | 10, _ => rfl
  | 11, _ => rfl
  | 12, _ => rfl
  | 13, _ => rfl
  | 14, _ => rfl
  | 15, _ => rfl
  | _ + 16, h => absurd h (by omega)
theorem eX_lo_14 (c : tv_c) (s r : ts_T) (f : Nat → Int32) : ∀ k, k < 16 → eX c s r k = eX c (ts_a s 14 f) r k := fun k h => match k, h with
  | 0, _ => rfl
  | 1, _ => rfl
  | 2, _ => rfl
  | 3, _ => rfl
  | 4, _ => rfl
  | 5, _ => rfl
  | 6, _ => rfl
  | 7, _ => rfl
  | 8, _ => rfl
  | 9, _ => rfl
  | 10, _ => rfl
  | 11, _ => rfl
  | 12, _ => rfl
  | 13, _ => rfl
  | 14, _ => rfl
  | 15, _ => rfl
  | _ + 16, h => absurd h (by omega)
theorem eX_lo_15 (c : tv_c) (s r : ts_T) (f : Nat → Int32) : ∀ k, k < 16 → eX c s r k = eX c (ts_a s 15 f) r k := fun k h => match k, h with
  | 0, _ => rfl
  | 1, _ => rfl
  | 2, _ => rfl
  | 3, _ => rfl
  | 4, _ => rfl
  | 5, _ => rfl
  | 6, _ => rfl
  | 7, _ => rfl
  | 8, _ => rfl
  | 9, _ => rfl
  | 10, _ => rfl
  | 11, _ => rfl
  | 12, _ => rfl
  | 13, _ => rfl
  | 14, _ => rfl
  | 15, _ => rfl
  | _ + 16, h => absurd h (by omega)
theorem eX_lo_16 (c : tv_c) (s r : ts_T) (f : Nat → Int32) : ∀ k, k < 16 → eX c s r k = eX c (ts_a s 16 f) r k := fun k h => match k, h with
  | 0, _ => rfl
  | 1, _ => rfl
  | 2, _ => rfl
  | 3, _ => rfl
  | 4, _ => rfl
  | 5, _ => rfl
  | 6, _ => rfl
  | 7, _ => rfl
  | 8, _ => rfl
  | 9, _ => rfl
  | 10, _ => rfl
  | 11, _ => rfl
  | 12, _ => rfl
  | 13, _ => rfl
  | 14, _ => rfl
  | 15, _ => rfl
  | _ + 16, h => absurd h (by omega)
theorem eX_lo_18 (c : tv_c) (s r : ts_T) (f : Nat → Int32) : ∀ k, k < 16 → eX c s r k = eX c (ts_a s 18 f) r k := fun k h => match k, h with
  | 0, _ => rfl
  | 1, _ => rfl
  | 2, _ => rfl
  | 3, _ => rfl
  | 4, _ => rfl
  | 5, _ => rfl
  | 6, _ => rfl
  | 7, _ => rfl
  | 8, _ => rfl
  | 9, _ => rfl
  | 10, _ => rfl
  | 11, _ => rfl
  | 12, _ => rfl
  | 13, _ => rfl
  | 14, _ => rfl
  | 15, _ => rfl
  | _ + 16, h => absurd h (by omega)
theorem eX_lo_19 (c : tv_c) (s r : ts_T) (f : Nat → Int32) : ∀ k, k < 16 → eX c s r k = eX c (ts_a s 19 f) r k := fun k h => match k, h with
  | 0, _ => rfl
  | 1, _ => rfl
  | 2, _ => rfl
  | 3, _ => rfl
  | 4, _ => rfl
  | 5, _ => rfl
  | 6, _ => rfl
  | 7, _ => rfl
  | 8, _ => rfl
  | 9, _ => rfl
  | 10, _ => rfl
  | 11, _ => rfl
  | 12, _ => rfl
  | 13, _ => rfl
  | 14, _ => rfl
  | 15, _ => rfl
  | _ + 16, h => absurd h (by omega)
theorem eX_lo_20 (c : tv_c) (s r : ts_T) (f : Nat → Int32) : ∀ k, k < 16 → eX c s r k = eX c (ts_a s 20 f) r k := fun k h => match k, h with
  | 0, _ => rfl
  | 1, _ => rfl
  | 2, _ => rfl
  | 3, _ => rfl
  | 4, _ => rfl
  | 5, _ => rfl
  | 6, _ => rfl
  | 7, _ => rfl
  | 8, _ => rfl
  | 9, _ => rfl
  | 10, _ => rfl
  | 11, _ => rfl
  | 12, _ => rfl
  | 13, _ => rfl
  | 14, _ => rfl
  | 15, _ => rfl
  | _ + 16, h => absurd h (by omega)
theorem eX_lo_21 (c : tv_c) (s r : ts_T) (f : Nat → Int32) : ∀ k, k < 16 → eX c s r k = eX c (ts_a s 21 f) r k := fun k h => match k, h with
  | 0, _ => rfl
  | 1, _ => rfl
  | 2, _ => rfl
  | 3, _ => rfl
  | 4, _ => rfl
  | 5, _ => rfl
  | 6, _ => rfl
  | 7, _ => rfl
  | 8, _ => rfl
  | 9, _ => rfl
  | 10, _ => rfl
  | 11, _ => rfl
  | 12, _ => rfl
  | 13, _ => rfl
  | 14, _ => rfl
  | 15, _ => rfl
  | _ + 16, h => absurd h (by omega)
theorem eX_u_marks (c : tv_c) (s r : ts_T) (v : Int32) : va_up (eX c s r) 0 (.inr (7, (eX_0 c s).set 5 (.int v))) = eX c (ts_s s 1 v) r := funext fun k => match k with
  | 0 => rfl
  | 1 => rfl
  | 2 => rfl
  | 3 => rfl
  | 4 => rfl
  | 5 => rfl
  | 6 => rfl
  | 7 => rfl
  | 8 => rfl
  | 9 => rfl
  | 10 => rfl
  | 11 => rfl
  | 12 => rfl
  | 13 => rfl
  | 14 => rfl
  | 15 => rfl
  | _ + 16 => rfl
theorem eX_u_latestFault (c : tv_c) (s r : ts_T) (v : Int32) : va_up (eX c s r) 0 (.inr (7, (eX_0 c s).set 6 (.int v))) = eX c (ts_s s 0 v) r := funext fun k => match k with
  | 0 => rfl
  | 1 => rfl
  | 2 => rfl
  | 3 => rfl
  | 4 => rfl
  | 5 => rfl
  | 6 => rfl
  | 7 => rfl
  | 8 => rfl
  | 9 => rfl
  | 10 => rfl
  | 11 => rfl
  | 12 => rfl
  | 13 => rfl
  | 14 => rfl
  | 15 => rfl
  | _ + 16 => rfl
theorem eX_u_high (c : tv_c) (s r : ts_T) (v : Int32) : va_up (eX c s r) 2 (.inr (6, (eX_w c s).set 3 (.int v))) = eX c (ts_s s 2 v) r := funext fun k => match k with
  | 0 => rfl
  | 1 => rfl
  | 2 => rfl
  | 3 => rfl
  | 4 => rfl
  | 5 => rfl
  | 6 => rfl
  | 7 => rfl
  | 8 => rfl
  | 9 => rfl
  | 10 => rfl
  | 11 => rfl
  | 12 => rfl
  | 13 => rfl
  | 14 => rfl
  | 15 => rfl
  | _ + 16 => rfl
theorem eX_u_wide (c : tv_c) (s r : ts_T) (v : Int32) : va_up (eX c s r) 2 (.inr (6, (eX_w c s).set 4 (.int v))) = eX c (ts_s s 3 v) r := funext fun k => match k with
  | 0 => rfl
  | 1 => rfl
  | 2 => rfl
  | 3 => rfl
  | 4 => rfl
  | 5 => rfl
  | 6 => rfl
  | 7 => rfl
  | 8 => rfl
  | 9 => rfl
  | 10 => rfl
  | 11 => rfl
  | 12 => rfl
  | 13 => rfl
  | 14 => rfl
  | 15 => rfl
  | _ + 16 => rfl
theorem eX_u_count (c : tv_c) (s r : ts_T) (v : Int32) : va_up (eX c s r) 2 (.inr (6, (eX_w c s).set 5 (.int v))) = eX c (ts_s s 9 v) r := funext fun k => match k with
  | 0 => rfl
  | 1 => rfl
  | 2 => rfl
  | 3 => rfl
  | 4 => rfl
  | 5 => rfl
  | 6 => rfl
  | 7 => rfl
  | 8 => rfl
  | 9 => rfl
  | 10 => rfl
  | 11 => rfl
  | 12 => rfl
  | 13 => rfl
  | 14 => rfl
  | 15 => rfl
  | _ + 16 => rfl
theorem eX_u_coatCount (c : tv_c) (s r : ts_T) (v : Int32) : va_up (eX c s r) 2 (.inr (6, (eX_w c s).set 6 (.int v))) = eX c (ts_s s 7 v) r := funext fun k => match k with
  | 0 => rfl
  | 1 => rfl
  | 2 => rfl
  | 3 => rfl
  | 4 => rfl
  | 5 => rfl
  | 6 => rfl
  | 7 => rfl
  | 8 => rfl
  | 9 => rfl
  | 10 => rfl
  | 11 => rfl
  | 12 => rfl
  | 13 => rfl
  | 14 => rfl
  | 15 => rfl
  | _ + 16 => rfl
theorem eX_u_lightCount (c : tv_c) (s r : ts_T) (v : Int32) : va_up (eX c s r) 2 (.inr (6, (eX_w c s).set 7 (.int v))) = eX c (ts_s s 8 v) r := funext fun k => match k with
  | 0 => rfl
  | 1 => rfl
  | 2 => rfl
  | 3 => rfl
  | 4 => rfl
  | 5 => rfl
  | 6 => rfl
  | 7 => rfl
  | 8 => rfl
  | 9 => rfl
  | 10 => rfl
  | 11 => rfl
  | 12 => rfl
  | 13 => rfl
  | 14 => rfl
  | 15 => rfl
  | _ + 16 => rfl
theorem eX_u_year (c : tv_c) (s r : ts_T) (v : Int32) : va_up (eX c s r) 2 (.inr (6, (eX_w c s).set 8 (.int v))) = eX c (ts_s s 4 v) r := funext fun k => match k with
  | 0 => rfl
  | 1 => rfl
  | 2 => rfl
  | 3 => rfl
  | 4 => rfl
  | 5 => rfl
  | 6 => rfl
  | 7 => rfl
  | 8 => rfl
  | 9 => rfl
  | 10 => rfl
  | 11 => rfl
  | 12 => rfl
  | 13 => rfl
  | 14 => rfl
  | 15 => rfl
  | _ + 16 => rfl
theorem eX_u_smoke (c : tv_c) (s r : ts_T) (v : Int32) : va_up (eX c s r) 2 (.inr (6, (eX_w c s).set 9 (.int v))) = eX c (ts_s s 5 v) r := funext fun k => match k with
  | 0 => rfl
  | 1 => rfl
  | 2 => rfl
  | 3 => rfl
  | 4 => rfl
  | 5 => rfl
  | 6 => rfl
  | 7 => rfl
  | 8 => rfl
  | 9 => rfl
  | 10 => rfl
  | 11 => rfl
  | 12 => rfl
  | 13 => rfl
  | 14 => rfl
  | 15 => rfl
  | _ + 16 => rfl
theorem eX_u_line (c : tv_c) (s r : ts_T) (v : Int32) : va_up (eX c s r) 2 (.inr (6, (eX_w c s).set 10 (.int v))) = eX c (ts_s s 6 v) r := funext fun k => match k with
  | 0 => rfl
  | 1 => rfl
  | 2 => rfl
  | 3 => rfl
  | 4 => rfl
  | 5 => rfl
  | 6 => rfl
  | 7 => rfl
  | 8 => rfl
  | 9 => rfl
  | 10 => rfl
  | 11 => rfl
  | 12 => rfl
  | 13 => rfl
  | 14 => rfl
  | 15 => rfl
  | _ + 16 => rfl
theorem eX_u_leastUnlike (c : tv_c) (s r : ts_T) (v : Int32) : va_up (eX c s r) 9 (.inr (3, (eX_m c r).set 5 (.int v))) = eX c s (ts_s r 7 v) := funext fun k => match k with
  | 0 => rfl
  | 1 => rfl
  | 2 => rfl
  | 3 => rfl
  | 4 => rfl
  | 5 => rfl
  | 6 => rfl
  | 7 => rfl
  | 8 => rfl
  | 9 => rfl
  | 10 => rfl
  | 11 => rfl
  | 12 => rfl
  | 13 => rfl
  | 14 => rfl
  | 15 => rfl
  | _ + 16 => rfl
theorem eX_u_fewestDrops (c : tv_c) (s r : ts_T) (v : Int32) : va_up (eX c s r) 9 (.inr (3, (eX_m c r).set 6 (.int v))) = eX c s (ts_s r 8 v) := funext fun k => match k with
  | 0 => rfl
  | 1 => rfl
  | 2 => rfl
  | 3 => rfl
  | 4 => rfl
  | 5 => rfl
  | 6 => rfl
  | 7 => rfl
  | 8 => rfl
  | 9 => rfl
  | 10 => rfl
  | 11 => rfl
  | 12 => rfl
  | 13 => rfl
  | 14 => rfl
  | 15 => rfl
  | _ + 16 => rfl
theorem eX_u_mixedKind (c : tv_c) (s r : ts_T) (v : Int32) : va_up (eX c s r) 11 (.inr (1, (eX_x c r).set 1 (.int v))) = eX c s (ts_s r 6 v) := funext fun k => match k with
  | 0 => rfl
  | 1 => rfl
  | 2 => rfl
  | 3 => rfl
  | 4 => rfl
  | 5 => rfl
  | 6 => rfl
  | 7 => rfl
  | 8 => rfl
  | 9 => rfl
  | 10 => rfl
  | 11 => rfl
  | 12 => rfl
  | 13 => rfl
  | 14 => rfl
  | 15 => rfl
  | _ + 16 => rfl
theorem eX_u_size (c : tv_c) (s r : ts_T) (v : Int32) : va_up (eX c s r) 15 (.inr (4, (eX_p c r).set 2 (.int v))) = eX c s (ts_s r 9 v) := funext fun k => match k with
  | 0 => rfl
  | 1 => rfl
  | 2 => rfl
  | 3 => rfl
  | 4 => rfl
  | 5 => rfl
  | 6 => rfl
  | 7 => rfl
  | 8 => rfl
  | 9 => rfl
  | 10 => rfl
  | 11 => rfl
  | 12 => rfl
  | 13 => rfl
  | 14 => rfl
  | 15 => rfl
  | _ + 16 => rfl
theorem eX_u_first (c : tv_c) (s r : ts_T) (v : Int32) : va_up (eX c s r) 15 (.inr (4, (eX_p c r).set 3 (.int v))) = eX c s (ts_s r 10 v) := funext fun k => match k with
  | 0 => rfl
  | 1 => rfl
  | 2 => rfl
  | 3 => rfl
  | 4 => rfl
  | 5 => rfl
  | 6 => rfl
  | 7 => rfl
  | 8 => rfl
  | 9 => rfl
  | 10 => rfl
  | 11 => rfl
  | 12 => rfl
  | 13 => rfl
  | 14 => rfl
  | 15 => rfl
  | _ + 16 => rfl
theorem eX_u_last (c : tv_c) (s r : ts_T) (v : Int32) : va_up (eX c s r) 15 (.inr (4, (eX_p c r).set 4 (.int v))) = eX c s (ts_s r 11 v) := funext fun k => match k with
  | 0 => rfl
  | 1 => rfl
  | 2 => rfl
  | 3 => rfl
  | 4 => rfl
  | 5 => rfl
  | 6 => rfl
  | 7 => rfl
  | 8 => rfl
  | 9 => rfl
  | 10 => rfl
  | 11 => rfl
  | 12 => rfl
  | 13 => rfl
  | 14 => rfl
  | 15 => rfl
  | _ + 16 => rfl
theorem eX_u_weights (c : tv_c) (s r : ts_T) (f : Nat → Int32) : va_up (eX c s r) 5 (.inl (tv_kk c 0, 12, .inl f)) = eX c (ts_a s 17 f) r := funext fun k => match k with
  | 0 => rfl
  | 1 => rfl
  | 2 => rfl
  | 3 => rfl
  | 4 => rfl
  | 5 => rfl
  | 6 => rfl
  | 7 => rfl
  | 8 => rfl
  | 9 => rfl
  | 10 => rfl
  | 11 => rfl
  | 12 => rfl
  | 13 => rfl
  | 14 => rfl
  | 15 => rfl
  | _ + 16 => rfl
theorem eX_u_looks (c : tv_c) (s r : ts_T) (f : Nat → Int32) : va_up (eX c s r) 7 (.inl (tv_kk c 0, 200, .inl f)) = eX c s (ts_a r 0 f) := funext fun k => match k with
  | 0 => rfl
  | 1 => rfl
  | 2 => rfl
  | 3 => rfl
  | 4 => rfl
  | 5 => rfl
  | 6 => rfl
  | 7 => rfl
  | 8 => rfl
  | 9 => rfl
  | 10 => rfl
  | 11 => rfl
  | 12 => rfl
  | 13 => rfl
  | 14 => rfl
  | 15 => rfl
  | _ + 16 => rfl
theorem eX_u_shows (c : tv_c) (s r : ts_T) (f : Nat → Int32) : va_up (eX c s r) 8 (.inl (tv_kk c 0, 24, .inl f)) = eX c s (ts_a r 1 f) := funext fun k => match k with
  | 0 => rfl
  | 1 => rfl
  | 2 => rfl
  | 3 => rfl
  | 4 => rfl
  | 5 => rfl
  | 6 => rfl
  | 7 => rfl
  | 8 => rfl
  | 9 => rfl
  | 10 => rfl
  | 11 => rfl
  | 12 => rfl
  | 13 => rfl
  | 14 => rfl
  | 15 => rfl
  | _ + 16 => rfl
theorem eX_u_drops (c : tv_c) (s r : ts_T) (f : Nat → Int32) : va_up (eX c s r) 10 (.inl (tv_kk c 0, 4, .inl f)) = eX c s (ts_a r 2 f) := funext fun k => match k with
  | 0 => rfl
  | 1 => rfl
  | 2 => rfl
  | 3 => rfl
  | 4 => rfl
  | 5 => rfl
  | 6 => rfl
  | 7 => rfl
  | 8 => rfl
  | 9 => rfl
  | 10 => rfl
  | 11 => rfl
  | 12 => rfl
  | 13 => rfl
  | 14 => rfl
  | 15 => rfl
  | _ + 16 => rfl
theorem eX_u_mixedBands (c : tv_c) (s r : ts_T) (f : Nat → Int32) : va_up (eX c s r) 12 (.inl (tv_kk c 0, 3, .inl f)) = eX c s (ts_a r 3 f) := funext fun k => match k with
  | 0 => rfl
  | 1 => rfl
  | 2 => rfl
  | 3 => rfl
  | 4 => rfl
  | 5 => rfl
  | 6 => rfl
  | 7 => rfl
  | 8 => rfl
  | 9 => rfl
  | 10 => rfl
  | 11 => rfl
  | 12 => rfl
  | 13 => rfl
  | 14 => rfl
  | 15 => rfl
  | _ + 16 => rfl
theorem eX_u_now (c : tv_c) (s r : ts_T) (f : Nat → Int32) : va_up (eX c s r) 13 (.inl (tv_kk c 0, 8, .inl f)) = eX c s (ts_a r 4 f) := funext fun k => match k with
  | 0 => rfl
  | 1 => rfl
  | 2 => rfl
  | 3 => rfl
  | 4 => rfl
  | 5 => rfl
  | 6 => rfl
  | 7 => rfl
  | 8 => rfl
  | 9 => rfl
  | 10 => rfl
  | 11 => rfl
  | 12 => rfl
  | 13 => rfl
  | 14 => rfl
  | 15 => rfl
  | _ + 16 => rfl
theorem eX_u_bestDrops (c : tv_c) (s r : ts_T) (f : Nat → Int32) : va_up (eX c s r) 14 (.inl (tv_kk c 0, 4, .inl f)) = eX c s (ts_a r 5 f) := funext fun k => match k with
  | 0 => rfl
  | 1 => rfl
  | 2 => rfl
  | 3 => rfl
  | 4 => rfl
  | 5 => rfl
  | 6 => rfl
  | 7 => rfl
  | 8 => rfl
  | 9 => rfl
  | 10 => rfl
  | 11 => rfl
  | 12 => rfl
  | 13 => rfl
  | 14 => rfl
  | 15 => rfl
  | _ + 16 => rfl
theorem eX_u_c_sun (c : tv_c) (s r : ts_T) {j : Nat} (hj : j < 24) (v : Int32) : va_up (eX c s r) (24 + j) (.inr (0, (eX_c s j).set 0 (.int v))) = eX c (ts_a s 10 (upd (s 10) j v)) r := by
  funext k
  by_cases hk : k = 24 + j
  · subst hk
    rw [va_up_s, eX_at_c c _ r hj]
    simp [eX_c, ts_a, upd]
  · rw [va_up_n hk]
    rcases Nat.lt_or_ge k 16 with h | h
    · exact eX_lo_10 c s r _ k h
    · obtain ⟨n, rfl⟩ : ∃ n, k = n + 16 := ⟨k - 16, by omega⟩
      show eX_t c s n = eX_t c (ts_a s 10 (upd (s 10) j v)) n
      unfold eX_t
      by_cases a0 : n < 4
      · rw [if_pos a0, if_pos a0]
        rfl
      rw [if_neg a0, if_neg a0]
      by_cases a1 : n < 8
      · rw [if_pos a1, if_pos a1]
        rfl
      rw [if_neg a1, if_neg a1]
      by_cases a2 : n < 32
      · rw [if_pos a2, if_pos a2]
        have hn : n - 8 ≠ j := by omega
        simp [eX_c, ts_a, upd, hn]
      rw [if_neg a2, if_neg a2]
      by_cases a3 : n < 38
      · rw [if_pos a3, if_pos a3]
        rfl
      rw [if_neg a3, if_neg a3]
      rfl
theorem eX_u_c_coat (c : tv_c) (s r : ts_T) {j : Nat} (hj : j < 24) (v : Int32) : va_up (eX c s r) (24 + j) (.inr (0, (eX_c s j).set 1 (.int v))) = eX c (ts_a s 11 (upd (s 11) j v)) r := by
  funext k
  by_cases hk : k = 24 + j
  · subst hk
    rw [va_up_s, eX_at_c c _ r hj]
    simp [eX_c, ts_a, upd]
  · rw [va_up_n hk]
    rcases Nat.lt_or_ge k 16 with h | h
    · exact eX_lo_11 c s r _ k h
    · obtain ⟨n, rfl⟩ : ∃ n, k = n + 16 := ⟨k - 16, by omega⟩
      show eX_t c s n = eX_t c (ts_a s 11 (upd (s 11) j v)) n
      unfold eX_t
      by_cases a0 : n < 4
      · rw [if_pos a0, if_pos a0]
        rfl
      rw [if_neg a0, if_neg a0]
      by_cases a1 : n < 8
      · rw [if_pos a1, if_pos a1]
        rfl
      rw [if_neg a1, if_neg a1]
      by_cases a2 : n < 32
      · rw [if_pos a2, if_pos a2]
        have hn : n - 8 ≠ j := by omega
        simp [eX_c, ts_a, upd, hn]
      rw [if_neg a2, if_neg a2]
      by_cases a3 : n < 38
      · rw [if_pos a3, if_pos a3]
        rfl
      rw [if_neg a3, if_neg a3]
      rfl
theorem eX_u_c_sunHad (c : tv_c) (s r : ts_T) {j : Nat} (hj : j < 24) (v : Int32) : va_up (eX c s r) (24 + j) (.inr (0, (eX_c s j).set 2 (.int v))) = eX c (ts_a s 12 (upd (s 12) j v)) r := by
  funext k
  by_cases hk : k = 24 + j
  · subst hk
    rw [va_up_s, eX_at_c c _ r hj]
    simp [eX_c, ts_a, upd]
  · rw [va_up_n hk]
    rcases Nat.lt_or_ge k 16 with h | h
    · exact eX_lo_12 c s r _ k h
    · obtain ⟨n, rfl⟩ : ∃ n, k = n + 16 := ⟨k - 16, by omega⟩
      show eX_t c s n = eX_t c (ts_a s 12 (upd (s 12) j v)) n
      unfold eX_t
      by_cases a0 : n < 4
      · rw [if_pos a0, if_pos a0]
        rfl
      rw [if_neg a0, if_neg a0]
      by_cases a1 : n < 8
      · rw [if_pos a1, if_pos a1]
        rfl
      rw [if_neg a1, if_neg a1]
      by_cases a2 : n < 32
      · rw [if_pos a2, if_pos a2]
        have hn : n - 8 ≠ j := by omega
        simp [eX_c, ts_a, upd, hn]
      rw [if_neg a2, if_neg a2]
      by_cases a3 : n < 38
      · rw [if_pos a3, if_pos a3]
        rfl
      rw [if_neg a3, if_neg a3]
      rfl
theorem eX_u_c_air (c : tv_c) (s r : ts_T) {j : Nat} (hj : j < 24) (v : Int32) : va_up (eX c s r) (24 + j) (.inr (0, (eX_c s j).set 3 (.int v))) = eX c (ts_a s 13 (upd (s 13) j v)) r := by
  funext k
  by_cases hk : k = 24 + j
  · subst hk
    rw [va_up_s, eX_at_c c _ r hj]
    simp [eX_c, ts_a, upd]
  · rw [va_up_n hk]
    rcases Nat.lt_or_ge k 16 with h | h
    · exact eX_lo_13 c s r _ k h
    · obtain ⟨n, rfl⟩ : ∃ n, k = n + 16 := ⟨k - 16, by omega⟩
      show eX_t c s n = eX_t c (ts_a s 13 (upd (s 13) j v)) n
      unfold eX_t
      by_cases a0 : n < 4
      · rw [if_pos a0, if_pos a0]
        rfl
      rw [if_neg a0, if_neg a0]
      by_cases a1 : n < 8
      · rw [if_pos a1, if_pos a1]
        rfl
      rw [if_neg a1, if_neg a1]
      by_cases a2 : n < 32
      · rw [if_pos a2, if_pos a2]
        have hn : n - 8 ≠ j := by omega
        simp [eX_c, ts_a, upd, hn]
      rw [if_neg a2, if_neg a2]
      by_cases a3 : n < 38
      · rw [if_pos a3, if_pos a3]
        rfl
      rw [if_neg a3, if_neg a3]
      rfl
theorem eX_u_c_hidden (c : tv_c) (s r : ts_T) {j : Nat} (hj : j < 24) (v : Int32) : va_up (eX c s r) (24 + j) (.inr (0, (eX_c s j).set 4 (.int v))) = eX c (ts_a s 14 (upd (s 14) j v)) r := by
  funext k
  by_cases hk : k = 24 + j
  · subst hk
    rw [va_up_s, eX_at_c c _ r hj]
    simp [eX_c, ts_a, upd]
  · rw [va_up_n hk]
    rcases Nat.lt_or_ge k 16 with h | h
    · exact eX_lo_14 c s r _ k h
    · obtain ⟨n, rfl⟩ : ∃ n, k = n + 16 := ⟨k - 16, by omega⟩
      show eX_t c s n = eX_t c (ts_a s 14 (upd (s 14) j v)) n
      unfold eX_t
      by_cases a0 : n < 4
      · rw [if_pos a0, if_pos a0]
        rfl
      rw [if_neg a0, if_neg a0]
      by_cases a1 : n < 8
      · rw [if_pos a1, if_pos a1]
        rfl
      rw [if_neg a1, if_neg a1]
      by_cases a2 : n < 32
      · rw [if_pos a2, if_pos a2]
        have hn : n - 8 ≠ j := by omega
        simp [eX_c, ts_a, upd, hn]
      rw [if_neg a2, if_neg a2]
      by_cases a3 : n < 38
      · rw [if_pos a3, if_pos a3]
        rfl
      rw [if_neg a3, if_neg a3]
      rfl
theorem eX_u_s_has (c : tv_c) (s r : ts_T) {j : Nat} (hj : j < 4) (v : Int32) : va_up (eX c s r) (16 + j) (.inr (5, (eX_s c s j).set 1 (.int v))) = eX c (ts_a s 18 (upd (s 18) j v)) r := by
  funext k
  by_cases hk : k = 16 + j
  · subst hk
    rw [va_up_s, eX_at_s c _ r hj]
    simp [eX_s, ts_a, upd]
  · rw [va_up_n hk]
    rcases Nat.lt_or_ge k 16 with h | h
    · exact eX_lo_18 c s r _ k h
    · obtain ⟨n, rfl⟩ : ∃ n, k = n + 16 := ⟨k - 16, by omega⟩
      show eX_t c s n = eX_t c (ts_a s 18 (upd (s 18) j v)) n
      unfold eX_t
      by_cases a0 : n < 4
      · rw [if_pos a0, if_pos a0]
        have hn : n ≠ j := by omega
        simp [eX_s, ts_a, upd, hn]
      rw [if_neg a0, if_neg a0]
      by_cases a1 : n < 8
      · rw [if_pos a1, if_pos a1]
        rfl
      rw [if_neg a1, if_neg a1]
      by_cases a2 : n < 32
      · rw [if_pos a2, if_pos a2]
        rfl
      rw [if_neg a2, if_neg a2]
      by_cases a3 : n < 38
      · rw [if_pos a3, if_pos a3]
        rfl
      rw [if_neg a3, if_neg a3]
      rfl
theorem eX_u_s_sort (c : tv_c) (s r : ts_T) {j : Nat} (hj : j < 4) (v : Int32) : va_up (eX c s r) (16 + j) (.inr (5, (eX_s c s j).set 2 (.int v))) = eX c (ts_a s 19 (upd (s 19) j v)) r := by
  funext k
  by_cases hk : k = 16 + j
  · subst hk
    rw [va_up_s, eX_at_s c _ r hj]
    simp [eX_s, ts_a, upd]
  · rw [va_up_n hk]
    rcases Nat.lt_or_ge k 16 with h | h
    · exact eX_lo_19 c s r _ k h
    · obtain ⟨n, rfl⟩ : ∃ n, k = n + 16 := ⟨k - 16, by omega⟩
      show eX_t c s n = eX_t c (ts_a s 19 (upd (s 19) j v)) n
      unfold eX_t
      by_cases a0 : n < 4
      · rw [if_pos a0, if_pos a0]
        have hn : n ≠ j := by omega
        simp [eX_s, ts_a, upd, hn]
      rw [if_neg a0, if_neg a0]
      by_cases a1 : n < 8
      · rw [if_pos a1, if_pos a1]
        rfl
      rw [if_neg a1, if_neg a1]
      by_cases a2 : n < 32
      · rw [if_pos a2, if_pos a2]
        rfl
      rw [if_neg a2, if_neg a2]
      by_cases a3 : n < 38
      · rw [if_pos a3, if_pos a3]
        rfl
      rw [if_neg a3, if_neg a3]
      rfl
theorem eX_u_s_length (c : tv_c) (s r : ts_T) {j : Nat} (hj : j < 4) (v : Int32) : va_up (eX c s r) (16 + j) (.inr (5, (eX_s c s j).set 3 (.int v))) = eX c (ts_a s 20 (upd (s 20) j v)) r := by
  funext k
  by_cases hk : k = 16 + j
  · subst hk
    rw [va_up_s, eX_at_s c _ r hj]
    simp [eX_s, ts_a, upd]
  · rw [va_up_n hk]
    rcases Nat.lt_or_ge k 16 with h | h
    · exact eX_lo_20 c s r _ k h
    · obtain ⟨n, rfl⟩ : ∃ n, k = n + 16 := ⟨k - 16, by omega⟩
      show eX_t c s n = eX_t c (ts_a s 20 (upd (s 20) j v)) n
      unfold eX_t
      by_cases a0 : n < 4
      · rw [if_pos a0, if_pos a0]
        have hn : n ≠ j := by omega
        simp [eX_s, ts_a, upd, hn]
      rw [if_neg a0, if_neg a0]
      by_cases a1 : n < 8
      · rw [if_pos a1, if_pos a1]
        rfl
      rw [if_neg a1, if_neg a1]
      by_cases a2 : n < 32
      · rw [if_pos a2, if_pos a2]
        rfl
      rw [if_neg a2, if_neg a2]
      by_cases a3 : n < 38
      · rw [if_pos a3, if_pos a3]
        rfl
      rw [if_neg a3, if_neg a3]
      rfl
theorem eX_u_k_kind (c : tv_c) (s r : ts_T) {j : Nat} (hj : j < 6) (v : Int32) : va_up (eX c s r) (48 + j) (.inr (1, (eX_k c s j).set 1 (.int v))) = eX c (ts_a s 15 (upd (s 15) j v)) r := by
  funext k
  by_cases hk : k = 48 + j
  · subst hk
    rw [va_up_s, eX_at_k c _ r hj]
    simp [eX_k, ts_a, upd]
  · rw [va_up_n hk]
    rcases Nat.lt_or_ge k 16 with h | h
    · exact eX_lo_15 c s r _ k h
    · obtain ⟨n, rfl⟩ : ∃ n, k = n + 16 := ⟨k - 16, by omega⟩
      show eX_t c s n = eX_t c (ts_a s 15 (upd (s 15) j v)) n
      unfold eX_t
      by_cases a0 : n < 4
      · rw [if_pos a0, if_pos a0]
        rfl
      rw [if_neg a0, if_neg a0]
      by_cases a1 : n < 8
      · rw [if_pos a1, if_pos a1]
        rfl
      rw [if_neg a1, if_neg a1]
      by_cases a2 : n < 32
      · rw [if_pos a2, if_pos a2]
        rfl
      rw [if_neg a2, if_neg a2]
      by_cases a3 : n < 38
      · rw [if_pos a3, if_pos a3]
        have hn : n - 32 ≠ j := by omega
        simp [eX_k, ts_a, upd, hn]
      rw [if_neg a3, if_neg a3]
      rfl
theorem eX_bf_s (s : ts_T) (j : Nat) {i : Nat} (hi : i < 3) (v : Int32) : eX_bf (ts_a s 16 (upd (s 16) (3 * j + i) v)) j = upd (eX_bf s j) i v := by
  funext b
  by_cases h : b = i
  · subst h
    simp [eX_bf, ts_a, upd, hi]
  · have h2 : ¬ 3 * j + b = 3 * j + i := by omega
    simp [eX_bf, ts_a, upd, h, h2]
theorem eX_bf_n (s : ts_T) {j n : Nat} (hn : n ≠ j) {i : Nat} (hi : i < 3) (v : Int32) : eX_bf (ts_a s 16 (upd (s 16) (3 * j + i) v)) n = eX_bf s n := by
  funext b
  by_cases h : b < 3
  · have h2 : ¬ 3 * n + b = 3 * j + i := by omega
    simp [eX_bf, ts_a, upd, h, h2]
  · simp [eX_bf, h]
theorem eX_rf_s (s : ts_T) (j : Nat) {i : Nat} (hi : i < 40) (v : Int32) : eX_rf (ts_a s 21 (upd (s 21) (40 * j + i) v)) j = upd (eX_rf s j) i v := by
  funext b
  by_cases h : b = i
  · subst h
    simp [eX_rf, ts_a, upd, hi]
  · have h2 : ¬ 40 * j + b = 40 * j + i := by omega
    simp [eX_rf, ts_a, upd, h, h2]
theorem eX_rf_n (s : ts_T) {j n : Nat} (hn : n ≠ j) {i : Nat} (hi : i < 40) (v : Int32) : eX_rf (ts_a s 21 (upd (s 21) (40 * j + i) v)) n = eX_rf s n := by
  funext b
  by_cases h : b < 40
  · have h2 : ¬ 40 * n + b = 40 * j + i := by omega
    simp [eX_rf, ts_a, upd, h, h2]
  · simp [eX_rf, h]
/-- a whole row anew -/
def ts_row (f : Nat → Int32) (k : Nat) (g : Nat → Int32) : Nat → Int32 := fun q => if 40 * k ≤ q ∧ q < 40 * k + 40 then g (q - 40 * k) else f q
theorem eX_rr_s (s : ts_T) (j : Nat) (g : Nat → Int32) : eX_rf (ts_a s 21 (ts_row (s 21) j g)) j = fun i => if i < 40 then g i else 0 := by
  funext b
  by_cases h : b < 40
  · have h2 : 40 * j + b - 40 * j = b := by omega
    simp [eX_rf, ts_a, ts_row, h, h2]
  · simp [eX_rf, h]
theorem eX_rr_n (s : ts_T) {j n : Nat} (hn : n ≠ j) (g : Nat → Int32) : eX_rf (ts_a s 21 (ts_row (s 21) j g)) n = eX_rf s n := by
  funext b
  by_cases h : b < 40
  · have h2 : ¬ (40 * j ≤ 40 * n + b ∧ 40 * n + b < 40 * j + 40) := by omega
    simp [eX_rf, ts_a, ts_row, h, h2]
  · simp [eX_rf, h]
theorem eX_u_b_bands (c : tv_c) (s r : ts_T) {j : Nat} (hj : j < 6) {i : Nat} (hi : i < 3) (v : Int32) : va_up (eX c s r) (54 + j) (.inl (tv_kk c 0, 3, .inl (upd (eX_bf s j) i v))) = eX c (ts_a s 16 (upd (s 16) (3 * j + i) v)) r := by
  funext k
  by_cases hk : k = 54 + j
  · subst hk
    rw [va_up_s, eX_at_b c _ r hj]
    rw [eX_bf_s s j hi]
  · rw [va_up_n hk]
    rcases Nat.lt_or_ge k 16 with h | h
    · exact eX_lo_16 c s r _ k h
    · obtain ⟨n, rfl⟩ : ∃ n, k = n + 16 := ⟨k - 16, by omega⟩
      show eX_t c s n = eX_t c (ts_a s 16 (upd (s 16) (3 * j + i) v)) n
      unfold eX_t
      by_cases a0 : n < 4
      · rw [if_pos a0, if_pos a0]
        rfl
      rw [if_neg a0, if_neg a0]
      by_cases a1 : n < 8
      · rw [if_pos a1, if_pos a1]
        rfl
      rw [if_neg a1, if_neg a1]
      by_cases a2 : n < 32
      · rw [if_pos a2, if_pos a2]
        rfl
      rw [if_neg a2, if_neg a2]
      by_cases a3 : n < 38
      · rw [if_pos a3, if_pos a3]
        rfl
      rw [if_neg a3, if_neg a3]
      have hn : n - 38 ≠ j := by omega
      rw [eX_bf_n s hn hi]
theorem eX_u_r_row (c : tv_c) (s r : ts_T) {j : Nat} (hj : j < 4) {i : Nat} (hi : i < 40) (v : Int32) : va_up (eX c s r) (20 + j) (.inl (tv_kk c 0, 40, .inl (upd (eX_rf s j) i v))) = eX c (ts_a s 21 (upd (s 21) (40 * j + i) v)) r := by
  funext k
  by_cases hk : k = 20 + j
  · subst hk
    rw [va_up_s, eX_at_r c _ r hj]
    rw [eX_rf_s s j hi]
  · rw [va_up_n hk]
    rcases Nat.lt_or_ge k 16 with h | h
    · exact eX_lo_21 c s r _ k h
    · obtain ⟨n, rfl⟩ : ∃ n, k = n + 16 := ⟨k - 16, by omega⟩
      show eX_t c s n = eX_t c (ts_a s 21 (upd (s 21) (40 * j + i) v)) n
      unfold eX_t
      by_cases a0 : n < 4
      · rw [if_pos a0, if_pos a0]
        rfl
      rw [if_neg a0, if_neg a0]
      by_cases a1 : n < 8
      · rw [if_pos a1, if_pos a1]
        have hn : n - 4 ≠ j := by omega
        rw [eX_rf_n s hn hi]
      rw [if_neg a1, if_neg a1]
      by_cases a2 : n < 32
      · rw [if_pos a2, if_pos a2]
        rfl
      rw [if_neg a2, if_neg a2]
      by_cases a3 : n < 38
      · rw [if_pos a3, if_pos a3]
        rfl
      rw [if_neg a3, if_neg a3]
      rfl
theorem eX_u_r_all (c : tv_c) (s r : ts_T) {j : Nat} (hj : j < 4) (g : Nat → Int32) : va_up (eX c s r) (20 + j) (.inl (tv_kk c 0, 40, .inl (fun i => if i < 40 then g i else 0))) = eX c (ts_a s 21 (ts_row (s 21) j g)) r := by
  funext k
  by_cases hk : k = 20 + j
  · subst hk
    rw [va_up_s, eX_at_r c _ r hj]
    rw [eX_rr_s s j g]
  · rw [va_up_n hk]
    rcases Nat.lt_or_ge k 16 with h | h
    · exact eX_lo_21 c s r _ k h
    · obtain ⟨n, rfl⟩ : ∃ n, k = n + 16 := ⟨k - 16, by omega⟩
      show eX_t c s n = eX_t c (ts_a s 21 (ts_row (s 21) j g)) n
      unfold eX_t
      by_cases a0 : n < 4
      · rw [if_pos a0, if_pos a0]
        rfl
      rw [if_neg a0, if_neg a0]
      by_cases a1 : n < 8
      · rw [if_pos a1, if_pos a1]
        have hn : n - 4 ≠ j := by omega
        rw [eX_rr_n s hn g]
      rw [if_neg a1, if_neg a1]
      by_cases a2 : n < 32
      · rw [if_pos a2, if_pos a2]
        rfl
      rw [if_neg a2, if_neg a2]
      by_cases a3 : n < 38
      · rw [if_pos a3, if_pos a3]
        rfl
      rw [if_neg a3, if_neg a3]
      rfl
