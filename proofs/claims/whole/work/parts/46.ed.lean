/-! which edges are seen, as the class looks at them: looks (r 0), whose looks a cell shows (r 1) -/
def sp_bp (s r : ts_T) (A B v : Nat) : Bool := decide (s 6 0 ≤ sp_ab (r 0 (8 * A + v) - r 0 (8 * B + v)))
def sp_bt (s r : ts_T) (a b : Nat) : Int32 := if sp_any (sp_bp s r (tk (r 1 a)) (tk (r 1 b))) (2 * tk (s 8 0)) = true then 1 else 0
def sp_rg (s r : ts_T) (a : Nat) : Int32 := if tk (s 3 0) ≤ a % tk (s 3 0) + 1 then 0 else if sp_bt s r a (a + 1) = 0 then 0 else 1
def sp_bl (s r : ts_T) (a : Nat) : Int32 := if tk (s 9 0) ≤ a + tk (s 3 0) then 0 else if sp_bt s r a (a + tk (s 3 0)) = 0 then 0 else 1
def sp_cs (s r : ts_T) : Nat → Int32
  | 0 => 0
  | i + 1 => sp_cs s r i + sp_rg s r i + sp_bl s r i
def sp_l1 (s r : ts_T) (a : Nat) : Int32 := if a % tk (s 3 0) ≤ 0 then 0 else sp_rg s r (a - 1)
def sp_u1 (s r : ts_T) (a : Nat) : Int32 := if a < tk (s 3 0) then 0 else sp_bl s r (a - tk (s 3 0))
def sp_co (s r : ts_T) (a : Nat) : Int32 := sp_rg s r a + sp_bl s r a + sp_l1 s r a + sp_u1 s r a
def sp_as1 (s r : ts_T) (i : Nat) : Bool := decide (¬ sp_rg s r i = 0) || decide (¬ sp_bl s r i = 0)
def sp_an (s r : ts_T) : Int32 := if sp_any (sp_as1 s r) (tk (s 9 0)) = true then 1 else 0
def sh_ok (s r : ts_T) : Prop := ∀ a, a < tk (s 9 0) → ∃ A, A ≤ 24 ∧ r 1 a = nI A
/-- the looks of all cells: those of the first i, of cell i the first m -/
def lk_z (v : Nat) : Int32 := if v % 2 = 1 then 1 else 0
def lk_a (s : ts_T) (f : Nat → Int32) (N i m : Nat) : Nat → Int32 := fun q => if (q / 8 < i ∧ q % 8 < N) ∨ (q / 8 = i ∧ q % 8 < m) then sp_ln s (q / 8) (q % 8 / 2) (lk_z (q % 8)) else f q
theorem lk_a_0 (s : ts_T) (f : Nat → Int32) (N : Nat) : lk_a s f N 0 0 = f := by
  funext q
  unfold lk_a
  rw [if_neg (by omega)]
theorem lk_a_m (s : ts_T) (f : Nat → Int32) {N i m : Nat} (hm : m < 8) : upd (lk_a s f N i m) (8 * i + m) (sp_ln s i (m / 2) (lk_z m)) = lk_a s f N i (m + 1) := by
  funext q
  unfold upd lk_a
  by_cases h : q = 8 * i + m
  · subst h
    rw [if_pos rfl, if_pos (by omega), show (8 * i + m) / 8 = i by omega, show (8 * i + m) % 8 = m by omega]
  · rw [if_neg h]
    by_cases h2 : (q / 8 < i ∧ q % 8 < N) ∨ (q / 8 = i ∧ q % 8 < m)
    · rw [if_pos h2, if_pos (by omega)]
    · rw [if_neg h2, if_neg (by omega)]
theorem lk_a_i (s : ts_T) (f : Nat → Int32) (N i : Nat) : lk_a s f N i N = lk_a s f N (i + 1) 0 := by
  funext q
  unfold lk_a
  by_cases h2 : (q / 8 < i ∧ q % 8 < N) ∨ (q / 8 = i ∧ q % 8 < N)
  · rw [if_pos h2, if_pos (by omega)]
  · rw [if_neg h2, if_neg (by omega)]
/-- the looks of a fresh coat, behind those of all cells -/
def lk_f (s : ts_T) (f : Nat → Int32) (k m : Nat) : Nat → Int32 := fun q => if 192 ≤ q ∧ q < 192 + m then sp_lk s k 0 0 ((q - 192) / 2) (lk_z (q - 192)) else f q
theorem lk_f_0 (s : ts_T) (f : Nat → Int32) (k : Nat) : lk_f s f k 0 = f := by
  funext q
  unfold lk_f
  rw [if_neg (by omega)]
theorem lk_f_m (s : ts_T) (f : Nat → Int32) (k m : Nat) : upd (lk_f s f k m) (192 + m) (sp_lk s k 0 0 (m / 2) (lk_z m)) = lk_f s f k (m + 1) := by
  funext q
  unfold upd lk_f
  by_cases h : q = 192 + m
  · subst h
    rw [if_pos rfl, if_pos (by omega), show 192 + m - 192 = m by omega]
  · rw [if_neg h]
    by_cases h2 : 192 ≤ q ∧ q < 192 + m
    · rw [if_pos h2, if_pos (by omega)]
    · rw [if_neg h2, if_neg (by omega)]
theorem lk_z1 {m : Nat} (h : m % 2 = 1) : 1 = lk_z m := by unfold lk_z; rw [if_pos h]
theorem lk_z0 {m : Nat} (h : ¬ m % 2 = 1) : 0 = lk_z m := by unfold lk_z; rw [if_neg h]
theorem bt_z (s r : ts_T) (a b : Nat) : sp_bt s r a b = 0 ∨ sp_bt s r a b = 1 := by
  unfold sp_bt
  split
  · exact Or.inr rfl
  · exact Or.inl rfl
theorem rg_z (s r : ts_T) (a : Nat) : sp_rg s r a = 0 ∨ sp_rg s r a = 1 := by
  unfold sp_rg
  (repeat' split) <;> first | exact Or.inl rfl | exact Or.inr rfl
theorem bl_z (s r : ts_T) (a : Nat) : sp_bl s r a = 0 ∨ sp_bl s r a = 1 := by
  unfold sp_bl
  (repeat' split) <;> first | exact Or.inl rfl | exact Or.inr rfl
theorem rg_e1 {s r : ts_T} {a : Nat} (h : ¬ sp_rg s r a = 0) : 1 = sp_rg s r a := by
  rcases rg_z s r a with q | q
  · exact absurd q h
  · exact q.symm
theorem bl_e1 {s r : ts_T} {a : Nat} (h : ¬ sp_bl s r a = 0) : 1 = sp_bl s r a := by
  rcases bl_z s r a with q | q
  · exact absurd q h
  · exact q.symm
theorem rt_lt {a h w n : Nat} (hn : n = h * w) (ha : a < n) (h1 : ¬ w ≤ a % w + 1) : a + 1 < n := by
  subst hn
  have h3 := Nat.div_add_mod a w
  have h4 : a / w < h := Nat.div_lt_of_lt_mul (by rw [Nat.mul_comm]; exact ha)
  have h5 : w * (a / w + 1) ≤ w * h := Nat.mul_le_mul_left w h4
  rw [Nat.mul_add, Nat.mul_one] at h5
  rw [Nat.mul_comm h w]
  generalize w * (a / w) = x at h3 h5
  omega
theorem cs_st {s r : ts_T} {i : Nat} {x y : Int32} (hx : x = sp_rg s r i) (hy : y = sp_bl s r i) : sp_cs s r i + x + y = sp_cs s r (i + 1) := by rw [hx, hy]; rfl
