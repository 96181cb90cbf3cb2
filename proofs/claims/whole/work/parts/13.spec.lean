/-! what the calls answer, and the state behind them: the same words for the class and for the reference -/
def sp_ofCell (s : ts_T) (c q : Int32) : Int32 := if sp_ix c (s 9 0) = 0 then -1 else if q = 0 then s 10 (tk c) else if q = 1 then s 11 (tk c) else if q = 2 then s 12 (tk c) else if q = 3 then s 13 (tk c) else if q = 4 then (if s 14 (tk c) = 0 then 0 else 1) else -2
def sp_set (s : ts_T) (q v : Int32) : Int32 × ts_T := if sp_in q 0 1 = 0 then (-2, s) else if sp_in v 0 (if q = 0 then 9 else 999) = 0 then (-2, s) else if s 9 0 = 0 then (-3, s) else if q = 0 then (s 5 0, ts_s s 5 v) else (s 6 0, ts_s s 6 v)
def sp_hang (s : ts_T) (c z : Int32) : Int32 × ts_T := if sp_ix c (s 9 0) = 0 then (-1, s) else (if s 14 (tk c) = z then 0 else 1, ts_a s 14 (upd (s 14) (tk c) z))
def sp_add (s : ts_T) (k : Nat) (t a b c : Int32) : ts_T := ts_s (ts_a (ts_a s 15 (upd (s 15) k t)) 16 (upd (upd (upd (s 16) (3 * k) a) (3 * k + 1) b) (3 * k + 2) c)) 7 (s 7 0 + 1)
def sp_coat (s : ts_T) (t a b c : Int32) : Int32 × ts_T := if sp_in t 0 2 = 0 then (-2, s) else if sp_in a 0 99 = 0 then (-2, s) else if sp_in b 0 99 = 0 then (-2, s) else if sp_in c 0 99 = 0 then (-2, s) else if s 9 0 = 0 then (-3, s) else if s 7 0 = 6 then (-4, s) else (s 7 0 + 1 - 1, sp_add s (tk (s 7 0)) t a b c)
def sp_ofCoat (s : ts_T) (k q : Int32) : Int32 := if sp_ix k (s 7 0) = 0 then -1 else if q = -1 then s 15 (tk k) else if sp_in q 0 2 = 0 then -2 else s 16 (3 * tk k + tk q)
def sp_paint (s : ts_T) (c k : Int32) : Int32 × ts_T := if sp_ix c (s 9 0) = 0 then (-1, s) else if sp_ix k (s 7 0) = 0 then (-1, s) else (s 11 (tk c), ts_a (ts_a (ts_a s 11 (upd (s 11) (tk c) k)) 12 (upd (s 12) (tk c) 0)) 13 (upd (s 13) (tk c) 0))
def sp_back (s : ts_T) (c b z : Int32) : Int32 := if sp_ix c (s 9 0) = 0 then -1 else if sp_in b 0 2 = 0 then -2 else sp_cm (s 15 (tk (s 11 (tk c)))) (s 16 (3 * tk (s 11 (tk c)) + tk b)) b (s 12 (tk c)) (s 13 (tk c)) (s 5 0) z
def sp_light (s : ts_T) (a b c : Int32) : Int32 × ts_T := if sp_in a 0 9 = 0 then (-2, s) else if sp_in b 0 9 = 0 then (-2, s) else if sp_in c 0 9 = 0 then (-2, s) else if s 9 0 = 0 then (-3, s) else if s 8 0 = 4 then (-4, s) else (s 8 0 + 1 - 1, ts_s (ts_a s 17 (upd (upd (upd (s 17) (3 * tk (s 8 0)) a) (3 * tk (s 8 0) + 1) b) (3 * tk (s 8 0) + 2) c)) 8 (s 8 0 + 1))
/-- LOOK of the cell j now -/
def sp_ln (s : ts_T) (j l : Nat) (z : Int32) : Int32 := sp_lk s (tk (s 11 j)) (s 12 j) (s 13 j) l z
def sp_look (s : ts_T) (c l z : Int32) : Int32 := if sp_ix c (s 9 0) = 0 then -1 else if sp_ix l (s 8 0) = 0 then -1 else sp_ln s (tk c) (tk l) z
def sp_unlike (s : ts_T) (c o l z : Int32) : Int32 := if sp_ix c (s 9 0) = 0 then -1 else if sp_ix o (s 9 0) = 0 then -1 else if sp_ix l (s 8 0) = 0 then -1 else sp_ab (sp_ln s (tk c) (tk l) z - sp_ln s (tk o) (tk l) z)
/-- how far two fresh coats are apart -/
def sp_fu (s : ts_T) (k j l : Nat) : Int32 := sp_ab (sp_lk s k 0 0 l 0 - sp_lk s j 0 0 l 0)
def sp_on (s : ts_T) (c l n : Int32) : Int32 := if sp_ix c (s 9 0) = 0 then -1 else if sp_ix l (s 8 0) = 0 then -1 else if sp_in n 0 40 = 0 then -2 else if s 14 (tk c) = 0 then sp_lk s (tk (s 11 (tk c))) (s 12 (tk c) + n * s 10 (tk c)) (s 13 (tk c) + n) (tk l) 0 else sp_lk s (tk (s 11 (tk c))) (s 12 (tk c) + 0 * s 10 (tk c)) (s 13 (tk c) + 0) (tk l) 0
def sp_lose (s : ts_T) (k : Int32) : Int32 × ts_T := if sp_in k 0 3 = 0 then (-1, s) else (if s 18 (tk k) = 0 then 0 else 1, ts_a s 18 (upd (s 18) (tk k) 0))
/-- the fault of cells taken as a row of a sort -/
def sp_ag (s : ts_T) (k : Nat) (q i n : Int32) : Int32 := if s 18 k = 0 then 1 else if s 19 k = q then (if n < 0 then 4 else if i < 0 then 3 else if s 20 k < i then 3 else if n ≤ s 20 k - i then 0 else 3) else 2
def sp_cut (q v : Int32) : Int32 := if q = 0 then v.toInt8.toInt32 else if q = 1 then v.toInt16.toInt32 else v
def sp_put (s : ts_T) (k i v : Int32) : Int32 × ts_T := if sp_in k 0 3 = 0 then (-1, ts_s s 0 0) else if s 18 (tk k) = 0 then (-10 - 1, ts_s s 0 1) else if sp_in i 0 (s 20 (tk k) - 1) = 0 then (-10 - 3, ts_s s 0 3) else (1, ts_a (ts_s s 0 0) 21 (upd (s 21) (40 * tk k + tk i) (sp_cut (s 19 (tk k)) v)))
def sp_cell (s : ts_T) (k i q : Int32) : Int64 × ts_T := if sp_in k 0 3 = 0 then (-9223372036854775808, ts_s s 0 0) else if sp_in q 0 2 = 0 then (-9223372036854775808, ts_s s 0 0) else if s 18 (tk k) = 0 then (-9223372036854775808, ts_s s 0 1) else if s 19 (tk k) = q then (if sp_in i 0 (s 20 (tk k) - 1) = 0 then (-9223372036854775808, ts_s s 0 3) else ((s 21 (40 * tk k + tk i)).toInt64, ts_s s 0 0)) else (-9223372036854775808, ts_s s 0 2)
def sp_tr (t b : Int32) : Int32 := 31 * t + b
def sp_tell (s : ts_T) (k : Int32) : Int32 × ts_T := if sp_ix k (s 7 0) = 0 then (-1, s) else if s 15 (tk k) = 1 then (s 16 (3 * tk k) + 100, ts_s s 1 (sp_tr (sp_tr (s 1 0) 2) 1)) else if s 15 (tk k) = 2 then (2 * s 16 (3 * tk k) + 100, ts_s s 1 (sp_tr (sp_tr (sp_tr (sp_tr (s 1 0) 3) 2) 1) 1)) else (s 16 (3 * tk k), ts_s s 1 (sp_tr (s 1 0) 1))
def sp_name (s : ts_T) (k : Int32) : Int32 × ts_T := if sp_ix k (s 7 0) = 0 then (-1, s) else if s 15 (tk k) = 2 then (90, ts_s s 1 (sp_tr (s 1 0) 5)) else (k, ts_s s 1 (sp_tr (s 1 0) 4))
def sp_as (s : ts_T) (k t : Int32) : Int32 × ts_T := if sp_ix k (s 7 0) = 0 then (-1, ts_s s 0 0) else if sp_in t 0 2 = 0 then (-2, ts_s s 0 0) else if s 15 (tk k) < t then (-10 - 2, ts_s s 0 2) else (1, ts_s s 0 0)
def sp_many (s : ts_T) (q : Int32) : Int32 := if q = 0 then s 9 0 else if q = 1 then s 3 0 else if q = 2 then s 7 0 else if q = 3 then s 8 0 else if q = 4 then s 4 0 else if q = 5 then s 5 0 else if q = 6 then s 6 0 else -2
theorem tk_n {n : Nat} (h : n < 2147483648) : tk (nI n) = n := nI_clamp (by omega)
theorem tk_e {x : Int32} {n : Nat} (e : x = nI n) (h : n < 2147483648) : tk x = n := by rw [e]; exact tk_n h
theorem so_iff {s : ts_T} {k : Nat} (h : iv_s s k) : eM_so s k = -9 ↔ s 18 k = 0 := by
  unfold eM_so
  constructor
  · intro q
    split at q
    · assumption
    · obtain ⟨a, ha, e⟩ := h.2.1
      rw [e] at q
      have h3 : a = 0 ∨ a = 1 ∨ a = 2 := by omega
      rcases h3 with rfl | rfl | rfl <;> exact absurd q (by decide)
  · intro q
    rw [if_pos q]
theorem so_eq {s : ts_T} {k : Nat} (h : ¬ s 18 k = 0) : eM_so s k = s 19 k := by
  unfold eM_so
  rw [if_neg h]
/-- whether a coat with so many years of air in a sun comes back as the three cells from q on tell -/
def sp_so (s : ts_T) (k : Nat) (u y : Int32) (q : Nat) : Int32 := if sp_cm (s 15 k) (s 16 (3 * k + 0)) 0 (u * y) y (s 5 0) 0 = s 21 (q + 0) then (if sp_cm (s 15 k) (s 16 (3 * k + 1)) 1 (u * y) y (s 5 0) 0 = s 21 (q + 1) then (if sp_cm (s 15 k) (s 16 (3 * k + 2)) 2 (u * y) y (s 5 0) 0 = s 21 (q + 2) then 1 else 0) else 0) else 0
def sp_hn (p : Nat → Int32) : Nat → Int32
  | 0 => 0
  | i + 1 => if p i = 0 then sp_hn p i else sp_hn p i + 1
def sp_hl (p : Nat → Int32) : Nat → Int32
  | 0 => -9
  | i + 1 => if p i = 0 then sp_hl p i else if sp_hl p i = -9 then nI i else sp_hl p i
def sp_hm (p : Nat → Int32) : Nat → Int32
  | 0 => -9
  | i + 1 => if p i = 0 then sp_hm p i else nI i
def sp_od (p : Nat → Int32) : Nat → Int64
  | 0 => 0
  | i + 1 => if p i = 0 then sp_od p i else sp_od p i ||| ((1 : Int64) <<< ((nI i).toInt64 &&& 63))
def sp_hung (s : ts_T) (k u h q i w : Int32) : Int32 × ts_T := if sp_ix k (s 7 0) = 0 then (-1, ts_s s 0 0) else if sp_in h 0 3 = 0 then (-1, ts_s s 0 0) else if sp_in u 0 9 = 0 then (-2, ts_s s 0 0) else if sp_in w 0 2 = 0 then (-2, ts_s s 0 0) else if sp_in q 0 2 = 0 then (-2, ts_s s 0 0) else if sp_ag s (tk h) q i 3 = 0 then (if w = 0 then sp_hn (fun y => sp_so s (tk k) u (nI y) (40 * tk h + tk i)) (tk (s 4 0) + 1) else if w = 1 then sp_hl (fun y => sp_so s (tk k) u (nI y) (40 * tk h + tk i)) (tk (s 4 0) + 1) else sp_hm (fun y => sp_so s (tk k) u (nI y) (40 * tk h + tk i)) (tk (s 4 0) + 1), ts_s s 0 0) else (-10 - sp_ag s (tk h) q i 3, ts_s s 0 (sp_ag s (tk h) q i 3))
def sp_old (s : ts_T) (k u h q i : Int32) : Int64 × ts_T := if sp_ix k (s 7 0) = 0 then (-9223372036854775808, ts_s s 0 0) else if sp_in h 0 3 = 0 then (-9223372036854775808, ts_s s 0 0) else if sp_in u 0 9 = 0 then (-9223372036854775808, ts_s s 0 0) else if sp_in q 0 2 = 0 then (-9223372036854775808, ts_s s 0 0) else if sp_ag s (tk h) q i 3 = 0 then (sp_od (fun y => sp_so s (tk k) u (nI y) (40 * tk h + tk i)) 41, ts_s s 0 0) else (-9223372036854775808, ts_s s 0 (sp_ag s (tk h) q i 3))
def sp_sheet (s : ts_T) (k q n : Int32) : Int32 × ts_T := if sp_in k 0 3 = 0 then (-1, ts_s s 0 0) else if sp_in q 0 2 = 0 then (-2, ts_s s 0 0) else if 40 < n then (-2, ts_s s 0 0) else if n < 0 then (-10 - 4, ts_s s 0 4) else (1, ts_a (ts_a (ts_a (ts_a (ts_s s 0 0) 18 (upd (s 18) (tk k) 1)) 19 (upd (s 19) (tk k) q)) 20 (upd (s 20) (tk k) n)) 21 (ts_row (s 21) (tk k) (fun _ => 0)))
def ts_z (f : Nat → Int32) (a i : Nat) : Nat → Int32 := fun q => if a ≤ q ∧ q < a + i then 0 else f q
theorem ts_z_0 (f : Nat → Int32) (a : Nat) : ts_z f a 0 = f := by
  funext q
  unfold ts_z
  rw [if_neg (by omega)]
theorem ts_z_s (f : Nat → Int32) (a i : Nat) : upd (ts_z f a i) (a + i) 0 = ts_z f a (i + 1) := by
  funext q
  unfold upd ts_z
  by_cases h : q = a + i
  · rw [if_pos h, if_pos (by omega)]
  · rw [if_neg h]
    by_cases h2 : a ≤ q ∧ q < a + i
    · rw [if_pos h2, if_pos (by omega)]
    · rw [if_neg h2, if_neg (by omega)]
/-- n cells from a on go to b on, as they were -/
def ts_cp (f : Nat → Int32) (a b n : Nat) : Nat → Int32 := fun q => if b ≤ q ∧ q < b + n then f (a + (q - b)) else f q
theorem sp_ag_z {s : ts_T} {k : Nat} {q i n : Int32} (hS : iv_s s k) (h : sp_ag s k q i n = 0) : ∃ a b L : Nat, i = nI a ∧ n = nI b ∧ s 20 k = nI L ∧ L ≤ 40 ∧ a + b ≤ L ∧ tk i = a ∧ tk n = b := by
  unfold sp_ag at h
  obtain ⟨L, hL, eL⟩ := hS.2.2
  split at h
  · exact absurd h (by decide)
  split at h
  · split at h
    · exact absurd h (by decide)
    rename_i hn
    split at h
    · exact absurd h (by decide)
    rename_i hi
    obtain ⟨b, hb, rfl⟩ := nI_of hn
    obtain ⟨a, ha, rfl⟩ := nI_of hi
    split at h
    · exact absurd h (by decide)
    rename_i h3
    rw [eL, nI_ltI (by omega) ha] at h3
    split at h
    · rename_i h4
      rw [eL, pk_sub (by omega), nI_leI hb (by omega)] at h4
      exact ⟨a, b, L, rfl, rfl, eL, hL, by omega, tk_n (by omega), tk_n (by omega)⟩
    · exact absurd h (by decide)
  · exact absurd h (by decide)
theorem in_len {s : ts_T} {k : Nat} {p : Int32} (hS : iv_s s k) (h : ¬ sp_in p 0 (s 20 k - 1) = 0) : ∃ j, j < 40 ∧ p = nI j ∧ tk p = j := by
  obtain ⟨L, hL, eL⟩ := hS.2.2
  rw [eL] at h
  rcases Nat.eq_zero_or_pos L with h0 | h0
  · subst h0
    unfold sp_in at h
    split at h
    · exact absurd rfl h
    · rename_i h1
      split at h
      · exact absurd rfl h
      · rename_i h2
        obtain ⟨j, h3, rfl⟩ := nI_of h1
        exfalso
        apply h2
        show nI 0 - nI 1 < nI j
        rw [Int32.lt_iff_toInt_lt, pk_sub_toInt (by decide) (by decide), nI_toInt h3]
        omega
  · rw [show (1 : Int32) = nI 1 from rfl, pk_sub h0] at h
    obtain ⟨j, h1, h2, h3⟩ := in_in (b := L - 1) rfl h (by omega)
    exact ⟨j, by omega, h2, h3⟩
theorem eM_same21 (c : tv_c) (s r : ts_T) : eM c s r = eM c (ts_a s 21 (s 21)) r := by
  have : ts_a s 21 (s 21) = s := by
    funext a
    unfold ts_a
    split
    · rename_i h
      rw [h]
    · rfl
  rw [this]
theorem ts_id (s : ts_T) (k : Nat) : ts_a s k (s k) = s := by
  funext a
  unfold ts_a
  split
  · rename_i h
    rw [h]
  · rfl
def yr_h (s : ts_T) (p : Int32) (i : Nat) : Nat → Int32 := fun j => if j < i ∧ s 14 j = 0 then s 12 j + p * s 10 j else s 12 j
def yr_a (s : ts_T) (p : Int32) (i : Nat) : Nat → Int32 := fun j => if j < i ∧ s 14 j = 0 then s 13 j + p else s 13 j
theorem yr_h_0 (s : ts_T) (p : Int32) : yr_h s p 0 = s 12 := by funext j; unfold yr_h; rw [if_neg (by omega)]
theorem yr_a_0 (s : ts_T) (p : Int32) : yr_a s p 0 = s 13 := by funext j; unfold yr_a; rw [if_neg (by omega)]
theorem yr_h_i (s : ts_T) (p : Int32) (i : Nat) : yr_h s p i i = s 12 i := by unfold yr_h; rw [if_neg (by omega)]
theorem yr_a_i (s : ts_T) (p : Int32) (i : Nat) : yr_a s p i i = s 13 i := by unfold yr_a; rw [if_neg (by omega)]
theorem yr_h_s {s : ts_T} {p : Int32} {i : Nat} (h : s 14 i = 0) : upd (yr_h s p i) i (yr_h s p i i + p * s 10 i) = yr_h s p (i + 1) := by
  funext j
  rw [yr_h_i]
  unfold upd yr_h
  by_cases hj : j = i
  · subst hj
    rw [if_pos rfl, if_pos ⟨by omega, h⟩]
  · rw [if_neg hj]
    by_cases h2 : j < i ∧ s 14 j = 0
    · rw [if_pos h2, if_pos ⟨by omega, h2.2⟩]
    · rw [if_neg h2, if_neg (fun q => h2 ⟨by omega, q.2⟩)]
theorem yr_a_s {s : ts_T} {p : Int32} {i : Nat} (h : s 14 i = 0) : upd (yr_a s p i) i (yr_a s p i i + p) = yr_a s p (i + 1) := by
  funext j
  rw [yr_a_i]
  unfold upd yr_a
  by_cases hj : j = i
  · subst hj
    rw [if_pos rfl, if_pos ⟨by omega, h⟩]
  · rw [if_neg hj]
    by_cases h2 : j < i ∧ s 14 j = 0
    · rw [if_pos h2, if_pos ⟨by omega, h2.2⟩]
    · rw [if_neg h2, if_neg (fun q => h2 ⟨by omega, q.2⟩)]
theorem yr_h_n {s : ts_T} {p : Int32} {i : Nat} (h : ¬ s 14 i = 0) : yr_h s p i = yr_h s p (i + 1) := by
  funext j
  unfold yr_h
  by_cases hj : j = i
  · subst hj
    rw [if_neg (by omega), if_neg (fun q => h q.2)]
  · by_cases h2 : j < i ∧ s 14 j = 0
    · rw [if_pos h2, if_pos ⟨by omega, h2.2⟩]
    · rw [if_neg h2, if_neg (fun q => h2 ⟨by omega, q.2⟩)]
theorem yr_a_n {s : ts_T} {p : Int32} {i : Nat} (h : ¬ s 14 i = 0) : yr_a s p i = yr_a s p (i + 1) := by
  funext j
  unfold yr_a
  by_cases hj : j = i
  · subst hj
    rw [if_neg (by omega), if_neg (fun q => h q.2)]
  · by_cases h2 : j < i ∧ s 14 j = 0
    · rw [if_pos h2, if_pos ⟨by omega, h2.2⟩]
    · rw [if_neg h2, if_neg (fun q => h2 ⟨by omega, q.2⟩)]
def sp_years (s : ts_T) (n : Int32) : Int32 × ts_T := if sp_in n 0 40 = 0 then (-2, s) else if s 4 0 + n ≤ 40 then (if s 9 0 = 0 then (-3, s) else (s 4 0 + n, ts_s (ts_a (ts_a s 12 (yr_h s n (tk (s 9 0)))) 13 (yr_a s n (tk (s 9 0)))) 4 (s 4 0 + n))) else (-2, s)
/-- whether one of the first n is so -/
def sp_any (p : Nat → Bool) : Nat → Bool
  | 0 => false
  | n + 1 => sp_any p n || p n
theorem sp_any_t {p : Nat → Bool} {i : Nat} : ∀ {n : Nat}, i < n → p i = true → sp_any p n = true
  | 0, h, _ => absurd h (by omega)
  | n + 1, h, hp => by
    unfold sp_any
    by_cases e : i = n
    · subst e
      rw [hp, Bool.or_true]
    · rw [sp_any_t (show i < n by omega) hp, Bool.true_or]
theorem sp_any_s {p : Nat → Bool} {i : Nat} (h : sp_any p i = false) (hp : p i = false) : sp_any p (i + 1) = false := by unfold sp_any; rw [h, hp]; rfl
/-- whether the cells a, b are unlike by LINE in the light l -/
def sp_ht (s : ts_T) (a b l : Nat) : Bool := decide (s 6 0 ≤ sp_ab (sp_ln s a l 0 - sp_ln s b l 0)) || decide (s 6 0 ≤ sp_ab (sp_ln s a l 1 - sp_ln s b l 1))
def sp_ed (s : ts_T) (a b : Nat) : Int32 := if sp_any (sp_ht s a b) (tk (s 8 0)) = true then 1 else 0
def sp_rt (s : ts_T) (p : Int32) (i : Nat) : Int32 := if tk (s 3 0) - 1 ≤ i % tk (s 3 0) then 0 else if p = -9 then 1 else if p = nI i then 1 else if p = nI i + 1 then 1 else 0
def sp_dn (s : ts_T) (p : Int32) (i : Nat) : Int32 := if tk (s 2 0) - 1 ≤ i / tk (s 3 0) then 0 else if p = -9 then 1 else if p = nI i then 1 else if p = nI i + s 3 0 then 1 else 0
def sp_t1 (s : ts_T) (p : Int32) (i : Nat) : Int32 := if sp_rt s p i = 0 then 0 else if sp_ed s i (i + 1) = 0 then 0 else 1
def sp_t2 (s : ts_T) (p : Int32) (i : Nat) : Int32 := if sp_dn s p i = 0 then 0 else if sp_ed s i (i + tk (s 3 0)) = 0 then 0 else 1
def sp_sn (s : ts_T) (p : Int32) : Nat → Int32
  | 0 => 0
  | i + 1 => sp_sn s p i + sp_t1 s p i + sp_t2 s p i
def sp_seen (s : ts_T) (c : Int32) : Int32 := if c = -1 then sp_sn s (-9) (tk (s 9 0)) else if sp_ix c (s 9 0) = 0 then -1 else sp_sn s c (tk (s 9 0))
theorem sp_rt_lt {s : ts_T} {p : Int32} {i h w n : Nat} (e3 : s 3 0 = nI w) (hw : w ≤ 6) (hn : n = h * w) (hi : i < n) (q : ¬ sp_rt s p i = 0) : i + 1 < n := by
  unfold sp_rt at q
  rw [tk_e e3 (by omega)] at q
  split at q
  · exact absurd rfl q
  · rename_i h1
    subst hn
    have h2 : i % w + 1 < w := by omega
    have h3 := Nat.div_add_mod i w
    have h4 : i / w < h := Nat.div_lt_of_lt_mul (by rw [Nat.mul_comm]; exact hi)
    have h5 : w * (i / w + 1) ≤ w * h := Nat.mul_le_mul_left w h4
    rw [Nat.mul_add, Nat.mul_one] at h5
    rw [Nat.mul_comm h w]
    omega
theorem sp_dn_lt {s : ts_T} {p : Int32} {i h w n : Nat} (e2 : s 2 0 = nI h) (e3 : s 3 0 = nI w) (hh : h ≤ 4) (hw : w ≤ 6) (hn : n = h * w) (hi : i < n) (q : ¬ sp_dn s p i = 0) : i + w < n := by
  unfold sp_dn at q
  rw [tk_e e3 (by omega), tk_e e2 (by omega)] at q
  split at q
  · exact absurd rfl q
  · rename_i h1
    subst hn
    have h3 := Nat.div_add_mod i w
    have h2 : i / w + 2 ≤ h := by
      generalize i / w = d at h1
      omega
    have h6 : 0 < w := by
      rcases Nat.eq_zero_or_pos w with z | z
      · subst z
        rw [Nat.mul_zero] at hi
        omega
      · exact z
    have h4 := Nat.mod_lt i h6
    have h5 : w * (i / w + 2) ≤ w * h := Nat.mul_le_mul_left w h2
    rw [Nat.mul_add] at h5
    rw [Nat.mul_comm h w]
    generalize w * (i / w) = x at h3 h5
    omega
def sp_hb (f : Nat → Int32) : Nat → Int32 × Int32
  | 0 => (0, -1)
  | i + 1 => if f i ≤ (sp_hb f i).2 then sp_hb f i else (nI i, f i)
def sp_hide (s : ts_T) (w : Int32) : Int32 := if sp_in w 0 1 = 0 then -2 else if s 9 0 = 0 then -3 else if w = 0 then (sp_hb (fun i => sp_sn s (nI i) (tk (s 9 0))) (tk (s 9 0))).1 else (sp_hb (fun i => sp_sn s (nI i) (tk (s 9 0))) (tk (s 9 0))).2
/-- the first i places of f, the others of g -/
def ts_f (f g : Nat → Int32) (i : Nat) : Nat → Int32 := fun k => if k < i then f k else g k
theorem ts_f_0 (f g : Nat → Int32) : ts_f f g 0 = g := by funext k; unfold ts_f; rw [if_neg (by omega)]
theorem ts_f_s (f g : Nat → Int32) (i : Nat) : upd (ts_f f g i) i (f i) = ts_f f g (i + 1) := by
  funext k
  unfold upd ts_f
  by_cases h : k = i
  · subst h
    rw [if_pos rfl, if_pos (by omega)]
  · rw [if_neg h]
    by_cases h2 : k < i
    · rw [if_pos h2, if_pos (by omega)]
    · rw [if_neg h2, if_neg (by omega)]
def sp_sd (d : Nat → Int32) : Nat → Int32
  | 0 => 0
  | i + 1 => sp_sd d i + d i
def sp_dg (s : ts_T) (d : Nat → Int32) (i : Nat) : Bool := if sp_in (d i) 0 9 = 0 then false else if d i ≤ 0 then true else if sp_ix (nI i) (s 7 0) = 0 then false else true
def sp_dok (s : ts_T) (d : Nat → Int32) : Nat → Bool
  | 0 => true
  | i + 1 => sp_dok s d i && sp_dg s d i
theorem sp_dok_f {s : ts_T} {d : Nat → Int32} {i : Nat} : ∀ {n : Nat}, i < n → sp_dg s d i = false → sp_dok s d n = false
  | 0, h, _ => absurd h (by omega)
  | n + 1, h, hp => by
    unfold sp_dok
    by_cases e : i = n
    · subst e
      rw [hp, Bool.and_false]
    · rw [sp_dok_f (show i < n by omega) hp, Bool.false_and]
theorem sp_dok_s {s : ts_T} {d : Nat → Int32} {i : Nat} (h : sp_dok s d i = true) (hp : sp_dg s d i = true) : sp_dok s d (i + 1) = true := by unfold sp_dok; rw [h, hp]; rfl
/-- whether the drops are a MIX -/
def sp_ad (s : ts_T) (d : Nat → Int32) : Int32 := if sp_dok s d 4 = true then sp_in (sp_sd d 4) 1 12 else 0
def sp_mk (s : ts_T) (d : Nat → Int32) : Nat → Int32
  | 0 => -9
  | i + 1 => if sp_mk s d i = -9 then (if d i ≤ 0 then sp_mk s d i else s 15 i) else sp_mk s d i
def sp_mb (s : ts_T) (d : Nat → Int32) (b : Nat) : Int32 := (0 + d 0 * s 16 (3 * 0 + b) + d 1 * s 16 (3 * 1 + b) + d 2 * s 16 (3 * 2 + b) + d 3 * s 16 (3 * 3 + b)) / sp_sd d 4
def sp_mx (m x : Int32) : Int32 := if x ≤ m then m else x
/-- how unlike a fresh coat of kind k and bands f is to the cell j in light l -/
def sp_md (s : ts_T) (k : Int32) (f : Nat → Int32) (j l : Nat) (z : Int32) : Int32 := sp_ab (0 + sp_cm k (f 0) 0 0 0 (s 5 0) z * s 17 (3 * l + 0) + sp_cm k (f 1) 1 0 0 (s 5 0) z * s 17 (3 * l + 1) + sp_cm k (f 2) 2 0 0 (s 5 0) z * s 17 (3 * l + 2) - sp_ln s j l z)
def sp_mu (s : ts_T) (k : Int32) (f : Nat → Int32) (j : Nat) : Nat → Int32
  | 0 => 0
  | l + 1 => sp_mx (sp_mx (sp_mu s k f j l) (sp_md s k f j l 0)) (sp_md s k f j l 1)
def sp_d4 (f : Nat → Int32) (a b c d : Int32) : Nat → Int32 := upd (upd (upd (upd f 0 a) 1 b) 2 c) 3 d
def sp_mix (s : ts_T) (a b c d : Int32) : Int32 × ts_T := if sp_ad s (sp_d4 (fun _ => 0) a b c d) = 0 then (-2, s) else if s 7 0 = 6 then (-4, s) else (s 7 0 + 1 - 1, sp_add s (tk (s 7 0)) (sp_mk s (sp_d4 (fun _ => 0) a b c d) 4) (sp_mb s (sp_d4 (fun _ => 0) a b c d) 0) (sp_mb s (sp_d4 (fun _ => 0) a b c d) 1) (sp_mb s (sp_d4 (fun _ => 0) a b c d) 2))
/-- TRAITORS: the inner loop (to the end, or to the k-th), the outer one -/
def sp_tp (s : ts_T) (l o a b : Nat) : Bool := decide (sp_fu s a b l < s 6 0) && decide (s 6 0 ≤ sp_fu s a b o)
def sp_ti (s : ts_T) (l o : Nat) (k : Int32) (a : Nat) : Nat → Nat → Int32 → Int32 ⊕ Int32
  | 0, _, x => .inr x
  | m + 1, b, x => if sp_tp s l o a b = true then (if x = k then .inl (10 * nI a + nI b) else sp_ti s l o k a m (b + 1) (x + 1)) else sp_ti s l o k a m (b + 1) x
def sp_to (s : ts_T) (l o : Nat) (k : Int32) (n : Nat) : Nat → Nat → Int32 → Int32 ⊕ Int32
  | 0, _, x => .inr x
  | m + 1, a, x => match sp_ti s l o k a (n - (a + 1)) (a + 1) x with
    | .inl v => .inl v
    | .inr y => sp_to s l o k n m (a + 1) y
def sp_traitors (s : ts_T) (l o k : Int32) : Int32 := if sp_ix l (s 8 0) = 0 then -1 else if sp_ix o (s 8 0) = 0 then -1 else if -1 ≤ k then (match sp_to s (tk l) (tk o) k (tk (s 7 0)) (tk (s 7 0)) 0 0 with
    | .inl v => v
    | .inr x => if k = -1 then x else -9) else -1
theorem ad_ok {s : ts_T} {d : Nat → Int32} (h : ¬ sp_ad s d = 0) : sp_dok s d 4 = true ∧ ¬ sp_in (sp_sd d 4) 1 12 = 0 := by
  unfold sp_ad at h
  split at h
  · exact ⟨by assumption, h⟩
  · exact absurd rfl h
theorem ad_sd {s : ts_T} {d : Nat → Int32} (h : ¬ sp_ad s d = 0) : ¬ sp_sd d 4 = 0 := by
  obtain ⟨-, h2⟩ := ad_ok h
  intro e
  rw [e] at h2
  exact h2 rfl
theorem dok_at {s : ts_T} {d : Nat → Int32} : ∀ {n i : Nat}, sp_dok s d n = true → i < n → sp_dg s d i = true
  | 0, _, _, h => absurd h (by omega)
  | n + 1, i, h, hi => by
    unfold sp_dok at h
    rw [Bool.and_eq_true] at h
    by_cases e : i = n
    · subst e
      exact h.2
    · exact dok_at h.1 (by omega)
theorem dg_b {s : ts_T} {d : Nat → Int32} {i : Nat} (h : sp_dg s d i = true) : ∃ a : Nat, a ≤ 9 ∧ d i = nI a ∧ (0 < a → ¬ sp_ix (nI i) (s 7 0) = 0) := by
  unfold sp_dg at h
  split at h
  · exact absurd h (by decide)
  · rename_i h1
    obtain ⟨a, ha, e, -⟩ := in_in (b := 9) (by decide) h1
    refine ⟨a, ha, e, fun h0 => ?_⟩
    rw [e] at h
    rw [if_neg (by rw [show (0 : Int32) = nI 0 from rfl, nI_leI (by omega) (by omega)]; omega)] at h
    split at h
    · exact absurd h (by decide)
    · assumption
theorem sp_ix_0 (p : Int32) : sp_ix p 0 = 0 := by
  unfold sp_ix
  split
  · rfl
  · rename_i h
    rw [if_pos (tn_d_nlt h)]
theorem ad_z {s : ts_T} {d : Nat → Int32} (h : s 7 0 = 0) : sp_ad s d = 0 := by
  refine Classical.byContradiction fun q => ?_
  obtain ⟨h1, h2⟩ := ad_ok q
  have z : ∀ i, i < 4 → d i = 0 := by
    intro i hi
    obtain ⟨a, ha, e, hx⟩ := dg_b (dok_at h1 hi)
    rcases Nat.eq_zero_or_pos a with h0 | h0
    · rw [e, h0]
      rfl
    · exact absurd (by rw [h]; exact sp_ix_0 _) (hx h0)
  have e : sp_sd d 4 = 0 := by
    show 0 + d 0 + d 1 + d 2 + d 3 = 0
    rw [z 0 (by omega), z 1 (by omega), z 2 (by omega), z 3 (by omega)]
    rfl
  rw [e] at h2
  exact h2 rfl
/-- whether n cells from i on are there, in a row of L -/
def sp_rc (L i n : Int32) : Int32 := if i < 0 then 0 else if n < 0 then 0 else if L < i then 0 else if n ≤ L - i then 1 else 0
def sp_copy (s : ts_T) (k i o j n : Int32) : Int32 × ts_T := if sp_in k 0 3 = 0 then (-1, ts_s s 0 0) else if sp_in o 0 3 = 0 then (-1, ts_s s 0 0) else if s 18 (tk k) = 0 then (-10 - 1, ts_s s 0 1) else if s 18 (tk o) = 0 then (-10 - 1, ts_s s 0 1) else if s 19 (tk k) = s 19 (tk o) then (if sp_rc (s 20 (tk k)) i n = 0 then (-10 - 3, ts_s s 0 3) else if sp_rc (s 20 (tk o)) j n = 0 then (-10 - 3, ts_s s 0 3) else (n, ts_a (ts_s s 0 0) 21 (ts_cp (s 21) (40 * tk k + tk i) (40 * tk o + tk j) (tk n)))) else (-10 - 2, ts_s s 0 2)
theorem rc_nat {L i n : Int32} (hL : tn_b L 40) (h1 : ¬ i < 0) (h2 : ¬ n < 0) (h3 : ¬ L < i) (h4 : n ≤ L - i) : ∃ a d q : Nat, i = nI a ∧ n = nI d ∧ L = nI q ∧ q ≤ 40 ∧ a + d ≤ q ∧ tk i = a ∧ tk n = d := by
  obtain ⟨q, hq, rfl⟩ := hL
  obtain ⟨a, ha, rfl⟩ := nI_of h1
  obtain ⟨d, hd, rfl⟩ := nI_of h2
  rw [nI_ltI (by omega) ha] at h3
  rw [pk_sub (by omega), nI_leI hd (by omega)] at h4
  exact ⟨a, d, q, rfl, rfl, rfl, hq, by omega, tk_n (by omega), tk_n (by omega)⟩
theorem ts_cp_0 (f : Nat → Int32) (a b : Nat) : ts_cp f a b 0 = f := by funext q; unfold ts_cp; rw [if_neg (by omega)]
theorem ts_cp_s (f : Nat → Int32) {a b m : Nat} (h : b ≤ a ∨ a + m < b) : upd (ts_cp f a b m) (b + m) (ts_cp f a b m (a + m)) = ts_cp f a b (m + 1) := by
  have e : ts_cp f a b m (a + m) = f (a + m) := by
    unfold ts_cp
    rw [if_neg (by omega)]
  rw [e]
  funext q
  unfold upd ts_cp
  by_cases h1 : q = b + m
  · subst h1
    rw [if_pos rfl, if_pos (by omega), show b + m - b = m by omega]
  · rw [if_neg h1]
    by_cases h2 : b ≤ q ∧ q < b + m
    · rw [if_pos h2, if_pos (by omega)]
    · rw [if_neg h2, if_neg (by omega)]
/-- the last m of n cells -/
def ts_cq (f : Nat → Int32) (a b n m : Nat) : Nat → Int32 := fun q => if b + (n - m) ≤ q ∧ q < b + n then f (a + (q - b)) else f q
theorem ts_cq_0 (f : Nat → Int32) (a b n : Nat) : ts_cq f a b n 0 = f := by funext q; unfold ts_cq; rw [if_neg (by omega)]
theorem ts_cq_n (f : Nat → Int32) (a b n : Nat) : ts_cq f a b n n = ts_cp f a b n := by funext q; unfold ts_cq ts_cp; rw [Nat.sub_self, Nat.add_zero]
theorem ts_cq_s (f : Nat → Int32) {a b n m : Nat} (hm : m < n) (h : a < b ∨ b + n ≤ a) : upd (ts_cq f a b n m) (b + (n - 1 - m)) (ts_cq f a b n m (a + (n - 1 - m))) = ts_cq f a b n (m + 1) := by
  have e : ts_cq f a b n m (a + (n - 1 - m)) = f (a + (n - 1 - m)) := by
    unfold ts_cq
    rw [if_neg (by omega)]
  rw [e]
  funext q
  unfold upd ts_cq
  by_cases h1 : q = b + (n - 1 - m)
  · subst h1
    rw [if_pos rfl, if_pos (by omega), show b + (n - 1 - m) - b = n - 1 - m by omega]
  · rw [if_neg h1]
    by_cases h2 : b + (n - m) ≤ q ∧ q < b + n
    · rw [if_pos h2, if_pos (by omega)]
    · rw [if_neg h2, if_neg (by omega)]
theorem ts_ids (s : ts_T) (v : Int32) : ts_a (ts_s s 0 v) 21 (s 21) = ts_s s 0 v := ts_id (ts_s s 0 v) 21
