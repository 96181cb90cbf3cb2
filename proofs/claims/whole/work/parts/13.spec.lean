/-! what the calls answer, and the state behind them: the same words for the class and for the reference -/
def sp_ofCell (s : ts_T) (c q : Int32) : Int32 := if sp_ix c (s 9 0) = 0 then -1 else if q = 0 then s 10 (tk c) else if q = 1 then s 11 (tk c) else if q = 2 then s 12 (tk c) else if q = 3 then s 13 (tk c) else if q = 4 then (if s 14 (tk c) = 0 then 0 else 1) else -2
def sp_set (s : ts_T) (q v : Int32) : Int32 × ts_T := if sp_in q 0 1 = 0 then (-2, s) else if sp_in v 0 (if q = 0 then 9 else 999) = 0 then (-2, s) else if s 9 0 = 0 then (-3, s) else if q = 0 then (s 5 0, ts_s s 5 v) else (s 6 0, ts_s s 6 v)
def sp_hang (s : ts_T) (c z : Int32) : Int32 × ts_T := if sp_ix c (s 9 0) = 0 then (-1, s) else (if s 14 (tk c) = z then 0 else 1, ts_a s 14 (upd (s 14) (tk c) z))
def sp_add (s : ts_T) (k : Nat) (t a b c : Int32) : ts_T := ts_s (ts_a (ts_a s 15 (upd (s 15) k t)) 16 (upd (upd (upd (s 16) (3 * k) a) (3 * k + 1) b) (3 * k + 2) c)) 7 (s 7 0 + 1)
def sp_coat (s : ts_T) (t a b c : Int32) : Int32 × ts_T := if sp_in t 0 2 = 0 then (-2, s) else if sp_in a 0 99 = 0 then (-2, s) else if sp_in b 0 99 = 0 then (-2, s) else if sp_in c 0 99 = 0 then (-2, s) else if s 9 0 = 0 then (-3, s) else if s 7 0 = 6 then (-4, s) else (s 7 0 + 1 - 1, sp_add s (tk (s 7 0)) t a b c)
def sp_ofCoat (s : ts_T) (k q : Int32) : Int32 := if sp_ix k (s 7 0) = 0 then -1 else if q = -1 then s 15 (tk k) else if sp_in q 0 2 = 0 then -2 else s 16 (3 * tk k + tk q)
def sp_paint (s : ts_T) (c k : Int32) : Int32 × ts_T := if sp_ix c (s 9 0) = 0 then (-1, s) else if sp_ix k (s 7 0) = 0 then (-1, s) else (s 11 (tk c), ts_a (ts_a (ts_a s 11 (upd (s 11) (tk c) k)) 12 (upd (s 12) (tk c) 0)) 13 (upd (s 13) (tk c) 0))
def sp_back (s : ts_T) (c b z : Int32) : Int32 := if sp_ix c (s 9 0) = 0 then -1 else if sp_in b 0 2 = 0 then -2 else sp_cm (s 15 (tk (s 11 (tk c)))) (s 16 (3 * tk (s 11 (tk c)) + tk b)) b (s 12 (tk c)) (s 13 (tk c)) (s 5 0) z
def sp_light (s : ts_T) (a b c : Int32) : Int32 × ts_T := if sp_in a 0 9 = 0 then (-2, s) else if sp_in b 0 9 = 0 then (-2, s) else if sp_in c 0 9 = 0 then (-2, s) else if s 9 0 = 0 then (-3, s) else if s 8 0 = 4 then (-4, s) else (s 8 0 + 1 - 1, ts_s (ts_a s 17 (upd (upd (upd (s 17) (3 * tk (s 8 0)) a) (3 * tk (s 8 0) + 1) b) (3 * tk (s 8 0) + 2) c)) 8 (s 8 0 + 1))
/-- LOOK of the cell j now -/
def sp_ln (s : ts_T) (j l : Nat) (z : Int32) : Int32 := sp_lk s (tk (s 11 j)) (s 12 j) (s 13 j) l z
def sp_look (s : ts_T) (c l z : Int32) : Int32 := if sp_ix c (s 9 0) = 0 then -1 else if sp_ix l (s 8 0) = 0 then -1 else sp_ln s (tk c) (tk l) z
def sp_unlike (s : ts_T) (c o l z : Int32) : Int32 := if sp_ix c (s 9 0) = 0 then -1 else if sp_ix o (s 9 0) = 0 then -1 else if sp_ix l (s 8 0) = 0 then -1 else sp_ab (sp_ln s (tk c) (tk l) z - sp_ln s (tk o) (tk l) z)
/-- how far two fresh coats are apart -/
def sp_fu (s : ts_T) (k j l : Nat) : Int32 := sp_ab (sp_lk s k 0 0 l 0 - sp_lk s j 0 0 l 0)
def sp_on (s : ts_T) (c l n : Int32) : Int32 := if sp_ix c (s 9 0) = 0 then -1 else if sp_ix l (s 8 0) = 0 then -1 else if sp_in n 0 40 = 0 then -2 else if s 14 (tk c) = 0 then sp_lk s (tk (s 11 (tk c))) (s 12 (tk c) + n * s 10 (tk c)) (s 13 (tk c) + n) (tk l) 0 else sp_lk s (tk (s 11 (tk c))) (s 12 (tk c) + 0 * s 10 (tk c)) (s 13 (tk c) + 0) (tk l) 0
def sp_lose (s : ts_T) (k : Int32) : Int32 × ts_T := if sp_in k 0 3 = 0 then (-1, s) else (if s 18 (tk k) = 0 then 0 else 1, ts_a s 18 (upd (s 18) (tk k) 0))
/-- the fault of cells taken as a row of a sort -/
def sp_ag (s : ts_T) (k : Nat) (q i n : Int32) : Int32 := if s 18 k = 0 then 1 else if s 19 k = q then (if n < 0 then 4 else if i < 0 then 3 else if s 20 k < i then 3 else if s 20 k - i < n then 3 else 0) else 2
def sp_cut (q v : Int32) : Int32 := if q = 0 then v.toInt8.toInt32 else if q = 1 then v.toInt16.toInt32 else v
def sp_put (s : ts_T) (k i v : Int32) : Int32 × ts_T := if sp_in k 0 3 = 0 then (-1, ts_s s 0 0) else if s 18 (tk k) = 0 then (-10 - 1, ts_s s 0 1) else if sp_in i 0 (s 20 (tk k) - 1) = 0 then (-10 - 3, ts_s s 0 3) else (1, ts_a (ts_s s 0 0) 21 (upd (s 21) (40 * tk k + tk i) (sp_cut (s 19 (tk k)) v)))
def sp_cell (s : ts_T) (k i q : Int32) : Int64 × ts_T := if sp_in k 0 3 = 0 then (-9223372036854775808, ts_s s 0 0) else if sp_in q 0 2 = 0 then (-9223372036854775808, ts_s s 0 0) else if s 18 (tk k) = 0 then (-9223372036854775808, ts_s s 0 1) else if s 19 (tk k) = q then (if sp_in i 0 (s 20 (tk k) - 1) = 0 then (-9223372036854775808, ts_s s 0 3) else ((s 21 (40 * tk k + tk i)).toInt64, ts_s s 0 0)) else (-9223372036854775808, ts_s s 0 2)
def sp_tr (t b : Int32) : Int32 := 31 * t + b
def sp_tell (s : ts_T) (k : Int32) : Int32 × ts_T := if sp_ix k (s 7 0) = 0 then (-1, s) else if s 15 (tk k) = 1 then (s 16 (3 * tk k) + 100, ts_s s 1 (sp_tr (sp_tr (s 1 0) 2) 1)) else if s 15 (tk k) = 2 then (2 * s 16 (3 * tk k) + 100, ts_s s 1 (sp_tr (sp_tr (sp_tr (sp_tr (s 1 0) 3) 2) 1) 1)) else (s 16 (3 * tk k), ts_s s 1 (sp_tr (s 1 0) 1))
def sp_name (s : ts_T) (k : Int32) : Int32 × ts_T := if sp_ix k (s 7 0) = 0 then (-1, s) else if s 15 (tk k) = 2 then (90, ts_s s 1 (sp_tr (s 1 0) 5)) else (k, ts_s s 1 (sp_tr (s 1 0) 4))
def sp_as (s : ts_T) (k t : Int32) : Int32 × ts_T := if sp_ix k (s 7 0) = 0 then (-1, ts_s s 0 0) else if sp_in t 0 2 = 0 then (-2, ts_s s 0 0) else if s 15 (tk k) < t then (-10 - 2, ts_s s 0 2) else (1, ts_s s 0 0)
def sp_many (s : ts_T) (q : Int32) : Int32 := if q = 0 then s 9 0 else if q = 1 then s 3 0 else if q = 2 then s 7 0 else if q = 3 then s 8 0 else if q = 4 then s 4 0 else if q = 5 then s 5 0 else if q = 6 then s 6 0 else -2
theorem tk_n {n : Nat} (h : n < 2147483648) : tk (nI n) = n := nI_clamp (by omega)
theorem tk_e {x : Int32} {n : Nat} (e : x = nI n) (h : n < 2147483648) : tk x = n := by rw [e]; exact tk_n h
