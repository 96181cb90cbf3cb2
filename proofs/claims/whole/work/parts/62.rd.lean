/-! the reference's reading of a TEXT -/
def sp_dv (s : ts_T) (a e : Nat) (p q : Int32) : Int32 := if e ≤ a then -9 else if sp_in (s 21 a) (48 + p) (48 + q) = 0 then -9 else s 21 a - 48
def sp_dr (s r : ts_T) (a e : Nat) (p q : Int32) : ts_T := if e ≤ a then r else if sp_in (s 21 a) (48 + p) (48 + q) = 0 then r else ts_s r 0 (r 0 0 + 1)
theorem dv_ok {s r : ts_T} {a e : Nat} {p q : Int32} (h : ¬ sp_dv s a e p q = -9) : a < e ∧ ¬ sp_in (s 21 a) (48 + p) (48 + q) = 0 ∧ sp_dv s a e p q = s 21 a - 48 ∧ sp_dr s r a e p q = ts_s r 0 (r 0 0 + 1) := by
  unfold sp_dv at h ⊢
  unfold sp_dr
  split at h
  · exact absurd rfl h
  · rename_i h1
    split at h
    · exact absurd rfl h
    · rename_i h2
      rw [if_neg h1, if_neg h2, if_neg h1, if_neg h2]
      exact ⟨by omega, h2, rfl, rfl⟩
theorem dv_no {s r : ts_T} {a e x y : Nat} {p q : Int32} (ex : 48 + p = nI x) (ey : 48 + q = nI y) (hx : 48 ≤ x) (hx2 : x < 100) (hy : y < 100) (h : sp_dv s a e p q = -9) : (e ≤ a ∨ sp_in (s 21 a) (48 + p) (48 + q) = 0) ∧ sp_dr s r a e p q = r := by
  unfold sp_dv at h
  unfold sp_dr
  split at h
  · rename_i h1
    rw [if_pos h1]
    exact ⟨Or.inl h1, rfl⟩
  · rename_i h1
    split at h
    · rename_i h2
      rw [if_neg h1, if_pos h2]
      exact ⟨Or.inr h2, rfl⟩
    · rename_i h2
      rw [ex, ey] at h2
      obtain ⟨d, d1, d2, d3, d4, d5⟩ := dig h2 hx hx2 hy
      rw [d3] at h
      exact absurd h (nI_n9 (by omega))
theorem dv_st {s r : ts_T} {a e : Nat} {p q v : Int32} (k : Nat) (hk : k ≠ 0) {d : Nat} (h : ¬ sp_dv s a e p q = -9) (hv : v = nI a) (hd : s 21 a - 48 = nI d) : ts_s (sp_dr s (ts_s r 0 v) a e p q) k (sp_dv s a e p q) = ts_s (ts_s r 0 (nI (a + 1))) k (nI d) := by
  obtain ⟨h1, h2, h3, h4⟩ := dv_ok (r := ts_s r 0 v) h
  rw [h4, h3, hd]
  show ts_s (ts_s (ts_s r 0 v) 0 (v + 1)) k (nI d) = _
  rw [ts_ss, hv, nI_1]
theorem fw_1 {f : Nat → Int32} {n : Nat} (h0 : f 0 = 119) (h1 : 1 ≤ n) (h : n ≤ 1 ∨ sp_in (f 1) 49 52 = 0) : fw f n = some 1 := by
  unfold fw
  rw [if_neg (by omega), if_pos h0]
  by_cases q : n < 2
  · rw [if_pos q]
  · rw [if_neg q, if_pos (h.resolve_left (by omega))]
theorem fw_2 {f : Nat → Int32} {n : Nat} (h0 : f 0 = 119) (h1 : 2 ≤ n) (h2 : ¬ sp_in (f 1) 49 52 = 0) (h : n ≤ 2 ∨ sp_in (f 2) 50 54 = 0) : fw f n = some 2 := by
  unfold fw
  rw [if_neg (by omega), if_pos h0, if_neg (by omega), if_neg h2]
  by_cases q : n < 3
  · rw [if_pos q]
  · rw [if_neg q, if_pos (h.resolve_left (by omega))]
theorem fw_3 {f : Nat → Int32} {n a b : Nat} (h0 : f 0 = 119) (h1 : 3 ≤ n) (h2 : ¬ sp_in (f 1) 49 52 = 0) (h3 : ¬ sp_in (f 2) 50 54 = 0) (ha : f 1 - 48 = nI a) (hb : f 2 - 48 = nI b) (a4 : a ≤ 4) (b6 : b ≤ 6) : fw f n = fw_r f n a b := by
  unfold fw
  rw [if_neg (by omega), if_pos h0, if_neg (by omega), if_neg h2, if_neg (by omega), if_neg h3, tk_e ha (by omega), tk_e hb (by omega)]
theorem fit_0 {f : Nat → Int32} {w i : Nat} : fw_fit f w (i * (w + 1)) = decide (f (3 + i * (w + 1)) = 59) := by
  unfold fw_fit
  rw [if_pos (Nat.mul_mod_left i (w + 1))]
theorem fit_m {f : Nat → Int32} {w i m : Nat} (hm : m < w) : fw_fit f w (i * (w + 1) + 1 + m) = decide (¬ sp_in (f (3 + (i * (w + 1) + 1 + m))) 48 57 = 0) := by
  unfold fw_fit
  rw [if_neg]
  rw [Nat.add_assoc, Nat.mul_comm, Nat.mul_add_mod, Nat.mod_eq_of_lt (by omega)]
  omega
def rd_p (s : ts_T) (A N : Nat) (z : Int32) (r' : ts_T) : Prop := (z = 0 ∧ ∃ p, fw (fun q => s 21 (A + q)) N = some p ∧ r' 0 0 = nI (A + p)) ∨ (z = 1 ∧ fw (fun q => s 21 (A + q)) N = none ∧ ∃ h w : Nat, h ≤ 4 ∧ w ≤ 6 ∧ s 21 (A + 1) - 48 = nI h ∧ s 21 (A + 2) - 48 = nI w ∧ r' 1 0 = nI h ∧ r' 2 0 = nI w ∧ ∀ c, c < h * w → r' 3 c = fw_sun (fun q => s 21 (A + q)) w c)
theorem sun_s {f g : Nat → Int32} {w i m : Nat} {x : Int32} (hm : m < w) (h : ∀ c, c < i * w + m → g c = fw_sun f w c) (hx : x = f (3 + (i * (w + 1) + 1 + m)) - 48) : ∀ c, c < i * w + (m + 1) → upd g (w * i + m) x c = fw_sun f w c := by
  intro c hc
  unfold upd
  rw [Nat.mul_comm w i]
  by_cases e : c = i * w + m
  · rw [if_pos e, e, fs_at hm]
    exact hx
  · rw [if_neg e]
    exact h c (by omega)
