/-! the class's mixer -/
theorem sd_eq (d : Nat → Int32) : d 0 + d 1 + d 2 + d 3 = sp_sd d 4 := by
  show _ = 0 + d 0 + d 1 + d 2 + d 3
  rw [Int32.zero_add]
def sp_li (d : Nat → Int32) : Nat := if d 0 ≤ 0 then (if d 1 ≤ 0 then (if d 2 ≤ 0 then (if d 3 ≤ 0 then 0 else 3) else 2) else 1) else 0
theorem li_lt (d : Nat → Int32) : sp_li d < 4 := by
  unfold sp_li
  (repeat' split) <;> decide
theorem mx1 {x : Int32} {t : Nat} (e : x = nI t) (h1 : 1 ≤ t) (h2 : t ≤ 12) : (if 1 < x then x else 1) = x := by
  subst e
  by_cases h : t = 1
  · subst h
    rfl
  · rw [if_pos]
    rw [show (1 : Int32) = nI 1 from rfl]
    exact nI_lt (by omega) (by omega)
theorem ad_t {s : ts_T} {d : Nat → Int32} (h : ¬ sp_ad s d = 0) : ∃ t : Nat, 1 ≤ t ∧ t ≤ 12 ∧ sp_sd d 4 = nI t := by
  obtain ⟨h1, h2⟩ := ad_ok h
  obtain ⟨a0, b0, c0, -⟩ := dg_b (dok_at h1 (show 0 < 4 by decide))
  obtain ⟨a1, b1, c1, -⟩ := dg_b (dok_at h1 (show 1 < 4 by decide))
  obtain ⟨a2, b2, c2, -⟩ := dg_b (dok_at h1 (show 2 < 4 by decide))
  obtain ⟨a3, b3, c3, -⟩ := dg_b (dok_at h1 (show 3 < 4 by decide))
  have e : sp_sd d 4 = nI (a0 + a1 + a2 + a3) := by
    rw [← sd_eq, c0, c1, c2, c3, nI_add, nI_add, nI_add]
  refine ⟨a0 + a1 + a2 + a3, ?_, ?_, e⟩ <;> rw [e] at h2 <;> unfold sp_in at h2 <;> split at h2
  · exact absurd rfl h2
  · rename_i q
    rw [show (1 : Int32) = nI 1 from rfl, nI_ltI (by omega) (by omega)] at q
    omega
  · exact absurd rfl h2
  · split at h2
    · exact absurd rfl h2
    · rename_i q
      rw [show (12 : Int32) = nI 12 from rfl, nI_ltI (by omega) (by omega)] at q
      omega
/-- a mixed band is at most 99 -/
theorem mb_b {s : ts_T} {d : Nat → Int32} {b : Nat} (h : ¬ sp_ad s d = 0) (hB : ∀ q, q < 18 → tn_b (s 16 q) 99) (hb : b < 3) : tn_b (sp_mb s d b) 99 := by
  obtain ⟨h1, -⟩ := ad_ok h
  obtain ⟨t, t1, t2, et⟩ := ad_t h
  obtain ⟨a0, b0, c0, -⟩ := dg_b (dok_at h1 (show 0 < 4 by decide))
  obtain ⟨a1, b1, c1, -⟩ := dg_b (dok_at h1 (show 1 < 4 by decide))
  obtain ⟨a2, b2, c2, -⟩ := dg_b (dok_at h1 (show 2 < 4 by decide))
  obtain ⟨a3, b3, c3, -⟩ := dg_b (dok_at h1 (show 3 < 4 by decide))
  obtain ⟨x0, y0, z0⟩ := hB (3 * 0 + b) (by omega)
  obtain ⟨x1, y1, z1⟩ := hB (3 * 1 + b) (by omega)
  obtain ⟨x2, y2, z2⟩ := hB (3 * 2 + b) (by omega)
  obtain ⟨x3, y3, z3⟩ := hB (3 * 3 + b) (by omega)
  have e : sp_sd d 4 = nI (a0 + a1 + a2 + a3) := by
    rw [← sd_eq, c0, c1, c2, c3, nI_add, nI_add, nI_add]
  have ett : t = a0 + a1 + a2 + a3 := by
    have q := et.symm.trans e
    exact (nI_eq (by omega) (by omega)).mp q
  unfold sp_mb
  rw [et, c0, c1, c2, c3, z0, z1, z2, z3, pk_mul, pk_mul, pk_mul, pk_mul, Int32.zero_add, nI_add, nI_add, nI_add]
  have m0 : a0 * x0 ≤ a0 * 99 := Nat.mul_le_mul_left _ y0
  have m1 : a1 * x1 ≤ a1 * 99 := Nat.mul_le_mul_left _ y1
  have m2 : a2 * x2 ≤ a2 * 99 := Nat.mul_le_mul_left _ y2
  have m3 : a3 * x3 ≤ a3 * 99 := Nat.mul_le_mul_left _ y3
  rw [pk_div (by omega) (by omega) (by omega)]
  refine ⟨_, ?_, rfl⟩
  have h5 : a0 * x0 + a1 * x1 + a2 * x2 + a3 * x3 ≤ 99 * t := by omega
  exact Nat.div_le_of_le_mul (by rw [Nat.mul_comm t 99]; exact h5)
/-- the kind of the mix: that of the least coat in it -/
theorem mk_li {s : ts_T} {d : Nat → Int32} (h : ¬ sp_ad s d = 0) (hk : ∀ k, k < 6 → tn_b (s 15 k) 2) : sp_mk s d 4 = s 15 (sp_li d) := by
  have n9 : ∀ k, k < 6 → ¬ s 15 k = -9 := by
    intro k hk6 q
    obtain ⟨a, ha, e⟩ := hk k hk6
    rw [e] at q
    have h3 : a = 0 ∨ a = 1 ∨ a = 2 := by omega
    rcases h3 with rfl | rfl | rfl <;> exact absurd q (by decide)
  have key : sp_mk s d 4 = if d 0 ≤ 0 then (if d 1 ≤ 0 then (if d 2 ≤ 0 then (if d 3 ≤ 0 then -9 else s 15 3) else s 15 2) else s 15 1) else s 15 0 := by
    simp only [sp_mk, ↓reduceIte]
    by_cases h0 : d 0 ≤ 0 <;> by_cases h1 : d 1 ≤ 0 <;> by_cases h2 : d 2 ≤ 0 <;> by_cases h3 : d 3 ≤ 0 <;> simp only [h0, h1, h2, h3, ↓reduceIte, n9 0 (by decide), n9 1 (by decide), n9 2 (by decide), n9 3 (by decide)]
  rw [key]
  unfold sp_li
  by_cases h0 : d 0 ≤ 0
  · by_cases h1 : d 1 ≤ 0
    · by_cases h2 : d 2 ≤ 0
      · by_cases h3 : d 3 ≤ 0
        · exfalso
          obtain ⟨q1, -⟩ := ad_ok h
          obtain ⟨t, t1, t2, et⟩ := ad_t h
          obtain ⟨a0, b0, c0, -⟩ := dg_b (dok_at q1 (show 0 < 4 by decide))
          obtain ⟨a1, b1, c1, -⟩ := dg_b (dok_at q1 (show 1 < 4 by decide))
          obtain ⟨a2, b2, c2, -⟩ := dg_b (dok_at q1 (show 2 < 4 by decide))
          obtain ⟨a3, b3, c3, -⟩ := dg_b (dok_at q1 (show 3 < 4 by decide))
          rw [c0, show (0 : Int32) = nI 0 from rfl, nI_leI (by omega) (by omega)] at h0
          rw [c1, show (0 : Int32) = nI 0 from rfl, nI_leI (by omega) (by omega)] at h1
          rw [c2, show (0 : Int32) = nI 0 from rfl, nI_leI (by omega) (by omega)] at h2
          rw [c3, show (0 : Int32) = nI 0 from rfl, nI_leI (by omega) (by omega)] at h3
          rw [← sd_eq, c0, c1, c2, c3, nI_add, nI_add, nI_add, nI_eq (by omega) (by omega)] at et
          omega
        · simp only [h0, h1, h2, h3, ↓reduceIte]
      · simp only [h0, h1, h2, ↓reduceIte]
    · simp only [h0, h1, ↓reduceIte]
  · simp only [h0, ↓reduceIte]
/-- how far the stirred coat is from what the cell looks like, view by view -/
def sp_fd (s r : ts_T) (m : Nat) : Int32 := sp_ab (sp_lq s (r 6 0) (r 3) 0 0 (m / 2) (lk_z m) - r 4 m)
def sp_ff (s r : ts_T) : Nat → Int32
  | 0 => 0
  | m + 1 => if sp_ff s r m < sp_fd s r m then sp_fd s r m else sp_ff s r m
def mx_st (s r : ts_T) : ts_T := ts_s (ts_a r 3 (upd (upd (upd (r 3) 0 (sp_mb s (r 2) 0)) 1 (sp_mb s (r 2) 1)) 2 (sp_mb s (r 2) 2))) 6 (s 15 (sp_li (r 2)))
def mx_kb (s r : ts_T) : ts_T := if sp_ad s (r 2) = 0 then r else if sp_ff s (mx_st s r) (2 * tk (s 8 0)) < r 7 0 then ts_a (ts_s (ts_s (mx_st s r) 7 (sp_ff s (mx_st s r) (2 * tk (s 8 0)))) 8 (sp_sd (r 2) 4)) 5 (va_cpy (r 2) (r 5) 0 0 4) else if sp_ff s (mx_st s r) (2 * tk (s 8 0)) = r 7 0 then (if sp_sd (r 2) 4 < r 8 0 then ts_a (ts_s (ts_s (mx_st s r) 7 (sp_ff s (mx_st s r) (2 * tk (s 8 0)))) 8 (sp_sd (r 2) 4)) 5 (va_cpy (r 2) (r 5) 0 0 4) else mx_st s r) else mx_st s r
/-- what the cell looks like now, view by view -/
def mx_nw (s : ts_T) (f : Nat → Int32) (j m : Nat) : Nat → Int32 := fun q => if q < m then sp_ln s j (q / 2) (lk_z q) else f q
theorem mx_nw_0 (s : ts_T) (f : Nat → Int32) (j : Nat) : mx_nw s f j 0 = f := by funext q; unfold mx_nw; rw [if_neg (by omega)]
theorem mx_nw_s (s : ts_T) (f : Nat → Int32) (j m : Nat) : upd (mx_nw s f j m) m (sp_ln s j (m / 2) (lk_z m)) = mx_nw s f j (m + 1) := by
  funext q
  unfold upd mx_nw
  by_cases h : q = m
  · subst h
    rw [if_pos rfl, if_pos (by omega)]
  · rw [if_neg h]
    by_cases h2 : q < m
    · rw [if_pos h2, if_pos (by omega)]
    · rw [if_neg h2, if_neg (by omega)]
theorem ff_s {s r : ts_T} {m : Nat} {z : Int32} (hz : z = lk_z m) : (if sp_ff s r m < (if 0 ≤ sp_lq s (r 6 0) (r 3) 0 0 (m / 2) z - r 4 m then sp_lq s (r 6 0) (r 3) 0 0 (m / 2) z - r 4 m else 0 - (sp_lq s (r 6 0) (r 3) 0 0 (m / 2) z - r 4 m)) then (if 0 ≤ sp_lq s (r 6 0) (r 3) 0 0 (m / 2) z - r 4 m then sp_lq s (r 6 0) (r 3) 0 0 (m / 2) z - r 4 m else 0 - (sp_lq s (r 6 0) (r 3) 0 0 (m / 2) z - r 4 m)) else sp_ff s r m) = sp_ff s r (m + 1) := by
  rw [ab_abs, hz]
  rfl
