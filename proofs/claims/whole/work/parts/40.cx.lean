/-! a coat of the class: those of the wall (0 .. 5), the mixer's own (6) -/
def cp_p (k : Nat) : Nat := if k < 6 then 48 + k else 11
def cp_b (k : Nat) : Nat := if k < 6 then 54 + k else 12
def cp_k (s r : ts_T) (k : Nat) : Int32 := if k < 6 then s 15 k else r 6 0
def cp_v (s r : ts_T) (k b : Nat) : Int32 := if k < 6 then s 16 (3 * k + b) else r 3 b
def cp_fn (s r : ts_T) (k : Nat) : Nat → Int32 := if k < 6 then eX_bf s k else r 3
theorem cp_lt {k : Nat} (_ : k < 7) : cp_p k < 60 := by unfold cp_p; split <;> omega
theorem cb_lt {k : Nat} (_ : k < 7) : cp_b k < 60 := by unfold cp_b; split <;> omega
theorem cp_at (c : tv_c) (s r : ts_T) {k : Nat} (h : k < 7) : eX c s r (cp_p k) = .inr (1, [.ref (tv_ad c (cp_b k)), .int (cp_k s r k)]) := by
  unfold cp_p cp_b cp_k
  by_cases h6 : k < 6
  · rw [if_pos h6, if_pos h6, if_pos h6, eX_at_k c s r h6]
    rfl
  · rw [if_neg h6, if_neg h6, if_neg h6]
    rfl
theorem cb_at (c : tv_c) (s r : ts_T) {k : Nat} (h : k < 7) : eX c s r (cp_b k) = .inl (tv_kk c 0, 3, .inl (cp_fn s r k)) := by
  unfold cp_b cp_fn
  by_cases h6 : k < 6
  · rw [if_pos h6, if_pos h6, eX_at_b c s r h6]
  · rw [if_neg h6, if_neg h6]
    rfl
theorem cb_v {s r : ts_T} {k b : Nat} (h : b < 3) : cp_fn s r k b = cp_v s r k b := by
  unfold cp_fn cp_v
  by_cases h6 : k < 6
  · rw [if_pos h6, if_pos h6]
    exact if_pos h
  · rw [if_neg h6, if_neg h6]
theorem cp_ld {c : tv_c} {j : Nat} (h : j < 6) : some (tv_ad c (48 + j)) = some (tv_ad c (cp_p j)) := by unfold cp_p; rw [if_pos h]
theorem cp_k6 {s r : ts_T} {k : Nat} (h : k < 6) : cp_k s r k = s 15 k := if_pos h
theorem cp_v6 {s r : ts_T} {k b : Nat} (h : k < 6) : cp_v s r k b = s 16 (3 * k + b) := if_pos h
/-- LOOK of a coat of kind k and bands f -/
def sp_lq (s : ts_T) (k : Int32) (f : Nat → Int32) (u a : Int32) (l : Nat) (z : Int32) : Int32 := 0 + sp_cm k (f 0) 0 u a (s 5 0) z * s 17 (3 * l + 0) + sp_cm k (f 1) 1 u a (s 5 0) z * s 17 (3 * l + 1) + sp_cm k (f 2) 2 u a (s 5 0) z * s 17 (3 * l + 2)
theorem lq_lk {s r : ts_T} {j : Nat} (h : j < 6) (u a : Int32) (l : Nat) (z : Int32) : sp_lq s (cp_k s r j) (cp_v s r j) u a l z = sp_lk s j u a l z := by
  unfold sp_lq sp_lk
  rw [cp_k6 h, cp_v6 h, cp_v6 h, cp_v6 h]
theorem ls_b {k b u a m : Int32} (hb : tn_b b 2) (hu : tn_b u 720) (ha : tn_b a 80) (hm : tn_b m 9) : tn_b (sp_ls k b u a m) 360 := by
  have h1 : tn_b (u * (b + 1) / 10 + a * m / 5) 360 := by
    have e1 := (hu.mul (hb.add (⟨1, Nat.le_refl 1, rfl⟩ : tn_b 1 1))).div 10 (by decide) (by decide) (by decide)
    have e2 := (ha.mul hm).div 5 (by decide) (by decide) (by decide)
    exact (e1.add e2).mono (by decide)
  unfold sp_ls
  split
  · exact (h1.div 2 (by decide) (by decide) (by decide)).mono (by decide)
  · exact h1
/-- what the class reckons is what the reference does -/
theorem cx_cm {k i b u a m z : Int32} (hi : tn_b i 99) (hl : tn_b (sp_ls k b u a m) 360) : (if z = 0 then (if 0 < i - sp_ls k b u a m then i - sp_ls k b u a m else 0) else if k < 1 then (if 0 < i - sp_ls k b u a m then i - sp_ls k b u a m else 0) else (if 0 < i - sp_ls k b u a m then i - sp_ls k b u a m else 0) + 5) = sp_cm k i b u a m z := by
  unfold sp_cm
  obtain ⟨x, hx, ei⟩ := hi
  obtain ⟨y, hy, el⟩ := hl
  have e : (if 0 < i - sp_ls k b u a m then i - sp_ls k b u a m else 0) = (if sp_ls k b u a m ≤ i then i - sp_ls k b u a m else 0) := by
    rw [ei, el]
    by_cases h : y ≤ x
    · rw [if_pos (nI_le h (by omega)), pk_sub h]
      by_cases h0 : x - y = 0
      · rw [h0]
        rfl
      · rw [if_pos (by rw [show (0 : Int32) = nI 0 from rfl]; exact nI_lt (by omega) (by omega))]
    · rw [if_neg (nI_ge (by omega) (by omega)), if_neg]
      intro q
      exact tn_d_lt q (by
        have := pk_sneg (a := x) (b := y) (by omega) (by omega)
        rw [Int32.le_iff_toInt_le]
        rw [Int32.lt_iff_toInt_lt] at this
        omega)
  rw [e]
  by_cases hz : z = 0
  · rw [if_pos hz]
    by_cases hk : k ≤ 0
    · rw [if_pos hk]
    · rw [if_neg hk, if_pos hz]
  · rw [if_neg hz]
    have hk1 : k < 1 ↔ k ≤ 0 := by
      rw [Int32.lt_iff_toInt_lt, Int32.le_iff_toInt_le]
      show k.toInt < 1 ↔ k.toInt ≤ 0
      omega
    by_cases hk : k ≤ 0
    · rw [if_pos (hk1.mpr hk), if_pos hk]
    · rw [if_neg (fun q => hk (hk1.mp q)), if_neg hk, if_neg hz]
theorem ab_abs (x : Int32) : (if 0 ≤ x then x else 0 - x) = sp_ab x := by
  unfold sp_ab
  rw [Int32.zero_sub]
