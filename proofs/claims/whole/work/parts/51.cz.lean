theorem st_mb {s r : ts_T} (h : ¬ sp_ad s (r 2) = 0) (hB : ∀ q, q < 18 → tn_b (s 16 q) 99) : ∀ b, b < 3 → tn_b (cp_v s (mx_st s r) 6 b) 99 := by
  intro b hb
  have h3 : b = 0 ∨ b = 1 ∨ b = 2 := by omega
  rcases h3 with rfl | rfl | rfl
  · exact mb_b h hB (by decide)
  · exact mb_b h hB (by decide)
  · exact mb_b h hB (by decide)
theorem cpX_f {s : ts_T} {k o a b d : Nat} (ho : b + d ≤ 40) : va_cpy (eX_rf s k) (eX_rf s o) a b d = fun i => if i < 40 then va_cpy (eX_rf s k) (eX_rf s o) a b d i else 0 := by
  funext i
  by_cases h : i < 40
  · rw [if_pos h]
  · rw [if_neg h]
    unfold va_cpy
    rw [if_neg (by omega)]
    unfold eX_rf
    rw [if_neg h]
theorem cpX_r {s : ts_T} {k o a b d : Nat} (hk : a + d ≤ 40) (ho : b + d ≤ 40) : ts_row (s 21) o (va_cpy (eX_rf s k) (eX_rf s o) a b d) = ts_cp (s 21) (40 * k + a) (40 * o + b) d := by
  funext q
  unfold ts_row ts_cp
  by_cases h : 40 * o ≤ q ∧ q < 40 * o + 40
  · rw [if_pos h]
    unfold va_cpy
    by_cases h2 : b ≤ q - 40 * o ∧ q - 40 * o < b + d
    · rw [if_pos h2, if_pos (by omega)]
      unfold eX_rf
      rw [if_pos (by omega)]
      congr 1
      omega
    · rw [if_neg h2, if_neg (by omega)]
      unfold eX_rf
      rw [if_pos (by omega)]
      congr 1
      omega
  · rw [if_neg h, if_neg (by omega)]
theorem cpX (c : tv_c) (s r : ts_T) (k : Nat) {o a b d : Nat} (ho4 : o < 4) (hk : a + d ≤ 40) (ho : b + d ≤ 40) : va_up (eX c s r) (20 + o) (.inl (tv_kk c 0, 40, .inl (va_cpy (eX_rf s k) (eX_rf s o) a b d))) = eX c (ts_a s 21 (ts_cp (s 21) (40 * k + a) (40 * o + b) d)) r := by
  rw [cpX_f ho, eX_u_r_all c s r ho4, cpX_r hk ho]
