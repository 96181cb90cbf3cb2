/-! the best mix: the class's way of reckoning -/
theorem mx_lt (a b : Int32) : (if a < b then b else a) = sp_mx a b := by
  unfold sp_mx
  by_cases h : a < b
  · rw [if_pos h, if_neg (tn_d_lt h)]
  · rw [if_neg h, if_pos (tn_d_nlt h)]
theorem fd_md {s R : ts_T} {j l m : Nat} {z : Int32} (hm : m / 2 = l) (hz : lk_z m = z) (h4 : R 4 m = sp_ln s j (m / 2) (lk_z m)) : sp_fd s R m = sp_md s (R 6 0) (R 3) j l z := by
  unfold sp_fd
  rw [h4, hm, hz]
  rfl
theorem ff_mu {s R : ts_T} {j : Nat} : ∀ {l : Nat}, (∀ m, m < 2 * l → R 4 m = sp_ln s j (m / 2) (lk_z m)) → sp_ff s R (2 * l) = sp_mu s (R 6 0) (R 3) j l
  | 0, _ => rfl
  | l + 1, h => by
    have e0 := fd_md (l := l) (z := 0) (by omega) (lk_z0 (m := 2 * l) (by omega)).symm (h (2 * l) (by omega))
    have e1 := fd_md (l := l) (z := 1) (by omega) (lk_z1 (m := 2 * l + 1) (by omega)).symm (h (2 * l + 1) (by omega))
    show (if (if sp_ff s R (2 * l) < sp_fd s R (2 * l) then sp_fd s R (2 * l) else sp_ff s R (2 * l)) < sp_fd s R (2 * l + 1) then sp_fd s R (2 * l + 1) else (if sp_ff s R (2 * l) < sp_fd s R (2 * l) then sp_fd s R (2 * l) else sp_ff s R (2 * l))) = _
    rw [mx_lt, mx_lt, e0, e1, ff_mu (fun m hm => h m (by omega))]
    rfl
theorem br_q {i a b d : Nat} (h : i + a + b + d ≤ 6) : br (343 * i + 49 * a + 7 * b + d) = sp_d4 (fun _ => 0) (nI i) (nI a) (nI b) (nI d) := by
  unfold br
  rw [show (343 * i + 49 * a + 7 * b + d) / 343 = i by omega, show (343 * i + 49 * a + 7 * b + d) / 49 % 7 = a by omega, show (343 * i + 49 * a + 7 * b + d) / 7 % 7 = b by omega, show (343 * i + 49 * a + 7 * b + d) % 7 = d by omega]
theorem bD_q {i a b d : Nat} (h : i + a + b + d ≤ 6) : bD (343 * i + 49 * a + 7 * b + d) = i + a + b + d := by
  unfold bD
  rw [show (343 * i + 49 * a + 7 * b + d) / 343 = i by omega, show (343 * i + 49 * a + 7 * b + d) / 49 % 7 = a by omega, show (343 * i + 49 * a + 7 * b + d) / 7 % 7 = b by omega, show (343 * i + 49 * a + 7 * b + d) % 7 = d by omega]
theorem bx_dig {x : Nat} (h : x < 2401) : ∃ i a b d : Nat, i < 7 ∧ a < 7 ∧ b < 7 ∧ d < 7 ∧ x = 343 * i + 49 * a + 7 * b + d ∧ bD x = i + a + b + d := by
  have e1 : x / 343 = x / 7 / 7 / 7 := by rw [Nat.div_div_eq_div_mul, Nat.div_div_eq_div_mul]
  have e2 : x / 49 = x / 7 / 7 := by rw [Nat.div_div_eq_div_mul]
  refine ⟨x / 343, x / 49 % 7, x / 7 % 7, x % 7, by omega, by omega, by omega, by omega, ?_, rfl⟩
  rw [e1, e2]
  omega
theorem cpy_4 (f g : Nat → Int32) : ∀ i, i < 4 → va_cpy f g 0 0 4 i = f i := by
  intro i hi
  unfold va_cpy
  rw [if_pos (by omega), Nat.sub_zero, Nat.zero_add]
theorem cM_kb0 {s R : ts_T} {j l q n : Nat} (h : cM s j l (R 7 0) (R 8 0) (R 5) q) (hq : q < 2401) (hD : bD q ≤ 6) (he : ∀ k, k < 4 → R 2 k = br q k) (h4 : ∀ m, m < 2 * l → R 4 m = sp_ln s j (m / 2) (lk_z m)) (hb : ∀ p, bG s p → tn_b (bU s j l p) n) (hn : n < 1000000) (hk : ∀ k, k < 6 → tn_b (s 15 k) 2) (el : tk (s 8 0) = l) : cM s j l (mx_kb s R 7 0) (mx_kb s R 8 0) (mx_kb s R 5) (q + 1) ∧ ∀ m, m < 2 * l → mx_kb s R 4 m = sp_ln s j (m / 2) (lk_z m) := by
  by_cases ha : sp_ad s (R 2) = 0
  · have e : mx_kb s R = R := by
      unfold mx_kb
      rw [if_pos ha]
    rw [e]
    refine ⟨cM_skip h (fun x hx => ?_), h4⟩
    have hx2 := hx.2.2
    have : ¬ x = q := by
      intro z
      subst z
      exact hx2 ((dc_ad he).symm.trans ha)
    omega
  · have hg : bG s q := ⟨hq, hD, fun z => ha ((dc_ad he).trans z)⟩
    have hu : sp_ff s (mx_st s R) (2 * tk (s 8 0)) = bU s j l q := by
      rw [el, ff_mu (s := s) (R := mx_st s R) (j := j) (l := l) (fun m hm => h4 m hm)]
      show sp_mu s (s 15 (sp_li (R 2))) (upd (upd (upd (R 3) 0 (sp_mb s (R 2) 0)) 1 (sp_mb s (R 2) 1)) 2 (sp_mb s (R 2) 2)) j l = _
      rw [← mk_li ha hk]
      exact bu_M s j l q he
    have hs : sp_sd (R 2) 4 = nI (bD q) := by
      rw [dc_sd he, br_sd]
    have e : mx_kb s R = if bU s j l q < R 7 0 then ts_a (ts_s (ts_s (mx_st s R) 7 (bU s j l q)) 8 (nI (bD q))) 5 (va_cpy (R 2) (R 5) 0 0 4) else if bU s j l q = R 7 0 then (if nI (bD q) < R 8 0 then ts_a (ts_s (ts_s (mx_st s R) 7 (bU s j l q)) 8 (nI (bD q))) 5 (va_cpy (R 2) (R 5) 0 0 4) else mx_st s R) else mx_st s R := by
      unfold mx_kb
      rw [if_neg ha, hu, hs]
    have hc : ∀ i, i < 4 → va_cpy (R 2) (R 5) 0 0 4 i = br q i := fun i hi => (cpy_4 _ _ i hi).trans (he i hi)
    rw [e]
    by_cases c1 : bU s j l q < R 7 0
    · rw [if_pos c1]
      exact ⟨cM_lt h hb hg c1 hc, h4⟩
    · rw [if_neg c1]
      by_cases c2 : bU s j l q = R 7 0
      · rw [if_pos c2]
        by_cases c3 : nI (bD q) < R 8 0
        · rw [if_pos c3]
          exact ⟨cM_eq h hb hn hg c2 c3 hc, h4⟩
        · rw [if_neg c3]
          exact ⟨cM_nlt (f := R 5) h hb hn hg c1 (fun z => c3 z.2), h4⟩
      · rw [if_neg c2]
        exact ⟨cM_nlt (f := R 5) h hb hn hg c1 (fun z => c2 z.1), h4⟩
theorem cM_kb {s r : ts_T} {j l i a b d n : Nat} (h : cM s j l (r 7 0) (r 8 0) (r 5) (343 * i + 49 * a + 7 * b + d)) (hs : i + a + b + d ≤ 6) (h4 : ∀ m, m < 2 * l → r 4 m = sp_ln s j (m / 2) (lk_z m)) (hb : ∀ p, bG s p → tn_b (bU s j l p) n) (hn : n < 1000000) (hk : ∀ k, k < 6 → tn_b (s 15 k) 2) (el : tk (s 8 0) = l) : cM s j l (mx_kb s (ts_a r 2 (sp_d4 (r 2) (nI i) (nI a) (nI b) (nI d))) 7 0) (mx_kb s (ts_a r 2 (sp_d4 (r 2) (nI i) (nI a) (nI b) (nI d))) 8 0) (mx_kb s (ts_a r 2 (sp_d4 (r 2) (nI i) (nI a) (nI b) (nI d))) 5) (343 * i + 49 * a + 7 * b + (d + 1)) ∧ ∀ m, m < 2 * l → mx_kb s (ts_a r 2 (sp_d4 (r 2) (nI i) (nI a) (nI b) (nI d))) 4 m = sp_ln s j (m / 2) (lk_z m) := by
  refine cM_kb0 (q := 343 * i + 49 * a + 7 * b + d) (R := ts_a r 2 (sp_d4 (r 2) (nI i) (nI a) (nI b) (nI d))) h (by omega) ?_ ?_ h4 hb hn hk el
  · rw [bD_q hs]
    exact hs
  · rw [br_q hs]
    exact d4_0 _ _ _ _ _ _
