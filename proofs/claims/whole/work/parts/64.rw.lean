/-! the reference's reading of a TEXT: its ends -/
theorem rd_0l {s r : ts_T} {A N : Nat} (ea : r 0 0 = nI A) (h : N < 1) : rd_p s A N 0 r := by
  refine Or.inl ⟨rfl, 0, ?_, ea⟩
  unfold fw
  rw [if_pos h]
theorem rd_0r {s r : ts_T} {A N : Nat} (ea : r 0 0 = nI A) (h : ¬ s 21 A = 119) : rd_p s A N 0 r := by
  refine Or.inl ⟨rfl, 0, ?_, ea⟩
  unfold fw
  by_cases q : N < 1
  · rw [if_pos q]
  · rw [if_neg q]
    exact if_neg h
theorem dv_ok1 {s : ts_T} {a e : Nat} (h : ¬ sp_dv s a e 1 4 = -9) : a < e ∧ ¬ sp_in (s 21 a) 49 52 = 0 := by
  obtain ⟨h1, h2, -⟩ := dv_ok (r := s) h
  rw [show (48 : Int32) + 1 = 49 by decide, show (48 : Int32) + 4 = 52 by decide] at h2
  exact ⟨h1, h2⟩
theorem dv_ok2 {s : ts_T} {a e : Nat} (h : ¬ sp_dv s a e 2 6 = -9) : a < e ∧ ¬ sp_in (s 21 a) 50 54 = 0 := by
  obtain ⟨h1, h2, -⟩ := dv_ok (r := s) h
  rw [show (48 : Int32) + 2 = 50 by decide, show (48 : Int32) + 6 = 54 by decide] at h2
  exact ⟨h1, h2⟩
theorem dv_ok3 {s : ts_T} {a e : Nat} (h : ¬ sp_dv s a e 0 9 = -9) : a < e ∧ ¬ sp_in (s 21 a) 48 57 = 0 ∧ sp_dv s a e 0 9 = s 21 a - 48 := by
  obtain ⟨h1, h2, h3, -⟩ := dv_ok (r := s) h
  rw [show (48 : Int32) + 0 = 48 by decide, show (48 : Int32) + 9 = 57 by decide] at h2
  exact ⟨h1, h2, h3⟩
theorem rd_1 {s r : ts_T} {A N : Nat} {x : Int32} (ea : r 0 0 = nI A) (h0 : s 21 A = 119) (hN : 1 ≤ N) (h : sp_dv s (A + 1) (A + N) 1 4 = -9) : rd_p s A N 0 (ts_s (sp_dr s (ts_s r 0 ((r 0 0) + 1)) (A + 1) (A + N) 1 4) 1 x) := by
  obtain ⟨h1, h2⟩ := dv_no (r := ts_s r 0 ((r 0 0) + 1)) (x := 49) (y := 52) (by decide) (by decide) (by decide) (by decide) (by decide) h
  rw [h2]
  rw [show (48 : Int32) + 1 = 49 by decide, show (48 : Int32) + 4 = 52 by decide] at h1
  refine Or.inl ⟨rfl, 1, fw_1 (f := fun q => s 21 (A + q)) h0 hN ?_, ?_⟩
  · rcases h1 with h1 | h1
    · exact Or.inl (by omega)
    · exact Or.inr h1
  · show r 0 0 + 1 = nI (A + 1)
    rw [ea, nI_1]
theorem rd_2 {s r : ts_T} {A N th : Nat} {x : Int32} (h0 : s 21 A = 119) (h1 : A + 1 < A + N) (h2 : ¬ sp_in (s 21 (A + 1)) 49 52 = 0) (h : sp_dv s (A + 1 + 1) (A + N) 2 6 = -9) : rd_p s A N 0 (ts_s (sp_dr s (ts_s (ts_s r 0 (nI (A + 1 + 1))) 1 (nI th)) (A + 1 + 1) (A + N) 2 6) 2 x) := by
  obtain ⟨h3, h4⟩ := dv_no (r := ts_s (ts_s r 0 (nI (A + 1 + 1))) 1 (nI th)) (x := 50) (y := 54) (by decide) (by decide) (by decide) (by decide) (by decide) h
  rw [h4]
  rw [show (48 : Int32) + 2 = 50 by decide, show (48 : Int32) + 6 = 54 by decide] at h3
  refine Or.inl ⟨rfl, 2, fw_2 (f := fun q => s 21 (A + q)) h0 (by omega) h2 ?_, rfl⟩
  rcases h3 with h3 | h3
  · exact Or.inl (by omega)
  · exact Or.inr h3
theorem dv_st2 {s R : ts_T} {a e tw : Nat} {v : Int32} (h : ¬ sp_dv s a e 2 6 = -9) (hv : R 0 0 = nI a) (hd : s 21 a - 48 = nI tw) : ts_s (sp_dr s R a e 2 6) 2 (sp_dv s a e 2 6) = ts_s (ts_s R 0 (nI (a + 1))) 2 (nI tw) := by
  obtain ⟨h1, h2, h3, h4⟩ := dv_ok (r := R) h
  rw [h4, h3, hd, hv, nI_1]
theorem dv_st3 {s R : ts_T} {a e : Nat} (h : ¬ sp_dv s a e 0 9 = -9) (hv : R 0 0 = nI a) : sp_dr s R a e 0 9 = ts_s R 0 (nI (a + 1)) := by
  obtain ⟨h1, h2, h3, h4⟩ := dv_ok (r := R) h
  rw [h4, hv, nI_1]
theorem rd_f {s r : ts_T} {A N th tw q : Nat} (f3 : fw (fun q => s 21 (A + q)) N = fw_r (fun q => s 21 (A + q)) N th tw) (h1 : ∀ i, i < q → fw_ok (fun q => s 21 (A + q)) N tw i = true) (h2 : fw_ok (fun q => s 21 (A + q)) N tw q = false) (hq : q < th * (tw + 1)) (e : r 0 0 = nI (A + (3 + q))) : rd_p s A N 0 r :=
  Or.inl ⟨rfl, 3 + q, f3.trans (fw_r_at h1 h2 hq), e⟩
theorem rd_fd {s r : ts_T} {A N th tw i m : Nat} (hm : m < tw) (f3 : fw (fun q => s 21 (A + q)) N = fw_r (fun q => s 21 (A + q)) N th tw) (h1 : ∀ q, q < i * (tw + 1) + 1 + m → fw_ok (fun q => s 21 (A + q)) N tw q = true) (hq : i * (tw + 1) + 1 + m < th * (tw + 1)) (e : r 0 0 = nI (A + (3 + (i * (tw + 1) + 1 + m)))) (h : sp_dv s (A + (3 + (i * (tw + 1) + 1 + m))) (A + N) 0 9 = -9) : rd_p s A N 0 (sp_dr s r (A + (3 + (i * (tw + 1) + 1 + m))) (A + N) 0 9) := by
  obtain ⟨h3, h4⟩ := dv_no (r := r) (x := 48) (y := 57) (by decide) (by decide) (by decide) (by decide) (by decide) h
  rw [h4]
  rw [show (48 : Int32) + 0 = 48 by decide, show (48 : Int32) + 9 = 57 by decide] at h3
  refine rd_f f3 h1 ?_ hq e
  rcases h3 with h3 | h3
  · exact ok_f1 (by omega)
  · refine ok_f2 ?_
    rw [fit_m hm]
    exact decide_eq_false (fun z => z h3)
theorem rd_e {s r : ts_T} {A N th tw : Nat} {z : Int32} (f3 : fw (fun q => s 21 (A + q)) N = fw_r (fun q => s 21 (A + q)) N th tw) (h1 : ∀ q, q < th * (tw + 1) → fw_ok (fun q => s 21 (A + q)) N tw q = true) (t1 : 1 ≤ th) (e : r 0 0 = nI (A + (3 + th * (tw + 1)))) (hz : (z = 1 ∧ A + (3 + th * (tw + 1)) = A + N) ∨ (z = 0 ∧ ¬ A + (3 + th * (tw + 1)) = A + N)) (h4 : th ≤ 4) (w6 : tw ≤ 6) (eh : s 21 (A + 1) - 48 = nI th) (ew : s 21 (A + 1 + 1) - 48 = nI tw) (g1 : r 1 0 = nI th) (g2 : r 2 0 = nI tw) (g4 : ∀ c, c < th * tw → r 3 c = fw_sun (fun q => s 21 (A + q)) tw c) : rd_p s A N z r := by
  have hT : 1 ≤ th * (tw + 1) := Nat.mul_pos t1 (by omega)
  have hl := h1 (th * (tw + 1) - 1) (by omega)
  unfold fw_ok at hl
  rw [Bool.and_eq_true] at hl
  have hlt := of_decide_eq_true hl.1
  rcases hz with ⟨rfl, hz⟩ | ⟨rfl, hz⟩
  · refine Or.inr ⟨rfl, ?_, th, tw, h4, w6, eh, ew, g1, g2, g4⟩
    rw [f3, fw_r_end h1, if_neg (by omega)]
  · refine Or.inl ⟨rfl, 3 + th * (tw + 1), ?_, e⟩
    rw [f3, fw_r_end h1, if_pos (by omega)]
theorem rd_z {s r : ts_T} {A N : Nat} {z : Int32} (h : rd_p s A N z r) (hz : z = 0) : ∃ p, fw (fun q => s 21 (A + q)) N = some p ∧ r 0 0 = nI (A + p) := by
  rcases h with h | h
  · exact h.2
  · rw [h.1] at hz
    exact absurd hz (by decide)
theorem rd_n {s r : ts_T} {A N : Nat} {z : Int32} (h : rd_p s A N z r) (hz : ¬ z = 0) : fw (fun q => s 21 (A + q)) N = none ∧ ∃ h w : Nat, h ≤ 4 ∧ w ≤ 6 ∧ s 21 (A + 1) - 48 = nI h ∧ s 21 (A + 2) - 48 = nI w ∧ r 1 0 = nI h ∧ r 2 0 = nI w ∧ ∀ c, c < h * w → r 3 c = fw_sun (fun q => s 21 (A + q)) w c := by
  rcases h with h | h
  · exact absurd h.1 hz
  · exact h.2
theorem rd_b {s r : ts_T} {A N : Nat} {z : Int32} (h : rd_p s A N z r) : z = 0 ∨ z = 1 := by
  rcases h with h | h
  · exact Or.inl h.1
  · exact Or.inr h.1
theorem eM_9 (c : tv_c) (s r : ts_T) (x : Int32) : eM c (ts_s s 9 x) r = eM c s r := by
  funext k
  rfl
theorem wf_0 {s : ts_T} {k : Nat} {q i n : Int32} (h : sp_wf s k q i n = 0) : ¬ sp_rc (s 20 k) i n = 0 := by
  unfold sp_wf at h
  split at h
  · split at h
    · exact absurd h (by decide)
    · split at h
      · exact absurd h (by decide)
      · assumption
  · rename_i h1
    exact absurd h h1
theorem ok_lt {f : Nat → Int32} {n w q : Nat} (h : fw_ok f n w q = true) : 3 + q < n := by
  unfold fw_ok at h
  rw [Bool.and_eq_true] at h
  exact of_decide_eq_true h.1
