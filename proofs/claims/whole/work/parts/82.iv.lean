/-! what always holds is kept by every call -/
theorem iv_0 {s : ts_T} (v : Int32) (hI : iv s) : iv (ts_s s 0 v) := hI
theorem iv_1 {s : ts_T} (v : Int32) (hI : iv s) : iv (ts_s s 1 v) := hI
theorem iv_21 {s : ts_T} (f : Nat → Int32) (hI : iv s) : iv (ts_a s 21 f) := hI
theorem upd_b {f : Nat → Int32} {i q n : Nat} {v : Int32} (hv : tn_b v n) (hf : tn_b (f q) n) : tn_b (upd f i v q) n := by
  unfold upd
  split <;> assumption
theorem b_in {p : Int32} {b : Nat} (h : ¬ sp_in p 0 (nI b) = 0) (hb : b < 2147483648) : tn_b p b := by
  obtain ⟨j, hj, ej, -⟩ := in_in (b := b) rfl h hb
  exact ⟨j, hj, ej⟩
theorem iv_set {s : ts_T} {q v : Int32} (hI : iv s) : iv (sp_set s q v).2 := by
  unfold sp_set
  by_cases h1 : sp_in q 0 1 = 0
  · rw [if_pos h1]; exact hI
  rw [if_neg h1]
  by_cases h2 : sp_in v 0 (if q = 0 then 9 else 999) = 0
  · rw [if_pos h2]; exact hI
  rw [if_neg h2]
  by_cases h3 : s 9 0 = 0
  · rw [if_pos h3]; exact hI
  rw [if_neg h3]
  obtain ⟨h, w, n, nk, nl, ny, nm, li, e2, e3, e9, hnw, hh, hw, hn, hz, hp, e7, hk, e8, hl, e4, hy, e5, hm, e6, hli, hcel, hkin, hban, hwei, hshe⟩ := hI
  by_cases h4 : q = 0
  · rw [if_pos h4] at h2
    rw [if_pos h4]
    obtain ⟨j, hj, ej⟩ := b_in (b := 9) h2 (by decide)
    exact ⟨h, w, n, nk, nl, ny, j, li, e2, e3, e9, hnw, hh, hw, hn, hz, hp, e7, hk, e8, hl, e4, hy, ej, hj, e6, hli, hcel, hkin, hban, hwei, hshe⟩
  · rw [if_neg h4] at h2
    rw [if_neg h4]
    obtain ⟨j, hj, ej⟩ := b_in (b := 999) h2 (by decide)
    exact ⟨h, w, n, nk, nl, ny, nm, j, e2, e3, e9, hnw, hh, hw, hn, hz, hp, e7, hk, e8, hl, e4, hy, e5, hm, ej, hj, hcel, hkin, hban, hwei, hshe⟩
theorem iv_years {s : ts_T} {q : Int32} (hI : iv s) : iv (sp_years s q).2 := by
  unfold sp_years
  by_cases h1 : sp_in q 0 40 = 0
  · rw [if_pos h1]; exact hI
  rw [if_neg h1]
  by_cases h2 : s 4 0 + q ≤ 40
  · rw [if_pos h2]
    by_cases h3 : s 9 0 = 0
    · rw [if_pos h3]; exact hI
    rw [if_neg h3]
    obtain ⟨h, w, n, nk, nl, ny, nm, li, e2, e3, e9, hnw, hh, hw, hn, hz, hp, e7, hk, e8, hl, e4, hy, e5, hm, e6, hli, hcel, hkin, hban, hwei, hshe⟩ := hI
    obtain ⟨j, hj, rfl⟩ := b_in (b := 40) h1 (by decide)
    have e : s 4 0 + nI j = nI (ny + j) := tn_add e4 rfl
    have hle : ny + j ≤ 40 := by
      rw [e, show (40 : Int32) = nI 40 from rfl, nI_leI (by omega) (by omega)] at h2
      exact h2
    refine ⟨h, w, n, nk, nl, ny + j, nm, li, e2, e3, e9, hnw, hh, hw, hn, hz, hp, e7, hk, e8, hl, e, hle, e5, hm, e6, hli, fun i hi => ?_, hkin, hban, hwei, hshe⟩
    obtain ⟨a1, a2, a3, a4, a5⟩ := hcel i hi
    refine ⟨a1, a2, ?_, ?_, a5⟩
    · show tn_b (yr_h s (nI j) (tk (s 9 0)) i) (9 * (ny + j))
      unfold yr_h
      split
      · have b := a3.add ((show tn_b (nI j) j from ⟨j, Nat.le_refl j, rfl⟩).mul a1)
        exact b.mono (by omega)
      · exact a3.mono (by omega)
    · show tn_b (yr_a s (nI j) (tk (s 9 0)) i) (ny + j)
      unfold yr_a
      split
      · exact a4.add ⟨j, Nat.le_refl j, rfl⟩
      · exact a4.mono (by omega)
  · rw [if_neg h2]; exact hI
theorem iv_hang {s : ts_T} {q z : Int32} (hz1 : z = 0 ∨ z = 1) (hI : iv s) : iv (sp_hang s q z).2 := by
  unfold sp_hang
  by_cases h1 : sp_ix q (s 9 0) = 0
  · rw [if_pos h1]; exact hI
  rw [if_neg h1]
  obtain ⟨h, w, n, nk, nl, ny, nm, li, e2, e3, e9, hnw, hh, hw, hn, hz, hp, e7, hk, e8, hl, e4, hy, e5, hm, e6, hli, hcel, hkin, hban, hwei, hshe⟩ := hI
  refine ⟨h, w, n, nk, nl, ny, nm, li, e2, e3, e9, hnw, hh, hw, hn, hz, hp, e7, hk, e8, hl, e4, hy, e5, hm, e6, hli, fun i hi => ?_, hkin, hban, hwei, hshe⟩
  obtain ⟨a1, a2, a3, a4, a5⟩ := hcel i hi
  refine ⟨a1, a2, a3, a4, ?_⟩
  show upd (s 14) (tk q) z i = 0 ∨ upd (s 14) (tk q) z i = 1
  unfold upd
  split
  · exact hz1
  · exact a5
theorem iv_add {s : ts_T} {t a b c : Int32} (hI : iv s) (h9 : ¬ s 9 0 = 0) (h7 : ¬ s 7 0 = 6) (ht : tn_b t 2) (ha : tn_b a 99) (hb : tn_b b 99) (hc : tn_b c 99) : iv (sp_add s (tk (s 7 0)) t a b c) := by
  obtain ⟨h, w, n, nk, nl, ny, nm, li, e2, e3, e9, hnw, hh, hw, hn, hz, hp, e7, hk, e8, hl, e4, hy, e5, hm, e6, hli, hcel, hkin, hban, hwei, hshe⟩ := hI
  have hk6 : nk ≠ 6 := fun q => h7 (by rw [e7, q]; rfl)
  have hn0 : n ≠ 0 := fun q => h9 (by rw [e9, q]; rfl)
  refine ⟨h, w, n, nk + 1, nl, ny, nm, li, e2, e3, e9, hnw, hh, hw, hn, fun q => absurd q hn0, fun q => ?_, ?_, by omega, e8, hl, e4, hy, e5, hm, e6, hli, hcel, fun i hi => ?_, fun i hi => ?_, hwei, hshe⟩
  · obtain ⟨p1, p2, p3⟩ := hp q
    exact ⟨p1, p2, by omega⟩
  · show s 7 0 + 1 = nI (nk + 1)
    rw [e7]
    exact nI_1 nk
  · exact upd_b ht (hkin i hi)
  · exact upd_b hc (upd_b hb (upd_b ha (hban i hi)))
theorem iv_coat {s : ts_T} {t a b c : Int32} (hI : iv s) : iv (sp_coat s t a b c).2 := by
  unfold sp_coat
  by_cases h1 : sp_in t 0 2 = 0
  · rw [if_pos h1]; exact hI
  rw [if_neg h1]
  by_cases h2 : sp_in a 0 99 = 0
  · rw [if_pos h2]; exact hI
  rw [if_neg h2]
  by_cases h3 : sp_in b 0 99 = 0
  · rw [if_pos h3]; exact hI
  rw [if_neg h3]
  by_cases h4 : sp_in c 0 99 = 0
  · rw [if_pos h4]; exact hI
  rw [if_neg h4]
  by_cases h5 : s 9 0 = 0
  · rw [if_pos h5]; exact hI
  rw [if_neg h5]
  by_cases h6 : s 7 0 = 6
  · rw [if_pos h6]; exact hI
  rw [if_neg h6]
  exact iv_add hI h5 h6 (b_in (b := 2) h1 (by decide)) (b_in (b := 99) h2 (by decide)) (b_in (b := 99) h3 (by decide)) (b_in (b := 99) h4 (by decide))
theorem iv_paint {s : ts_T} {q k : Int32} (hI : iv s) : iv (sp_paint s q k).2 := by
  unfold sp_paint
  by_cases h1 : sp_ix q (s 9 0) = 0
  · rw [if_pos h1]; exact hI
  rw [if_neg h1]
  by_cases h2 : sp_ix k (s 7 0) = 0
  · rw [if_pos h2]; exact hI
  rw [if_neg h2]
  obtain ⟨h, w, n, nk, nl, ny, nm, li, e2, e3, e9, hnw, hh, hw, hn, hz, hp, e7, hk, e8, hl, e4, hy, e5, hm, e6, hli, hcel, hkin, hban, hwei, hshe⟩ := hI
  obtain ⟨j, hj, ej, -⟩ := in_ix e7 (by omega) h2
  refine ⟨h, w, n, nk, nl, ny, nm, li, e2, e3, e9, hnw, hh, hw, hn, hz, hp, e7, hk, e8, hl, e4, hy, e5, hm, e6, hli, fun i hi => ?_, hkin, hban, hwei, hshe⟩
  obtain ⟨a1, a2, a3, a4, a5⟩ := hcel i hi
  refine ⟨a1, ?_, upd_b ⟨0, Nat.zero_le _, rfl⟩ a3, upd_b ⟨0, Nat.zero_le _, rfl⟩ a4, a5⟩
  show ∃ k', k' < 6 ∧ upd (s 11) (tk q) k i = nI k'
  unfold upd
  split
  · exact ⟨j, by omega, ej⟩
  · exact a2
theorem iv_light {s : ts_T} {a b c : Int32} (hI : iv s) : iv (sp_light s a b c).2 := by
  unfold sp_light
  by_cases h2 : sp_in a 0 9 = 0
  · rw [if_pos h2]; exact hI
  rw [if_neg h2]
  by_cases h3 : sp_in b 0 9 = 0
  · rw [if_pos h3]; exact hI
  rw [if_neg h3]
  by_cases h4 : sp_in c 0 9 = 0
  · rw [if_pos h4]; exact hI
  rw [if_neg h4]
  by_cases h5 : s 9 0 = 0
  · rw [if_pos h5]; exact hI
  rw [if_neg h5]
  by_cases h6 : s 8 0 = 4
  · rw [if_pos h6]; exact hI
  rw [if_neg h6]
  obtain ⟨h, w, n, nk, nl, ny, nm, li, e2, e3, e9, hnw, hh, hw, hn, hz, hp, e7, hk, e8, hl, e4, hy, e5, hm, e6, hli, hcel, hkin, hban, hwei, hshe⟩ := hI
  have hl4 : nl ≠ 4 := fun q => h6 (by rw [e8, q]; rfl)
  have hn0 : n ≠ 0 := fun q => h5 (by rw [e9, q]; rfl)
  refine ⟨h, w, n, nk, nl + 1, ny, nm, li, e2, e3, e9, hnw, hh, hw, hn, fun q => absurd q hn0, hp, e7, hk, ?_, by omega, e4, hy, e5, hm, e6, hli, hcel, hkin, hban, fun i hi => ?_, hshe⟩
  · show s 8 0 + 1 = nI (nl + 1)
    rw [e8]
    exact nI_1 nl
  · exact upd_b (b_in (b := 9) h4 (by decide)) (upd_b (b_in (b := 9) h3 (by decide)) (upd_b (b_in (b := 9) h2 (by decide)) (hwei i hi)))
theorem iv_mix {s : ts_T} {a b c d : Int32} (hI : iv s) : iv (sp_mix s a b c d).2 := by
  unfold sp_mix
  generalize sp_d4 (fun _ => 0) a b c d = D
  by_cases h1 : sp_ad s D = 0
  · rw [if_pos h1]; exact hI
  rw [if_neg h1]
  by_cases h2 : s 7 0 = 6
  · rw [if_pos h2]; exact hI
  rw [if_neg h2]
  obtain ⟨h, w, n, nk, nl, ny, nm, li, e2, e3, e9, hnw, hh, hw, hn, hz, hp, e7, hk, e8, hl, e4, hy, e5, hm, e6, hli, hcel, hkin, hban, hwei, hshe⟩ := id hI
  have h9 : ¬ s 9 0 = 0 := by
    intro q
    have hn0 : n = 0 := by
      rw [e9, show (0 : Int32) = nI 0 from rfl, nI_eq (by omega) (by omega)] at q
      exact q
    obtain ⟨-, -, z, -⟩ := hz hn0
    exact h1 (ad_z (by rw [e7, z]; rfl))
  refine iv_add hI h9 h2 ?_ (mb_b h1 hban (by decide)) (mb_b h1 hban (by decide)) (mb_b h1 hban (by decide))
  rw [mk_li h1 hkin]
  exact hkin _ (by have := li_lt D; omega)
theorem iv_sheet {s : ts_T} {k q n : Int32} (hI : iv s) : iv (sp_sheet s k q n).2 := by
  unfold sp_sheet
  by_cases h1 : sp_in k 0 3 = 0
  · rw [if_pos h1]; exact iv_0 _ hI
  rw [if_neg h1]
  by_cases h2 : sp_in q 0 2 = 0
  · rw [if_pos h2]; exact iv_0 _ hI
  rw [if_neg h2]
  by_cases h3 : 40 < n
  · rw [if_pos h3]; exact iv_0 _ hI
  rw [if_neg h3]
  by_cases h4 : n < 0
  · rw [if_pos h4]; exact iv_0 _ hI
  rw [if_neg h4]
  obtain ⟨h, w, n', nk, nl, ny, nm, li, e2, e3, e9, hnw, hh, hw, hn, hz, hp, e7, hk, e8, hl, e4, hy, e5, hm, e6, hli, hcel, hkin, hban, hwei, hshe⟩ := hI
  refine ⟨h, w, n', nk, nl, ny, nm, li, e2, e3, e9, hnw, hh, hw, hn, hz, hp, e7, hk, e8, hl, e4, hy, e5, hm, e6, hli, hcel, hkin, hban, hwei, fun i hi => ?_⟩
  obtain ⟨a1, a2, a3⟩ := hshe i hi
  refine ⟨?_, upd_b (b_in (b := 2) h2 (by decide)) a2, upd_b ?_ a3⟩
  · show upd (s 18) (tk k) 1 i = 0 ∨ upd (s 18) (tk k) 1 i = 1
    unfold upd
    split
    · exact Or.inr rfl
    · exact a1
  · obtain ⟨j, hj, rfl⟩ := nI_of h4
    rw [show (40 : Int32) = nI 40 from rfl, nI_ltI (by omega) hj] at h3
    exact ⟨j, by omega, rfl⟩
theorem iv_lose {s : ts_T} {k : Int32} (hI : iv s) : iv (sp_lose s k).2 := by
  unfold sp_lose
  by_cases h1 : sp_in k 0 3 = 0
  · rw [if_pos h1]; exact hI
  rw [if_neg h1]
  obtain ⟨h, w, n', nk, nl, ny, nm, li, e2, e3, e9, hnw, hh, hw, hn, hz, hp, e7, hk, e8, hl, e4, hy, e5, hm, e6, hli, hcel, hkin, hban, hwei, hshe⟩ := hI
  refine ⟨h, w, n', nk, nl, ny, nm, li, e2, e3, e9, hnw, hh, hw, hn, hz, hp, e7, hk, e8, hl, e4, hy, e5, hm, e6, hli, hcel, hkin, hban, hwei, fun i hi => ?_⟩
  obtain ⟨a1, a2, a3⟩ := hshe i hi
  refine ⟨?_, a2, a3⟩
  show upd (s 18) (tk k) 0 i = 0 ∨ upd (s 18) (tk k) 0 i = 1
  unfold upd
  split
  · exact Or.inl rfl
  · exact a1
theorem iv_put {s : ts_T} {k i v : Int32} (hI : iv s) : iv (sp_put s k i v).2 := by
  unfold sp_put
  by_cases h1 : sp_in k 0 3 = 0
  · rw [if_pos h1]; exact iv_0 _ hI
  rw [if_neg h1]
  by_cases h2 : s 18 (tk k) = 0
  · rw [if_pos h2]; exact iv_0 _ hI
  rw [if_neg h2]
  by_cases h3 : sp_in i 0 (s 20 (tk k) - 1) = 0
  · rw [if_pos h3]; exact iv_0 _ hI
  rw [if_neg h3]
  exact iv_21 _ (iv_0 _ hI)
theorem iv_cell {s : ts_T} {k i q : Int32} (hI : iv s) : iv (sp_cell s k i q).2 := by
  unfold sp_cell
  by_cases h1 : sp_in k 0 3 = 0
  · rw [if_pos h1]; exact iv_0 _ hI
  rw [if_neg h1]
  by_cases h2 : sp_in q 0 2 = 0
  · rw [if_pos h2]; exact iv_0 _ hI
  rw [if_neg h2]
  by_cases h3 : s 18 (tk k) = 0
  · rw [if_pos h3]; exact iv_0 _ hI
  rw [if_neg h3]
  by_cases h4 : s 19 (tk k) = q
  · rw [if_pos h4]
    by_cases h5 : sp_in i 0 (s 20 (tk k) - 1) = 0
    · rw [if_pos h5]; exact iv_0 _ hI
    · rw [if_neg h5]; exact iv_0 _ hI
  · rw [if_neg h4]; exact iv_0 _ hI
theorem iv_tell {s : ts_T} {k : Int32} (hI : iv s) : iv (sp_tell s k).2 := by
  unfold sp_tell
  by_cases h1 : sp_ix k (s 7 0) = 0
  · rw [if_pos h1]; exact hI
  rw [if_neg h1]
  by_cases h2 : s 15 (tk k) = 1
  · rw [if_pos h2]; exact iv_1 _ hI
  rw [if_neg h2]
  by_cases h3 : s 15 (tk k) = 2
  · rw [if_pos h3]; exact iv_1 _ hI
  rw [if_neg h3]; exact iv_1 _ hI
theorem iv_name {s : ts_T} {k : Int32} (hI : iv s) : iv (sp_name s k).2 := by
  unfold sp_name
  by_cases h1 : sp_ix k (s 7 0) = 0
  · rw [if_pos h1]; exact hI
  rw [if_neg h1]
  by_cases h2 : s 15 (tk k) = 2
  · rw [if_pos h2]; exact iv_1 _ hI
  rw [if_neg h2]; exact iv_1 _ hI
theorem iv_as {s : ts_T} {k t : Int32} (hI : iv s) : iv (sp_as s k t).2 := by
  unfold sp_as
  by_cases h1 : sp_ix k (s 7 0) = 0
  · rw [if_pos h1]; exact iv_0 _ hI
  rw [if_neg h1]
  by_cases h2 : sp_in t 0 2 = 0
  · rw [if_pos h2]; exact iv_0 _ hI
  rw [if_neg h2]
  by_cases h3 : s 15 (tk k) < t
  · rw [if_pos h3]; exact iv_0 _ hI
  rw [if_neg h3]; exact iv_0 _ hI
theorem iv_hung {s : ts_T} {k u h q i w : Int32} (hI : iv s) : iv (sp_hung s k u h q i w).2 := by
  unfold sp_hung
  by_cases h1 : sp_ix k (s 7 0) = 0
  · rw [if_pos h1]; exact iv_0 _ hI
  rw [if_neg h1]
  by_cases h2 : sp_in h 0 3 = 0
  · rw [if_pos h2]; exact iv_0 _ hI
  rw [if_neg h2]
  by_cases h3 : sp_in u 0 9 = 0
  · rw [if_pos h3]; exact iv_0 _ hI
  rw [if_neg h3]
  by_cases h4 : sp_in w 0 2 = 0
  · rw [if_pos h4]; exact iv_0 _ hI
  rw [if_neg h4]
  by_cases h5 : sp_in q 0 2 = 0
  · rw [if_pos h5]; exact iv_0 _ hI
  rw [if_neg h5]
  by_cases h6 : sp_ag s (tk h) q i 3 = 0
  · rw [if_pos h6]; exact iv_0 _ hI
  · rw [if_neg h6]; exact iv_0 _ hI
theorem iv_old {s : ts_T} {k u h q i : Int32} (hI : iv s) : iv (sp_old s k u h q i).2 := by
  unfold sp_old
  by_cases h1 : sp_ix k (s 7 0) = 0
  · rw [if_pos h1]; exact iv_0 _ hI
  rw [if_neg h1]
  by_cases h2 : sp_in h 0 3 = 0
  · rw [if_pos h2]; exact iv_0 _ hI
  rw [if_neg h2]
  by_cases h3 : sp_in u 0 9 = 0
  · rw [if_pos h3]; exact iv_0 _ hI
  rw [if_neg h3]
  by_cases h5 : sp_in q 0 2 = 0
  · rw [if_pos h5]; exact iv_0 _ hI
  rw [if_neg h5]
  by_cases h6 : sp_ag s (tk h) q i 3 = 0
  · rw [if_pos h6]; exact iv_0 _ hI
  · rw [if_neg h6]; exact iv_0 _ hI
theorem iv_copy {s : ts_T} {k i o j n : Int32} (hI : iv s) : iv (sp_copy s k i o j n).2 := by
  unfold sp_copy
  by_cases h1 : sp_in k 0 3 = 0
  · rw [if_pos h1]; exact iv_0 _ hI
  rw [if_neg h1]
  by_cases h2 : sp_in o 0 3 = 0
  · rw [if_pos h2]; exact iv_0 _ hI
  rw [if_neg h2]
  by_cases h3 : s 18 (tk k) = 0
  · rw [if_pos h3]; exact iv_0 _ hI
  rw [if_neg h3]
  by_cases h4 : s 18 (tk o) = 0
  · rw [if_pos h4]; exact iv_0 _ hI
  rw [if_neg h4]
  by_cases h5 : s 19 (tk k) = s 19 (tk o)
  · rw [if_pos h5]
    by_cases h6 : sp_rc (s 20 (tk k)) i n = 0
    · rw [if_pos h6]; exact iv_0 _ hI
    rw [if_neg h6]
    by_cases h7 : sp_rc (s 20 (tk o)) j n = 0
    · rw [if_pos h7]; exact iv_0 _ hI
    rw [if_neg h7]
    exact iv_21 _ (iv_0 _ hI)
  · rw [if_neg h5]; exact iv_0 _ hI
theorem fw_g_inv {p : Nat → Bool} : ∀ {m : Nat}, ¬ fw_g p m < m → ∀ q, q < m → p q = true
  | 0, _, q, hq => absurd hq (by omega)
  | m + 1, h, q, hq => by
    unfold fw_g at h
    by_cases h1 : fw_g p m < m
    · rw [if_pos h1] at h
      omega
    rw [if_neg h1] at h
    by_cases h2 : p m = true
    · by_cases e : q = m
      · subst e
        exact h2
      · exact fw_g_inv h1 q (by omega)
    · rw [if_neg h2] at h
      omega
theorem iv_wl {s : ts_T} {f : Nat → Int32} {n : Nat} (hI : iv s) (e : fw f n = none) : iv (wl_s s f (tk (f 1 - 48)) (tk (f 2 - 48))) := by
  unfold fw at e
  by_cases q1 : n < 1
  · rw [if_pos q1] at e; cases e
  rw [if_neg q1] at e
  by_cases q2 : f 0 = 119
  · rw [if_pos q2] at e
    by_cases q3 : n < 2
    · rw [if_pos q3] at e; cases e
    rw [if_neg q3] at e
    by_cases q4 : sp_in (f 1) 49 52 = 0
    · rw [if_pos q4] at e; cases e
    rw [if_neg q4] at e
    by_cases q5 : n < 3
    · rw [if_pos q5] at e; cases e
    rw [if_neg q5] at e
    by_cases q6 : sp_in (f 2) 50 54 = 0
    · rw [if_pos q6] at e; cases e
    rw [if_neg q6] at e
    obtain ⟨h, b1, b2, b3, b4, b5⟩ := dig (a := 49) (b := 52) q4 (by decide) (by decide) (by decide)
    obtain ⟨w, c1, c2, c3, c4, c5⟩ := dig (a := 50) (b := 54) q6 (by decide) (by decide) (by decide)
    rw [b4, c4] at e ⊢
    unfold fw_r at e
    by_cases q7 : fw_g (fw_ok f n w) (h * (w + 1)) < h * (w + 1)
    · rw [if_pos q7] at e; cases e
    have hall := fw_g_inv q7
    obtain ⟨h0, w0, n0, nk0, nl0, ny0, nm0, li0, e2, e3, e9, hnw, hh, hw, hn, hz, hp, e7, hk, e8, hl, e4, hy, e5, hm, e6, hli, hcel, hkin, hban, hwei, hshe⟩ := hI
    have hle : h * w ≤ 24 := Nat.le_trans (Nat.mul_le_mul_left h (show w ≤ 6 by omega)) (by omega)
    refine ⟨h, w, h * w, 1, 0, 0, 0, 10, rfl, rfl, rfl, rfl, by omega, by omega, hle, fun q => ?_, fun _ => ⟨by omega, by omega, by omega⟩, ?_, by omega, rfl, by omega, rfl, by omega, rfl, by omega, rfl, by omega, fun j hj => ?_, fun k hk6 => ?_, fun k hk18 => ?_, hwei, hshe⟩
    · exfalso
      rcases Nat.mul_eq_zero.mp q with z | z <;> omega
    · show (0 : Int32) + 1 = nI 1
      decide
    · refine ⟨?_, ⟨0, by omega, ?_⟩, ⟨0, by omega, ?_⟩, ⟨0, by omega, ?_⟩, Or.inl ?_⟩
      · show tn_b (ts_f (fw_sun f w) (s 10) (h * w) j) 9
        unfold ts_f
        rw [if_pos hj]
        unfold fw_sun
        have hw0 : 0 < w := by omega
        have d1 : j / w < h := Nat.div_lt_of_lt_mul (by rw [Nat.mul_comm]; exact hj)
        have d2 := Nat.mod_lt j hw0
        have d3 : (j / w + 1) * (w + 1) ≤ h * (w + 1) := Nat.mul_le_mul_right (w + 1) d1
        rw [Nat.add_mul, Nat.one_mul] at d3
        have d4 : j / w * (w + 1) + 1 + j % w < h * (w + 1) := by
          generalize j / w * (w + 1) = x at d3 ⊢
          omega
        have d5 : (j / w * (w + 1) + 1 + j % w) % (w + 1) = 1 + j % w := by
          rw [show j / w * (w + 1) + 1 + j % w = (1 + j % w) + j / w * (w + 1) by omega, Nat.add_mul_mod_self_right]
          exact Nat.mod_eq_of_lt (by omega)
        have d6 := hall _ d4
        unfold fw_ok at d6
        rw [Bool.and_eq_true] at d6
        have d7 := d6.2
        unfold fw_fit at d7
        rw [d5, if_neg (by omega)] at d7
        have d8 := of_decide_eq_true d7
        obtain ⟨g, g1, g2, g3, -, -⟩ := dig (a := 48) (b := 57) d8 (by decide) (by decide) (by decide)
        exact ⟨g, by omega, g3⟩
      · show ts_f (fun _ => 0) (s 11) (h * w) j = nI 0
        unfold ts_f
        rw [if_pos hj]
        rfl
      · show ts_f (fun _ => 0) (s 12) (h * w) j = nI 0
        unfold ts_f
        rw [if_pos hj]
        rfl
      · show ts_f (fun _ => 0) (s 13) (h * w) j = nI 0
        unfold ts_f
        rw [if_pos hj]
        rfl
      · show ts_f (fun _ => 0) (s 14) (h * w) j = 0
        unfold ts_f
        rw [if_pos hj]
    · exact upd_b ⟨0, by omega, rfl⟩ (hkin k hk6)
    · exact upd_b ⟨90, by omega, rfl⟩ (upd_b ⟨90, by omega, rfl⟩ (upd_b ⟨90, by omega, rfl⟩ (hban k hk18)))
  · rw [if_neg q2] at e; cases e
theorem iv_wall {s : ts_T} {k q i n : Int32} (hI : iv s) : iv (sp_wall s k q i n).2 := by
  unfold sp_wall
  by_cases h1 : sp_in k 0 3 = 0
  · rw [if_pos h1]; exact iv_0 _ hI
  rw [if_neg h1]
  by_cases h2 : sp_in q 0 2 = 0
  · rw [if_pos h2]; exact iv_0 _ hI
  rw [if_neg h2]
  by_cases h3 : sp_wf s (tk k) q i n = 0
  · rw [if_pos h3]
    cases e : fw (wl_f s k i) (tk n) with
    | some p => exact iv_0 _ hI
    | none => exact iv_wl (iv_0 0 hI) e
  · rw [if_neg h3]; exact iv_0 _ hI
