set_option maxRecDepth 20000 in
theorem in_X8_many_X8 : ∀ w ∈ u_ws RX8 TX8 35, w ∈ wsX8_many := by decide +kernel
set_option maxRecDepth 20000 in
theorem lk_X8_many_78 : Cond.fieldLink RX8 78 (TX8 6).1 (TX8 6).2.1 (TX8 6).2.2.1 ∈ wsX8_many := by decide +kernel
set_option maxRecDepth 20000 in
theorem lk_X8_many_124 : Cond.fieldLink RX8 124 (TX8 19).1 (TX8 19).2.1 (TX8 19).2.2.1 ∈ wsX8_many := by decide +kernel
set_option maxRecDepth 20000 in
theorem lk_X8_many_121 : Cond.fieldLink RX8 121 (TX8 22).1 (TX8 22).2.1 (TX8 22).2.2.1 ∈ wsX8_many := by decide +kernel
set_option maxRecDepth 20000 in
theorem lk_X8_many_112 : Cond.fieldLink RX8 112 (TX8 7).1 (TX8 7).2.1 (TX8 7).2.2.1 ∈ wsX8_many := by decide +kernel
set_option maxRecDepth 20000 in
theorem lk_X8_many_115 : Cond.fieldLink RX8 115 (TX8 8).1 (TX8 8).2.1 (TX8 8).2.2.1 ∈ wsX8_many := by decide +kernel
set_option maxRecDepth 20000 in
theorem lk_X8_many_118 : Cond.fieldLink RX8 118 (TX8 9).1 (TX8 9).2.1 (TX8 9).2.2.1 ∈ wsX8_many := by decide +kernel
theorem yd_X8_isCell : yX8_isCell.cls = RX8 ∧ yX8_isCell.cls ≠ "java/lang/invoke/MethodHandle" ∧ yX8_isCell.cls ≠ "java/lang/invoke/VarHandle" ∧ (parseMethodDescriptor yX8_isCell.desc).map (fun d => d.parameters.length) = some 1 := by decide +kernel
set_option maxRecDepth 20000 in
theorem in_X8_ofCell_X8 : ∀ w ∈ u_ws RX8 TX8 35, w ∈ wsX8_ofCell := by decide +kernel
set_option maxRecDepth 20000 in
theorem lk_X8_ofCell_19 : Cond.fieldLink RX8 19 (TX8 10).1 (TX8 10).2.1 (TX8 10).2.2.1 ∈ wsX8_ofCell := by decide +kernel
set_option maxRecDepth 20000 in
theorem lk_X8_ofCell_22 : Cond.fieldLink RX8 22 (TX8 11).1 (TX8 11).2.1 (TX8 11).2.2.1 ∈ wsX8_ofCell := by decide +kernel
set_option maxRecDepth 20000 in
theorem lk_X8_ofCell_25 : Cond.fieldLink RX8 25 (TX8 12).1 (TX8 12).2.1 (TX8 12).2.2.1 ∈ wsX8_ofCell := by decide +kernel
set_option maxRecDepth 20000 in
theorem lk_X8_ofCell_28 : Cond.fieldLink RX8 28 (TX8 13).1 (TX8 13).2.1 (TX8 13).2.2.1 ∈ wsX8_ofCell := by decide +kernel
set_option maxRecDepth 20000 in
theorem lk_X8_ofCell_31 : Cond.fieldLink RX8 31 (TX8 14).1 (TX8 14).2.1 (TX8 14).2.2.1 ∈ wsX8_ofCell := by decide +kernel
set_option maxRecDepth 20000 in
theorem in_X8_set_X8 : ∀ w ∈ u_ws RX8 TX8 35, w ∈ wsX8_set := by decide +kernel
set_option maxRecDepth 20000 in
theorem lk_X8_set_118 : Cond.fieldLink RX8 118 (TX8 9).1 (TX8 9).2.1 (TX8 9).2.2.1 ∈ wsX8_set := by decide +kernel
set_option maxRecDepth 20000 in
theorem lk_X8_set_115 : Cond.fieldLink RX8 115 (TX8 8).1 (TX8 8).2.1 (TX8 8).2.2.1 ∈ wsX8_set := by decide +kernel
set_option maxRecDepth 20000 in
theorem in_X8_hang_X8 : ∀ w ∈ u_ws RX8 TX8 35, w ∈ wsX8_hang := by decide +kernel
set_option maxRecDepth 20000 in
theorem lk_X8_hang_31 : Cond.fieldLink RX8 31 (TX8 14).1 (TX8 14).2.1 (TX8 14).2.2.1 ∈ wsX8_hang := by decide +kernel
set_option maxRecDepth 20000 in
theorem in_X8_comesOf_X8 : ∀ w ∈ u_ws RX8 TX8 35, w ∈ wsX8_comesOf := by decide +kernel
set_option maxRecDepth 20000 in
theorem lk_X8_comesOf_38 : Cond.fieldLink RX8 38 (TX8 20).1 (TX8 20).2.1 (TX8 20).2.2.1 ∈ wsX8_comesOf := by decide +kernel
set_option maxRecDepth 20000 in
theorem lk_X8_comesOf_41 : Cond.fieldLink RX8 41 (TX8 21).1 (TX8 21).2.1 (TX8 21).2.2.1 ∈ wsX8_comesOf := by decide +kernel
theorem yd_X8_comes : yX8_comes.cls = RX8 ∧ yX8_comes.cls ≠ "java/lang/invoke/MethodHandle" ∧ yX8_comes.cls ≠ "java/lang/invoke/VarHandle" ∧ (parseMethodDescriptor yX8_comes.desc).map (fun d => d.parameters.length) = some 6 := by decide +kernel
theorem yd_X8_comesOf : yX8_comesOf.cls = RX8 ∧ yX8_comesOf.cls ≠ "java/lang/invoke/MethodHandle" ∧ yX8_comesOf.cls ≠ "java/lang/invoke/VarHandle" ∧ (parseMethodDescriptor yX8_comesOf.desc).map (fun d => d.parameters.length) = some 5 := by decide +kernel
set_option maxRecDepth 20000 in
theorem in_X8_lookOf_X8 : ∀ w ∈ u_ws RX8 TX8 35, w ∈ wsX8_lookOf := by decide +kernel
set_option maxRecDepth 20000 in
theorem lk_X8_lookOf_44 : Cond.fieldLink RX8 44 (TX8 23).1 (TX8 23).2.1 (TX8 23).2.2.1 ∈ wsX8_lookOf := by decide +kernel
set_option maxRecDepth 20000 in
theorem in_X8_lookNow_X8 : ∀ w ∈ u_ws RX8 TX8 35, w ∈ wsX8_lookNow := by decide +kernel
set_option maxRecDepth 20000 in
theorem lk_X8_lookNow_22 : Cond.fieldLink RX8 22 (TX8 11).1 (TX8 11).2.1 (TX8 11).2.2.1 ∈ wsX8_lookNow := by decide +kernel
set_option maxRecDepth 20000 in
theorem lk_X8_lookNow_25 : Cond.fieldLink RX8 25 (TX8 12).1 (TX8 12).2.1 (TX8 12).2.2.1 ∈ wsX8_lookNow := by decide +kernel
set_option maxRecDepth 20000 in
theorem lk_X8_lookNow_28 : Cond.fieldLink RX8 28 (TX8 13).1 (TX8 13).2.1 (TX8 13).2.2.1 ∈ wsX8_lookNow := by decide +kernel
theorem yd_X8_lookOf : yX8_lookOf.cls = RX8 ∧ yX8_lookOf.cls ≠ "java/lang/invoke/MethodHandle" ∧ yX8_lookOf.cls ≠ "java/lang/invoke/VarHandle" ∧ (parseMethodDescriptor yX8_lookOf.desc).map (fun d => d.parameters.length) = some 5 := by decide +kernel
set_option maxHeartbeats 4000000 in
set_option maxRecDepth 100000 in
theorem kX8_many (c : tv_c) (s r : ts_T)  (p0 : Int32) (hI : iv s) : tv_Fi c 19 yX8_many wsX8_many { frames := 1, cells := 0, slots := 0, locals := 20 } [.ref (tv_ad c 0), .int p0] (eM c s r) (sp_many s p0) (eM c s r) := by
  refine tv_metI (by decide +kernel) rfl rfl (Nat.le_of_ble_eq_true rfl) (fun X C hR => ?_)
  show tv_V c 19 X (eM c s r) 0 [(0, .ref (tv_ad c 0)), (1, .int p0)] []
  have hC := iv.hC hI
  obtain ⟨h, w, n, nk, nl, ny, nm, li, e2, e3, e9, hnw, hh, hw, hn, hz, hp, e7, hk, e8, hl, e4, hy, e5, hm, e6, hli, hcel, hkin, hban, hwei, hshe⟩ := id hI
  refine tv_iload_n C dX8_many_0 rfl 1 rfl ?_
  by_cases c_1 : p0 = 0
  · skip
    refine tv_tableIn C 44 dX8_many_1 (by rw [c_1]; decide) (by rw [c_1]; decide) (by rw [c_1]; rfl) (by decide) ?_
    refine tv_aload_n C dX8_many_44 rfl 0 rfl ?_
    refine tv_calli (As := []) (rest := []) (ci := 8) (cn := RX8) (T := TX8) (Nf := 35) C 0 (kX8_all c s r   hC) gX8_many_X8_all rfl yd_X8_all ⟨rfl, rfl⟩ (by decide) (by decide) rfl rfl rfl rfl (Nat.le_of_ble_eq_true rfl) dX8_many_45 (fun q_2 u_2 z_2 => ?_)
    obtain ⟨rfl, rfl⟩ := z_2
    exact hR _ _ _ _ dX8_many_48 ⟨by first | (simp only [sp_many, eq_true c_1, if_true, ↓reduceIte]; done) | rfl | (simp [sp_many, eq_true c_1, if_true]; done) | (exfalso; clear hR C; simp_all; done), by first | (simp only [sp_many, eq_true c_1, if_true, ts_ss, ts_aa, ↓reduceIte]; done) | rfl | (simp [sp_many, eq_true c_1, if_true, ts_ss, ts_aa]; done) | (exfalso; clear hR C; simp_all; done)⟩
  by_cases c_3 : p0 = 1
  · skip
    refine tv_tableIn C 49 dX8_many_1 (by rw [c_3]; decide) (by rw [c_3]; decide) (by rw [c_3]; rfl) (by decide) ?_
    refine tv_aload_n C dX8_many_49 rfl 0 rfl ?_
    refine tv_get (ci := 8) (Cn := RX8) (T := TX8) (Nf := 35) (v := .int (s 3 0)) C 0 (by decide) rfl rfl in_X8_many_X8 6 (by decide) lk_X8_many_78 rfl dX8_many_50 ?_
    exact hR _ _ _ _ dX8_many_53 ⟨by first | (simp only [sp_many, c_1, eq_true c_3, if_true, ↓reduceIte]; done) | rfl | (simp [sp_many, c_1, eq_true c_3, if_true]; done) | (exfalso; clear hR C; simp_all; done), by first | (simp only [sp_many, c_1, eq_true c_3, if_true, ts_ss, ts_aa, ↓reduceIte]; done) | rfl | (simp [sp_many, c_1, eq_true c_3, if_true, ts_ss, ts_aa]; done) | (exfalso; clear hR C; simp_all; done)⟩
  by_cases c_4 : p0 = 2
  · skip
    refine tv_tableIn C 54 dX8_many_1 (by rw [c_4]; decide) (by rw [c_4]; decide) (by rw [c_4]; rfl) (by decide) ?_
    refine tv_aload_n C dX8_many_54 rfl 0 rfl ?_
    refine tv_get (ci := 8) (Cn := RX8) (T := TX8) (Nf := 35) (v := .int (s 7 0)) C 0 (by decide) rfl rfl in_X8_many_X8 19 (by decide) lk_X8_many_124 rfl dX8_many_55 ?_
    exact hR _ _ _ _ dX8_many_58 ⟨by first | (simp only [sp_many, c_1, c_3, eq_true c_4, if_true, ↓reduceIte]; done) | rfl | (simp [sp_many, c_1, c_3, eq_true c_4, if_true]; done) | (exfalso; clear hR C; simp_all; done), by first | (simp only [sp_many, c_1, c_3, eq_true c_4, if_true, ts_ss, ts_aa, ↓reduceIte]; done) | rfl | (simp [sp_many, c_1, c_3, eq_true c_4, if_true, ts_ss, ts_aa]; done) | (exfalso; clear hR C; simp_all; done)⟩
  by_cases c_5 : p0 = 3
  · skip
    refine tv_tableIn C 59 dX8_many_1 (by rw [c_5]; decide) (by rw [c_5]; decide) (by rw [c_5]; rfl) (by decide) ?_
    refine tv_aload_n C dX8_many_59 rfl 0 rfl ?_
    refine tv_get (ci := 8) (Cn := RX8) (T := TX8) (Nf := 35) (v := .int (s 8 0)) C 0 (by decide) rfl rfl in_X8_many_X8 22 (by decide) lk_X8_many_121 rfl dX8_many_60 ?_
    exact hR _ _ _ _ dX8_many_63 ⟨by first | (simp only [sp_many, c_1, c_3, c_4, eq_true c_5, if_true, ↓reduceIte]; done) | rfl | (simp [sp_many, c_1, c_3, c_4, eq_true c_5, if_true]; done) | (exfalso; clear hR C; simp_all; done), by first | (simp only [sp_many, c_1, c_3, c_4, eq_true c_5, if_true, ts_ss, ts_aa, ↓reduceIte]; done) | rfl | (simp [sp_many, c_1, c_3, c_4, eq_true c_5, if_true, ts_ss, ts_aa]; done) | (exfalso; clear hR C; simp_all; done)⟩
  by_cases c_6 : p0 = 4
  · skip
    refine tv_tableIn C 64 dX8_many_1 (by rw [c_6]; decide) (by rw [c_6]; decide) (by rw [c_6]; rfl) (by decide) ?_
    refine tv_aload_n C dX8_many_64 rfl 0 rfl ?_
    refine tv_get (ci := 8) (Cn := RX8) (T := TX8) (Nf := 35) (v := .int (s 4 0)) C 0 (by decide) rfl rfl in_X8_many_X8 7 (by decide) lk_X8_many_112 rfl dX8_many_65 ?_
    exact hR _ _ _ _ dX8_many_68 ⟨by first | (simp only [sp_many, c_1, c_3, c_4, c_5, eq_true c_6, if_true, ↓reduceIte]; done) | rfl | (simp [sp_many, c_1, c_3, c_4, c_5, eq_true c_6, if_true]; done) | (exfalso; clear hR C; simp_all; done), by first | (simp only [sp_many, c_1, c_3, c_4, c_5, eq_true c_6, if_true, ts_ss, ts_aa, ↓reduceIte]; done) | rfl | (simp [sp_many, c_1, c_3, c_4, c_5, eq_true c_6, if_true, ts_ss, ts_aa]; done) | (exfalso; clear hR C; simp_all; done)⟩
  by_cases c_7 : p0 = 5
  · skip
    refine tv_tableIn C 69 dX8_many_1 (by rw [c_7]; decide) (by rw [c_7]; decide) (by rw [c_7]; rfl) (by decide) ?_
    refine tv_aload_n C dX8_many_69 rfl 0 rfl ?_
    refine tv_get (ci := 8) (Cn := RX8) (T := TX8) (Nf := 35) (v := .int (s 5 0)) C 0 (by decide) rfl rfl in_X8_many_X8 8 (by decide) lk_X8_many_115 rfl dX8_many_70 ?_
    exact hR _ _ _ _ dX8_many_73 ⟨by first | (simp only [sp_many, c_1, c_3, c_4, c_5, c_6, eq_true c_7, if_true, ↓reduceIte]; done) | rfl | (simp [sp_many, c_1, c_3, c_4, c_5, c_6, eq_true c_7, if_true]; done) | (exfalso; clear hR C; simp_all; done), by first | (simp only [sp_many, c_1, c_3, c_4, c_5, c_6, eq_true c_7, if_true, ts_ss, ts_aa, ↓reduceIte]; done) | rfl | (simp [sp_many, c_1, c_3, c_4, c_5, c_6, eq_true c_7, if_true, ts_ss, ts_aa]; done) | (exfalso; clear hR C; simp_all; done)⟩
  by_cases c_8 : p0 = 6
  · skip
    refine tv_tableIn C 74 dX8_many_1 (by rw [c_8]; decide) (by rw [c_8]; decide) (by rw [c_8]; rfl) (by decide) ?_
    refine tv_aload_n C dX8_many_74 rfl 0 rfl ?_
    refine tv_get (ci := 8) (Cn := RX8) (T := TX8) (Nf := 35) (v := .int (s 6 0)) C 0 (by decide) rfl rfl in_X8_many_X8 9 (by decide) lk_X8_many_118 rfl dX8_many_75 ?_
    exact hR _ _ _ _ dX8_many_78 ⟨by first | (simp only [sp_many, c_1, c_3, c_4, c_5, c_6, c_7, eq_true c_8, if_true, ↓reduceIte]; done) | rfl | (simp [sp_many, c_1, c_3, c_4, c_5, c_6, c_7, eq_true c_8, if_true]; done) | (exfalso; clear hR C; simp_all; done), by first | (simp only [sp_many, c_1, c_3, c_4, c_5, c_6, c_7, eq_true c_8, if_true, ts_ss, ts_aa, ↓reduceIte]; done) | rfl | (simp [sp_many, c_1, c_3, c_4, c_5, c_6, c_7, eq_true c_8, if_true, ts_ss, ts_aa]; done) | (exfalso; clear hR C; simp_all; done)⟩
  refine tv_tableOut C 79 dX8_many_1 (tn_out7 c_1 c_3 c_4 c_5 c_6 c_7 c_8) (by decide) ?_
  refine tv_bipush (v := (-2)) C dX8_many_79 (by decide) ?_
  exact hR _ _ _ _ dX8_many_81 ⟨by first | (simp only [sp_many, c_1, c_3, c_4, c_5, c_6, c_7, c_8, if_true, ↓reduceIte]; done) | rfl | (simp [sp_many, c_1, c_3, c_4, c_5, c_6, c_7, c_8, if_true]; done) | (exfalso; clear hR C; simp_all; done), by first | (simp only [sp_many, c_1, c_3, c_4, c_5, c_6, c_7, c_8, if_true, ts_ss, ts_aa, ↓reduceIte]; done) | rfl | (simp [sp_many, c_1, c_3, c_4, c_5, c_6, c_7, c_8, if_true, ts_ss, ts_aa]; done) | (exfalso; clear hR C; simp_all; done)⟩
set_option maxHeartbeats 4000000 in
set_option maxRecDepth 100000 in
theorem kX8_ofCell (c : tv_c) (s r : ts_T)  (p0 p1 : Int32) (hI : iv s) : tv_Fi c 19 yX8_ofCell wsX8_ofCell { frames := 2, cells := 0, slots := 0, locals := 41 } [.ref (tv_ad c 0), .int p0, .int p1] (eM c s r) (sp_ofCell s p0 p1) (eM c s r) := by
  refine tv_metI (by decide +kernel) rfl rfl (Nat.le_of_ble_eq_true rfl) (fun X C hR => ?_)
  show tv_V c 19 X (eM c s r) 0 [(0, .ref (tv_ad c 0)), (1, .int p0), (2, .int p1)] []
  have hC := iv.hC hI
  obtain ⟨h, w, n, nk, nl, ny, nm, li, e2, e3, e9, hnw, hh, hw, hn, hz, hp, e7, hk, e8, hl, e4, hy, e5, hm, e6, hli, hcel, hkin, hban, hwei, hshe⟩ := id hI
  refine tv_aload_n C dX8_ofCell_0 rfl 0 rfl ?_
  refine tv_iload_n C dX8_ofCell_1 rfl 1 rfl ?_
  refine tv_calli (As := [.int p0]) (rest := []) (ci := 8) (cn := RX8) (T := TX8) (Nf := 35) C 0 (kX8_isCell c s r  p0 hC) gX8_ofCell_X8_isCell rfl yd_X8_isCell ⟨rfl, rfl⟩ (by decide) (by decide) rfl rfl rfl rfl (Nat.le_of_ble_eq_true rfl) dX8_ofCell_2 (fun q_1 u_1 z_1 => ?_)
  obtain ⟨rfl, rfl⟩ := z_1
  refine tv_if_ne C 10 dX8_ofCell_5 (by decide) (fun c_2 => ?_) (fun c_2 => ?_)
  · skip
    obtain ⟨j_p0, hj_p0, ej_p0, ek_p0⟩ := in_ix e9 (by omega) c_2
    obtain ⟨fs_p0, ⟨b_p0, hb_p0, eb_p0⟩, fh_p0, fa_p0, fz_p0⟩ := hcel j_p0 hj_p0
    refine tv_iload_n C dX8_ofCell_10 rfl 2 rfl ?_
    by_cases c_3 : p1 = 0
    · skip
      refine tv_tableIn C 44 dX8_ofCell_11 (by rw [c_3]; decide) (by rw [c_3]; decide) (by rw [c_3]; rfl) (by decide) ?_
      refine tv_aload_n C dX8_ofCell_44 rfl 0 rfl ?_
      refine tv_get (ci := 8) (Cn := RX8) (T := TX8) (Nf := 35) (v := .ref (tv_ad c 4)) C 0 (by decide) rfl rfl in_X8_ofCell_X8 10 (by decide) lk_X8_ofCell_19 rfl dX8_ofCell_45 ?_
      refine tv_iload_n C dX8_ofCell_48 rfl 1 rfl ?_
      refine tv_iald (f := (s 10)) (v := (s 10 j_p0)) C 4 (by decide) rfl j_p0 ej_p0 (show j_p0 < 24 by omega) (by decide) rfl dX8_ofCell_49 ?_
      exact hR _ _ _ _ dX8_ofCell_50 ⟨by first | (simp only [sp_ofCell, c_2, ek_p0, eq_true c_3, if_true, ↓reduceIte]; done) | rfl | (simp [sp_ofCell, c_2, ek_p0, eq_true c_3, if_true]; done) | (exfalso; clear hR C; simp_all; done), by first | (simp only [sp_ofCell, c_2, ek_p0, eq_true c_3, if_true, ts_ss, ts_aa, ↓reduceIte]; done) | rfl | (simp [sp_ofCell, c_2, ek_p0, eq_true c_3, if_true, ts_ss, ts_aa]; done) | (exfalso; clear hR C; simp_all; done)⟩
    by_cases c_4 : p1 = 1
    · skip
      refine tv_tableIn C 51 dX8_ofCell_11 (by rw [c_4]; decide) (by rw [c_4]; decide) (by rw [c_4]; rfl) (by decide) ?_
      refine tv_aload_n C dX8_ofCell_51 rfl 0 rfl ?_
      refine tv_get (ci := 8) (Cn := RX8) (T := TX8) (Nf := 35) (v := .ref (tv_ad c 5)) C 0 (by decide) rfl rfl in_X8_ofCell_X8 11 (by decide) lk_X8_ofCell_22 rfl dX8_ofCell_52 ?_
      refine tv_iload_n C dX8_ofCell_55 rfl 1 rfl ?_
      refine tv_iald (f := (s 11)) (v := (s 11 j_p0)) C 5 (by decide) rfl j_p0 ej_p0 (show j_p0 < 24 by omega) (by decide) rfl dX8_ofCell_56 ?_
      exact hR _ _ _ _ dX8_ofCell_57 ⟨by first | (simp only [sp_ofCell, c_2, ek_p0, c_3, eq_true c_4, if_true, ↓reduceIte]; done) | rfl | (simp [sp_ofCell, c_2, ek_p0, c_3, eq_true c_4, if_true]; done) | (exfalso; clear hR C; simp_all; done), by first | (simp only [sp_ofCell, c_2, ek_p0, c_3, eq_true c_4, if_true, ts_ss, ts_aa, ↓reduceIte]; done) | rfl | (simp [sp_ofCell, c_2, ek_p0, c_3, eq_true c_4, if_true, ts_ss, ts_aa]; done) | (exfalso; clear hR C; simp_all; done)⟩
    by_cases c_5 : p1 = 2
    · skip
      refine tv_tableIn C 58 dX8_ofCell_11 (by rw [c_5]; decide) (by rw [c_5]; decide) (by rw [c_5]; rfl) (by decide) ?_
      refine tv_aload_n C dX8_ofCell_58 rfl 0 rfl ?_
      refine tv_get (ci := 8) (Cn := RX8) (T := TX8) (Nf := 35) (v := .ref (tv_ad c 6)) C 0 (by decide) rfl rfl in_X8_ofCell_X8 12 (by decide) lk_X8_ofCell_25 rfl dX8_ofCell_59 ?_
      refine tv_iload_n C dX8_ofCell_62 rfl 1 rfl ?_
      refine tv_iald (f := (s 12)) (v := (s 12 j_p0)) C 6 (by decide) rfl j_p0 ej_p0 (show j_p0 < 24 by omega) (by decide) rfl dX8_ofCell_63 ?_
      exact hR _ _ _ _ dX8_ofCell_64 ⟨by first | (simp only [sp_ofCell, c_2, ek_p0, c_3, c_4, eq_true c_5, if_true, ↓reduceIte]; done) | rfl | (simp [sp_ofCell, c_2, ek_p0, c_3, c_4, eq_true c_5, if_true]; done) | (exfalso; clear hR C; simp_all; done), by first | (simp only [sp_ofCell, c_2, ek_p0, c_3, c_4, eq_true c_5, if_true, ts_ss, ts_aa, ↓reduceIte]; done) | rfl | (simp [sp_ofCell, c_2, ek_p0, c_3, c_4, eq_true c_5, if_true, ts_ss, ts_aa]; done) | (exfalso; clear hR C; simp_all; done)⟩
    by_cases c_6 : p1 = 3
    · skip
      refine tv_tableIn C 65 dX8_ofCell_11 (by rw [c_6]; decide) (by rw [c_6]; decide) (by rw [c_6]; rfl) (by decide) ?_
      refine tv_aload_n C dX8_ofCell_65 rfl 0 rfl ?_
      refine tv_get (ci := 8) (Cn := RX8) (T := TX8) (Nf := 35) (v := .ref (tv_ad c 7)) C 0 (by decide) rfl rfl in_X8_ofCell_X8 13 (by decide) lk_X8_ofCell_28 rfl dX8_ofCell_66 ?_
      refine tv_iload_n C dX8_ofCell_69 rfl 1 rfl ?_
      refine tv_iald (f := (s 13)) (v := (s 13 j_p0)) C 7 (by decide) rfl j_p0 ej_p0 (show j_p0 < 24 by omega) (by decide) rfl dX8_ofCell_70 ?_
      exact hR _ _ _ _ dX8_ofCell_71 ⟨by first | (simp only [sp_ofCell, c_2, ek_p0, c_3, c_4, c_5, eq_true c_6, if_true, ↓reduceIte]; done) | rfl | (simp [sp_ofCell, c_2, ek_p0, c_3, c_4, c_5, eq_true c_6, if_true]; done) | (exfalso; clear hR C; simp_all; done), by first | (simp only [sp_ofCell, c_2, ek_p0, c_3, c_4, c_5, eq_true c_6, if_true, ts_ss, ts_aa, ↓reduceIte]; done) | rfl | (simp [sp_ofCell, c_2, ek_p0, c_3, c_4, c_5, eq_true c_6, if_true, ts_ss, ts_aa]; done) | (exfalso; clear hR C; simp_all; done)⟩
    by_cases c_7 : p1 = 4
    · skip
      refine tv_tableIn C 72 dX8_ofCell_11 (by rw [c_7]; decide) (by rw [c_7]; decide) (by rw [c_7]; rfl) (by decide) ?_
      refine tv_aload_n C dX8_ofCell_72 rfl 0 rfl ?_
      refine tv_get (ci := 8) (Cn := RX8) (T := TX8) (Nf := 35) (v := .ref (tv_ad c 8)) C 0 (by decide) rfl rfl in_X8_ofCell_X8 14 (by decide) lk_X8_ofCell_31 rfl dX8_ofCell_73 ?_
      refine tv_iload_n C dX8_ofCell_76 rfl 1 rfl ?_
      refine tv_zald (f := (s 14)) (v := (s 14 j_p0)) C 8 (by decide) rfl j_p0 ej_p0 (show j_p0 < 24 by omega) (by decide) rfl dX8_ofCell_77 ?_
      refine tv_if_eq C 85 dX8_ofCell_78 (by decide) (fun c_8 => ?_) (fun c_8 => ?_)
      · skip
        refine tv_iconst (v := 0) C dX8_ofCell_85 (by decide) ?_
        exact hR _ _ _ _ dX8_ofCell_86 ⟨by first | (simp only [sp_ofCell, c_2, ek_p0, c_3, c_4, c_5, c_6, eq_true c_7, eq_true c_8, if_true, ↓reduceIte]; done) | rfl | (simp [sp_ofCell, c_2, ek_p0, c_3, c_4, c_5, c_6, eq_true c_7, eq_true c_8, if_true]; done) | (exfalso; clear hR C; simp_all; done), by first | (simp only [sp_ofCell, c_2, ek_p0, c_3, c_4, c_5, c_6, eq_true c_7, eq_true c_8, if_true, ts_ss, ts_aa, ↓reduceIte]; done) | rfl | (simp [sp_ofCell, c_2, ek_p0, c_3, c_4, c_5, c_6, eq_true c_7, eq_true c_8, if_true, ts_ss, ts_aa]; done) | (exfalso; clear hR C; simp_all; done)⟩
      · skip
        refine tv_iconst (v := 1) C dX8_ofCell_81 (by decide) ?_
        refine tv_goto C 86 dX8_ofCell_82 (by decide) ?_
        exact hR _ _ _ _ dX8_ofCell_86 ⟨by first | (simp only [sp_ofCell, c_2, ek_p0, c_3, c_4, c_5, c_6, eq_true c_7, c_8, if_true, ↓reduceIte]; done) | rfl | (simp [sp_ofCell, c_2, ek_p0, c_3, c_4, c_5, c_6, eq_true c_7, c_8, if_true]; done) | (exfalso; clear hR C; simp_all; done), by first | (simp only [sp_ofCell, c_2, ek_p0, c_3, c_4, c_5, c_6, eq_true c_7, c_8, if_true, ts_ss, ts_aa, ↓reduceIte]; done) | rfl | (simp [sp_ofCell, c_2, ek_p0, c_3, c_4, c_5, c_6, eq_true c_7, c_8, if_true, ts_ss, ts_aa]; done) | (exfalso; clear hR C; simp_all; done)⟩
    refine tv_tableOut C 87 dX8_ofCell_11 (tn_out5 c_3 c_4 c_5 c_6 c_7) (by decide) ?_
    refine tv_bipush (v := (-2)) C dX8_ofCell_87 (by decide) ?_
    exact hR _ _ _ _ dX8_ofCell_89 ⟨by first | (simp only [sp_ofCell, c_2, ek_p0, c_3, c_4, c_5, c_6, c_7, if_true, ↓reduceIte]; done) | rfl | (simp [sp_ofCell, c_2, ek_p0, c_3, c_4, c_5, c_6, c_7, if_true]; done) | (exfalso; clear hR C; simp_all; done), by first | (simp only [sp_ofCell, c_2, ek_p0, c_3, c_4, c_5, c_6, c_7, if_true, ts_ss, ts_aa, ↓reduceIte]; done) | rfl | (simp [sp_ofCell, c_2, ek_p0, c_3, c_4, c_5, c_6, c_7, if_true, ts_ss, ts_aa]; done) | (exfalso; clear hR C; simp_all; done)⟩
  · skip
    refine tv_iconst (v := (-1)) C dX8_ofCell_8 (by decide) ?_
    exact hR _ _ _ _ dX8_ofCell_9 ⟨by first | (simp only [sp_ofCell, eq_true c_2, if_true, ↓reduceIte]; done) | rfl | (simp [sp_ofCell, eq_true c_2, if_true]; done) | (exfalso; clear hR C; simp_all; done), by first | (simp only [sp_ofCell, eq_true c_2, if_true, ts_ss, ts_aa, ↓reduceIte]; done) | rfl | (simp [sp_ofCell, eq_true c_2, if_true, ts_ss, ts_aa]; done) | (exfalso; clear hR C; simp_all; done)⟩
set_option maxHeartbeats 4000000 in
set_option maxRecDepth 100000 in
theorem kX8_set (c : tv_c) (s r : ts_T)  (p0 p1 : Int32) (hI : iv s) : tv_Fi c 19 yX8_set wsX8_set { frames := 1, cells := 0, slots := 0, locals := 22 } [.ref (tv_ad c 0), .int p0, .int p1] (eM c s r) ((sp_set s p0 p1).1) (eM c (sp_set s p0 p1).2 r) := by
  refine tv_metI (by decide +kernel) rfl rfl (Nat.le_of_ble_eq_true rfl) (fun X C hR => ?_)
  show tv_V c 19 X (eM c s r) 0 [(0, .ref (tv_ad c 0)), (1, .int p0), (2, .int p1)] []
  have hC := iv.hC hI
  obtain ⟨h, w, n, nk, nl, ny, nm, li, e2, e3, e9, hnw, hh, hw, hn, hz, hp, e7, hk, e8, hl, e4, hy, e5, hm, e6, hli, hcel, hkin, hban, hwei, hshe⟩ := id hI
  refine tv_iload_n C dX8_set_0 rfl 1 rfl ?_
  refine tv_iconst (v := 0) C dX8_set_1 (by decide) ?_
  refine tv_iconst (v := 1) C dX8_set_2 (by decide) ?_
  refine tv_callis (As := [.int p0, .int 0, .int 1]) (rest := []) C (kX8_within c s r  p0 0 1 ) gX8_set_X8_within rfl yd_X8_within ⟨rfl, rfl⟩ (by decide) rfl rfl (Nat.le_of_ble_eq_true rfl) dX8_set_3 (fun q_1 u_1 z_1 => ?_)
  obtain ⟨rfl, rfl⟩ := z_1
  refine tv_if_eq C 29 dX8_set_6 (by decide) (fun c_2 => ?_) (fun c_2 => ?_)
  · skip
    refine tv_bipush (v := (-2)) C dX8_set_29 (by decide) ?_
    exact hR _ _ _ _ dX8_set_31 ⟨by first | (simp only [sp_set, eq_true c_2, if_true, ↓reduceIte]; done) | rfl | (simp [sp_set, eq_true c_2, if_true]; done) | (exfalso; clear hR C; simp_all; done), by first | rfl | (simp only [sp_set, eq_true c_2, ↓reduceIte]; first | done | exact eM_id_line c (ts_s s 5 p1) r | exact eM_id_smoke2 c s r p1)⟩
  · skip
    obtain ⟨j_p0, hj_p0, ej_p0, ek_p0⟩ := in_in (b := 1) (by decide) c_2
    refine tv_iload_n C dX8_set_9 rfl 2 rfl ?_
    refine tv_iconst (v := 0) C dX8_set_10 (by decide) ?_
    refine tv_iload_n C dX8_set_11 rfl 1 rfl ?_
    refine tv_if_ne C 20 dX8_set_12 (by decide) (fun c_3 => ?_) (fun c_3 => ?_)
    · skip
      refine tv_sipush (v := 999) C dX8_set_20 (by decide) ?_
      refine tv_callis (As := [.int p1, .int 0, .int 999]) (rest := []) C (kX8_within c s r  p1 0 999 ) gX8_set_X8_within rfl yd_X8_within ⟨rfl, rfl⟩ (by decide) rfl rfl (Nat.le_of_ble_eq_true rfl) dX8_set_23 (fun q_4 u_4 z_4 => ?_)
      obtain ⟨rfl, rfl⟩ := z_4
      refine tv_if_ne C 32 dX8_set_26 (by decide) (fun c_5 => ?_) (fun c_5 => ?_)
      · skip
        obtain ⟨j_p1, hj_p1, ej_p1, ek_p1⟩ := in_in (b := 999) (by decide) c_5
        refine tv_aload_n C dX8_set_32 rfl 0 rfl ?_
        refine tv_calli (As := []) (rest := []) (ci := 8) (cn := RX8) (T := TX8) (Nf := 35) C 0 (kX8_all c s r   hC) gX8_set_X8_all rfl yd_X8_all ⟨rfl, rfl⟩ (by decide) (by decide) rfl rfl rfl rfl (Nat.le_of_ble_eq_true rfl) dX8_set_33 (fun q_6 u_6 z_6 => ?_)
        obtain ⟨rfl, rfl⟩ := z_6
        refine tv_if_ne C 42 dX8_set_36 (by decide) (fun c_7 => ?_) (fun c_7 => ?_)
        · skip
          have nc_7 : ¬ n = 0 := tn_nf (tn_eqI e9 (tn_l 0) (by omega) (by omega)) c_7
          refine tv_iload_n C dX8_set_42 rfl 1 rfl ?_
          refine tv_if_ne C 53 dX8_set_43 (by decide) (fun c_8 => ?_) (fun c_8 => absurd c_8 c_3)
          refine tv_aload_n C dX8_set_53 rfl 0 rfl ?_
          refine tv_get (ci := 8) (Cn := RX8) (T := TX8) (Nf := 35) (v := .int (s 6 0)) C 0 (by decide) rfl rfl in_X8_set_X8 9 (by decide) lk_X8_set_118 rfl dX8_set_54 ?_
          refine tv_istore_n (lv' := [(3, .int (s 6 0)), (0, .ref (tv_ad c 0)), (1, .int p0), (2, .int p1)]) C dX8_set_57 rfl (by decide) rfl ?_
          refine tv_aload_n C dX8_set_58 rfl 1 rfl ?_
          refine tv_iload_n C dX8_set_59 rfl 2 rfl ?_
          refine tv_if_ne C 67 dX8_set_60 (by decide) (fun c_9 => ?_) (fun c_9 => absurd c_9 c_3)
          refine tv_aload_n C dX8_set_67 rfl 1 rfl ?_
          refine tv_get (ci := 8) (Cn := RX8) (T := TX8) (Nf := 35) (v := .int (s 5 0)) C 0 (by decide) rfl rfl in_X8_set_X8 8 (by decide) lk_X8_set_115 rfl dX8_set_68 ?_
          refine tv_put (ci := 8) (Cn := RX8) (T := TX8) (Nf := 35) (ty := .int) (E' := (eM c (ts_s s 5 (s 5 0)) r)) C 0 (by decide) rfl rfl in_X8_set_X8 tyX8 tyX8_ok nmX8 8 (by decide) lk_X8_set_115 rfl (by decide +kernel) rfl rfl (Nat.le_of_ble_eq_true rfl) (eM_u_smoke c s r (s 5 0)) dX8_set_71 ?_
          refine tv_aload_n C dX8_set_74 rfl 1 rfl ?_
          refine tv_iload_n C dX8_set_75 rfl 2 rfl ?_
          refine tv_iconst (v := 1) C dX8_set_76 (by decide) ?_
          refine tv_icmp_ne C 84 dX8_set_77 (by decide) (fun c_10 => absurd (in_01 c_2 c_3) c_10) (fun c_10 => ?_)
          refine tv_iload_n C dX8_set_80 rfl 3 rfl ?_
          refine tv_goto C 88 dX8_set_81 (by decide) ?_
          refine tv_put (ci := 8) (Cn := RX8) (T := TX8) (Nf := 35) (ty := .int) (E' := (eM c (ts_s (ts_s s 5 (s 5 0)) 6 p1) r)) C 0 (by decide) rfl rfl in_X8_set_X8 tyX8 tyX8_ok nmX8 9 (by decide) lk_X8_set_118 rfl (by decide +kernel) rfl rfl (Nat.le_of_ble_eq_true rfl) (eM_u_line c (ts_s s 5 (s 5 0)) r p1) dX8_set_88 ?_
          refine tv_iload_n C dX8_set_91 rfl 0 rfl ?_
          exact hR _ _ _ _ dX8_set_92 ⟨by first | (simp only [sp_set, c_2, ek_p0, c_3, c_5, ek_p1, c_7, nc_7, c_8, c_9, eq_true c_10, if_true, ↓reduceIte]; done) | rfl | (simp [sp_set, c_2, ek_p0, c_3, c_5, ek_p1, c_7, nc_7, c_8, c_9, eq_true c_10, if_true]; done) | (exfalso; clear hR C; simp_all; done), by first | rfl | (simp only [sp_set, c_2, ek_p0, c_3, c_5, ek_p1, c_7, nc_7, c_8, c_9, eq_true c_10, ↓reduceIte]; first | done | exact eM_id_line c (ts_s s 5 p1) r | exact eM_id_smoke2 c s r p1)⟩
        · skip
          have nc_7 : n = 0 := (tn_eqI e9 (tn_l 0) (by omega) (by omega)).mp c_7
          refine tv_bipush (v := (-3)) C dX8_set_39 (by decide) ?_
          exact hR _ _ _ _ dX8_set_41 ⟨by first | (simp only [sp_set, c_2, ek_p0, c_3, c_5, ek_p1, eq_true c_7, nc_7, if_true, ↓reduceIte]; done) | rfl | (simp [sp_set, c_2, ek_p0, c_3, c_5, ek_p1, eq_true c_7, nc_7, if_true]; done) | (exfalso; clear hR C; simp_all; done), by first | rfl | (simp only [sp_set, c_2, ek_p0, c_3, c_5, ek_p1, eq_true c_7, nc_7, ↓reduceIte]; first | done | exact eM_id_line c (ts_s s 5 p1) r | exact eM_id_smoke2 c s r p1)⟩
      · skip
        refine tv_bipush (v := (-2)) C dX8_set_29 (by decide) ?_
        exact hR _ _ _ _ dX8_set_31 ⟨by first | (simp only [sp_set, c_2, ek_p0, c_3, eq_true c_5, if_true, ↓reduceIte]; done) | rfl | (simp [sp_set, c_2, ek_p0, c_3, eq_true c_5, if_true]; done) | (exfalso; clear hR C; simp_all; done), by first | rfl | (simp only [sp_set, c_2, ek_p0, c_3, eq_true c_5, ↓reduceIte]; first | done | exact eM_id_line c (ts_s s 5 p1) r | exact eM_id_smoke2 c s r p1)⟩
    · skip
      refine tv_bipush (v := 9) C dX8_set_15 (by decide) ?_
      refine tv_goto C 23 dX8_set_17 (by decide) ?_
      refine tv_callis (As := [.int p1, .int 0, .int 9]) (rest := []) C (kX8_within c s r  p1 0 9 ) gX8_set_X8_within rfl yd_X8_within ⟨rfl, rfl⟩ (by decide) rfl rfl (Nat.le_of_ble_eq_true rfl) dX8_set_23 (fun q_11 u_11 z_11 => ?_)
      obtain ⟨rfl, rfl⟩ := z_11
      refine tv_if_ne C 32 dX8_set_26 (by decide) (fun c_12 => ?_) (fun c_12 => ?_)
      · skip
        obtain ⟨j_p1, hj_p1, ej_p1, ek_p1⟩ := in_in (b := 9) (by decide) c_12
        refine tv_aload_n C dX8_set_32 rfl 0 rfl ?_
        refine tv_calli (As := []) (rest := []) (ci := 8) (cn := RX8) (T := TX8) (Nf := 35) C 0 (kX8_all c s r   hC) gX8_set_X8_all rfl yd_X8_all ⟨rfl, rfl⟩ (by decide) (by decide) rfl rfl rfl rfl (Nat.le_of_ble_eq_true rfl) dX8_set_33 (fun q_13 u_13 z_13 => ?_)
        obtain ⟨rfl, rfl⟩ := z_13
        refine tv_if_ne C 42 dX8_set_36 (by decide) (fun c_14 => ?_) (fun c_14 => ?_)
        · skip
          have nc_14 : ¬ n = 0 := tn_nf (tn_eqI e9 (tn_l 0) (by omega) (by omega)) c_14
          refine tv_iload_n C dX8_set_42 rfl 1 rfl ?_
          refine tv_if_ne C 53 dX8_set_43 (by decide) (fun c_15 => absurd c_3 c_15) (fun c_15 => ?_)
          refine tv_aload_n C dX8_set_46 rfl 0 rfl ?_
          refine tv_get (ci := 8) (Cn := RX8) (T := TX8) (Nf := 35) (v := .int (s 5 0)) C 0 (by decide) rfl rfl in_X8_set_X8 8 (by decide) lk_X8_set_115 rfl dX8_set_47 ?_
          refine tv_goto C 57 dX8_set_50 (by decide) ?_
          refine tv_istore_n (lv' := [(3, .int (s 5 0)), (0, .ref (tv_ad c 0)), (1, .int p0), (2, .int p1)]) C dX8_set_57 rfl (by decide) rfl ?_
          refine tv_aload_n C dX8_set_58 rfl 1 rfl ?_
          refine tv_iload_n C dX8_set_59 rfl 2 rfl ?_
          refine tv_if_ne C 67 dX8_set_60 (by decide) (fun c_16 => absurd c_3 c_16) (fun c_16 => ?_)
          refine tv_iload_n C dX8_set_63 rfl 3 rfl ?_
          refine tv_goto C 71 dX8_set_64 (by decide) ?_
          refine tv_put (ci := 8) (Cn := RX8) (T := TX8) (Nf := 35) (ty := .int) (E' := (eM c (ts_s s 5 p1) r)) C 0 (by decide) rfl rfl in_X8_set_X8 tyX8 tyX8_ok nmX8 8 (by decide) lk_X8_set_115 rfl (by decide +kernel) rfl rfl (Nat.le_of_ble_eq_true rfl) (eM_u_smoke c s r p1) dX8_set_71 ?_
          refine tv_aload_n C dX8_set_74 rfl 1 rfl ?_
          refine tv_iload_n C dX8_set_75 rfl 2 rfl ?_
          refine tv_iconst (v := 1) C dX8_set_76 (by decide) ?_
          refine tv_icmp_ne C 84 dX8_set_77 (by decide) (fun c_17 => ?_) (fun c_17 => absurd c_17 (by rw [c_3]; decide))
          refine tv_aload_n C dX8_set_84 rfl 1 rfl ?_
          refine tv_get (ci := 8) (Cn := RX8) (T := TX8) (Nf := 35) (v := .int (s 6 0)) C 0 (by decide) rfl rfl in_X8_set_X8 9 (by decide) lk_X8_set_118 rfl dX8_set_85 ?_
          refine tv_put (ci := 8) (Cn := RX8) (T := TX8) (Nf := 35) (ty := .int) (E' := (eM c (ts_s (ts_s s 5 p1) 6 (s 6 0)) r)) C 0 (by decide) rfl rfl in_X8_set_X8 tyX8 tyX8_ok nmX8 9 (by decide) lk_X8_set_118 rfl (by decide +kernel) rfl rfl (Nat.le_of_ble_eq_true rfl) (eM_u_line c (ts_s s 5 p1) r (s 6 0)) dX8_set_88 ?_
          refine tv_iload_n C dX8_set_91 rfl 0 rfl ?_
          exact hR _ _ _ _ dX8_set_92 ⟨by first | (simp only [sp_set, c_2, ek_p0, eq_true c_3, c_12, ek_p1, c_14, nc_14, eq_true c_15, eq_true c_16, c_17, if_true, ↓reduceIte]; done) | rfl | (simp [sp_set, c_2, ek_p0, eq_true c_3, c_12, ek_p1, c_14, nc_14, eq_true c_15, eq_true c_16, c_17, if_true]; done) | (exfalso; clear hR C; simp_all; done), by first | rfl | (simp only [sp_set, c_2, ek_p0, eq_true c_3, c_12, ek_p1, c_14, nc_14, eq_true c_15, eq_true c_16, c_17, ↓reduceIte]; first | done | exact eM_id_line c (ts_s s 5 p1) r | exact eM_id_smoke2 c s r p1)⟩
        · skip
          have nc_14 : n = 0 := (tn_eqI e9 (tn_l 0) (by omega) (by omega)).mp c_14
          refine tv_bipush (v := (-3)) C dX8_set_39 (by decide) ?_
          exact hR _ _ _ _ dX8_set_41 ⟨by first | (simp only [sp_set, c_2, ek_p0, eq_true c_3, c_12, ek_p1, eq_true c_14, nc_14, if_true, ↓reduceIte]; done) | rfl | (simp [sp_set, c_2, ek_p0, eq_true c_3, c_12, ek_p1, eq_true c_14, nc_14, if_true]; done) | (exfalso; clear hR C; simp_all; done), by first | rfl | (simp only [sp_set, c_2, ek_p0, eq_true c_3, c_12, ek_p1, eq_true c_14, nc_14, ↓reduceIte]; first | done | exact eM_id_line c (ts_s s 5 p1) r | exact eM_id_smoke2 c s r p1)⟩
      · skip
        refine tv_bipush (v := (-2)) C dX8_set_29 (by decide) ?_
        exact hR _ _ _ _ dX8_set_31 ⟨by first | (simp only [sp_set, c_2, ek_p0, eq_true c_3, eq_true c_12, if_true, ↓reduceIte]; done) | rfl | (simp [sp_set, c_2, ek_p0, eq_true c_3, eq_true c_12, if_true]; done) | (exfalso; clear hR C; simp_all; done), by first | rfl | (simp only [sp_set, c_2, ek_p0, eq_true c_3, eq_true c_12, ↓reduceIte]; first | done | exact eM_id_line c (ts_s s 5 p1) r | exact eM_id_smoke2 c s r p1)⟩
set_option maxHeartbeats 4000000 in
set_option maxRecDepth 100000 in
theorem kX8_hang (c : tv_c) (s r : ts_T)  (p0 p1 : Int32) (hI : iv s) (hz1 : p1 = 0 ∨ p1 = 1) : tv_Fi c 19 yX8_hang wsX8_hang { frames := 2, cells := 0, slots := 0, locals := 41 } [.ref (tv_ad c 0), .int p0, .int p1] (eM c s r) ((sp_hang s p0 p1).1) (eM c (sp_hang s p0 p1).2 r) := by
  refine tv_metI (by decide +kernel) rfl rfl (Nat.le_of_ble_eq_true rfl) (fun X C hR => ?_)
  show tv_V c 19 X (eM c s r) 0 [(0, .ref (tv_ad c 0)), (1, .int p0), (2, .int p1)] []
  have hC := iv.hC hI
  obtain ⟨h, w, n, nk, nl, ny, nm, li, e2, e3, e9, hnw, hh, hw, hn, hz, hp, e7, hk, e8, hl, e4, hy, e5, hm, e6, hli, hcel, hkin, hban, hwei, hshe⟩ := id hI
  refine tv_aload_n C dX8_hang_0 rfl 0 rfl ?_
  refine tv_iload_n C dX8_hang_1 rfl 1 rfl ?_
  refine tv_calli (As := [.int p0]) (rest := []) (ci := 8) (cn := RX8) (T := TX8) (Nf := 35) C 0 (kX8_isCell c s r  p0 hC) gX8_hang_X8_isCell rfl yd_X8_isCell ⟨rfl, rfl⟩ (by decide) (by decide) rfl rfl rfl rfl (Nat.le_of_ble_eq_true rfl) dX8_hang_2 (fun q_1 u_1 z_1 => ?_)
  obtain ⟨rfl, rfl⟩ := z_1
  refine tv_if_ne C 10 dX8_hang_5 (by decide) (fun c_2 => ?_) (fun c_2 => ?_)
  · skip
    obtain ⟨j_p0, hj_p0, ej_p0, ek_p0⟩ := in_ix e9 (by omega) c_2
    obtain ⟨fs_p0, ⟨b_p0, hb_p0, eb_p0⟩, fh_p0, fa_p0, fz_p0⟩ := hcel j_p0 hj_p0
    refine tv_aload_n C dX8_hang_10 rfl 0 rfl ?_
    refine tv_get (ci := 8) (Cn := RX8) (T := TX8) (Nf := 35) (v := .ref (tv_ad c 8)) C 0 (by decide) rfl rfl in_X8_hang_X8 14 (by decide) lk_X8_hang_31 rfl dX8_hang_11 ?_
    refine tv_iload_n C dX8_hang_14 rfl 1 rfl ?_
    refine tv_zald (f := (s 14)) (v := (s 14 j_p0)) C 8 (by decide) rfl j_p0 ej_p0 (show j_p0 < 24 by omega) (by decide) rfl dX8_hang_15 ?_
    refine tv_istore_n (lv' := [(3, .int (s 14 j_p0)), (0, .ref (tv_ad c 0)), (1, .int p0), (2, .int p1)]) C dX8_hang_16 rfl (by decide) rfl ?_
    refine tv_aload_n C dX8_hang_17 rfl 1 rfl ?_
    refine tv_get (ci := 8) (Cn := RX8) (T := TX8) (Nf := 35) (v := .ref (tv_ad c 8)) C 0 (by decide) rfl rfl in_X8_hang_X8 14 (by decide) lk_X8_hang_31 rfl dX8_hang_18 ?_
    refine tv_iload_n C dX8_hang_21 rfl 2 rfl ?_
    refine tv_iload_n C dX8_hang_22 rfl 3 rfl ?_
    refine tv_zast (E' := (eM c (ts_a s 14 (upd (s 14) j_p0 p1)) r)) C 8 (by decide) rfl j_p0 ej_p0 (show j_p0 < 24 by omega) (by decide) (tn_vz hz1) (eM_u_isHung c s r (upd (s 14) j_p0 p1)) dX8_hang_23 ?_
    refine tv_iload_n C dX8_hang_24 rfl 0 rfl ?_
    refine tv_iload_n C dX8_hang_25 rfl 3 rfl ?_
    refine tv_icmp_ne C 33 dX8_hang_26 (by decide) (fun c_3 => ?_) (fun c_3 => ?_)
    · skip
      refine tv_iconst (v := 1) C dX8_hang_33 (by decide) ?_
      exact hR _ _ _ _ dX8_hang_34 ⟨by first | (simp only [sp_hang, c_2, ek_p0, c_3, if_true, ↓reduceIte]; done) | rfl | (simp [sp_hang, c_2, ek_p0, c_3, if_true]; done) | (exfalso; clear hR C; simp_all; done), by first | (simp only [sp_hang, c_2, ek_p0, c_3, if_true, ts_ss, ts_aa, ↓reduceIte]; done) | rfl | (simp [sp_hang, c_2, ek_p0, c_3, if_true, ts_ss, ts_aa]; done) | (exfalso; clear hR C; simp_all; done)⟩
    · skip
      refine tv_iconst (v := 0) C dX8_hang_29 (by decide) ?_
      refine tv_goto C 34 dX8_hang_30 (by decide) ?_
      exact hR _ _ _ _ dX8_hang_34 ⟨by first | (simp only [sp_hang, c_2, ek_p0, eq_true c_3, if_true, ↓reduceIte]; done) | rfl | (simp [sp_hang, c_2, ek_p0, eq_true c_3, if_true]; done) | (exfalso; clear hR C; simp_all; done), by first | (simp only [sp_hang, c_2, ek_p0, eq_true c_3, if_true, ts_ss, ts_aa, ↓reduceIte]; done) | rfl | (simp [sp_hang, c_2, ek_p0, eq_true c_3, if_true, ts_ss, ts_aa]; done) | (exfalso; clear hR C; simp_all; done)⟩
  · skip
    refine tv_iconst (v := (-1)) C dX8_hang_8 (by decide) ?_
    exact hR _ _ _ _ dX8_hang_9 ⟨by first | (simp only [sp_hang, eq_true c_2, if_true, ↓reduceIte]; done) | rfl | (simp [sp_hang, eq_true c_2, if_true]; done) | (exfalso; clear hR C; simp_all; done), by first | (simp only [sp_hang, eq_true c_2, if_true, ts_ss, ts_aa, ↓reduceIte]; done) | rfl | (simp [sp_hang, eq_true c_2, if_true, ts_ss, ts_aa]; done) | (exfalso; clear hR C; simp_all; done)⟩
set_option maxHeartbeats 4000000 in
set_option maxRecDepth 100000 in
theorem kX8_comesOf (c : tv_c) (s r : ts_T)  (k : Nat) (b : Nat) (p0 p1 p2 p3 p4 : Int32) (e_p0 : p0 = nI k) (h_p0 : k < 6) (e_p1 : p1 = nI b) (h_p1 : b < 3) : tv_Fi c 19 yX8_comesOf wsX8_comesOf { frames := 1, cells := 0, slots := 0, locals := 28 } [.ref (tv_ad c 0), .int p0, .int p1, .int p2, .int p3, .int p4] (eM c s r) (sp_cm (s 15 k) (s 16 (3 * k + b)) p1 p2 p3 (s 5 0) p4) (eM c s r) := by
  refine tv_metI (by decide +kernel) rfl rfl (Nat.le_of_ble_eq_true rfl) (fun X C hR => ?_)
  show tv_V c 19 X (eM c s r) 0 [(0, .ref (tv_ad c 0)), (1, .int p0), (2, .int p1), (3, .int p2), (4, .int p3), (5, .int p4)] []
  refine tv_aload_n C dX8_comesOf_0 rfl 0 rfl ?_
  refine tv_aload_n C dX8_comesOf_1 rfl 0 rfl ?_
  refine tv_get (ci := 8) (Cn := RX8) (T := TX8) (Nf := 35) (v := .ref (tv_ad c 10)) C 0 (by decide) rfl rfl in_X8_comesOf_X8 20 (by decide) lk_X8_comesOf_38 rfl dX8_comesOf_2 ?_
  refine tv_iload_n C dX8_comesOf_5 rfl 1 rfl ?_
  refine tv_iald (f := (s 15)) (v := (s 15 k)) C 10 (by decide) rfl k e_p0 (show k < 6 by omega) (by decide) rfl dX8_comesOf_6 ?_
  refine tv_aload_n C dX8_comesOf_7 rfl 0 rfl ?_
  refine tv_get (ci := 8) (Cn := RX8) (T := TX8) (Nf := 35) (v := .ref (tv_ad c 11)) C 0 (by decide) rfl rfl in_X8_comesOf_X8 21 (by decide) lk_X8_comesOf_41 rfl dX8_comesOf_8 ?_
  refine tv_iconst (v := 3) C dX8_comesOf_11 (by decide) ?_
  refine tv_iload_n C dX8_comesOf_12 rfl 1 rfl ?_
  refine tv_imul C dX8_comesOf_13 ?_
  refine tv_iload_n C dX8_comesOf_14 rfl 2 rfl ?_
  refine tv_iadd C dX8_comesOf_15 ?_
  refine tv_iald (f := (s 16)) (v := (s 16 ((3 * k) + b))) C 11 (by decide) rfl ((3 * k) + b) (tn_add (tn_mul (tn_l 3) e_p0) e_p1) (show ((3 * k) + b) < 18 by omega) (by decide) rfl dX8_comesOf_16 ?_
  refine tv_iload_n C dX8_comesOf_17 rfl 2 rfl ?_
  refine tv_iload_n C dX8_comesOf_18 rfl 3 rfl ?_
  refine tv_iload C dX8_comesOf_19 4 rfl ?_
  refine tv_iload C dX8_comesOf_21 5 rfl ?_
  refine tv_calli (As := [.int (s 15 k), .int (s 16 ((3 * k) + b)), .int p1, .int p2, .int p3, .int p4]) (rest := []) (ci := 8) (cn := RX8) (T := TX8) (Nf := 35) C 0 (kX8_comes c s r  (s 15 k) (s 16 ((3 * k) + b)) p1 p2 p3 p4 ) gX8_comesOf_X8_comes rfl yd_X8_comes ⟨rfl, rfl⟩ (by decide) (by decide) rfl rfl rfl rfl (Nat.le_of_ble_eq_true rfl) dX8_comesOf_23 (fun q_1 u_1 z_1 => ?_)
  obtain ⟨rfl, rfl⟩ := z_1
  exact hR _ _ _ _ dX8_comesOf_26 ⟨by first | (simp only [if_true, ↓reduceIte]; done) | rfl | (simp [if_true]; done) | (exfalso; clear hR C; simp_all; done), by first | (simp only [if_true, ts_ss, ts_aa, ↓reduceIte]; done) | rfl | (simp [if_true, ts_ss, ts_aa]; done) | (exfalso; clear hR C; simp_all; done)⟩
set_option maxHeartbeats 4000000 in
set_option maxRecDepth 100000 in
theorem kX8_lookOf (c : tv_c) (s r : ts_T)  (k : Nat) (l : Nat) (p0 p1 p2 p3 p4 : Int32) (e_p0 : p0 = nI k) (h_p0 : k < 6) (e_p3 : p3 = nI l) (h_p3 : l < 4) : tv_Fi c 19 yX8_lookOf wsX8_lookOf { frames := 2, cells := 0, slots := 0, locals := 53 } [.ref (tv_ad c 0), .int p0, .int p1, .int p2, .int p3, .int p4] (eM c s r) (sp_lk s k p1 p2 l p4) (eM c s r) := by
  refine tv_metI (by decide +kernel) rfl rfl (Nat.le_of_ble_eq_true rfl) (fun X C hR => ?_)
  show tv_V c 19 X (eM c s r) 0 [(0, .ref (tv_ad c 0)), (1, .int p0), (2, .int p1), (3, .int p2), (4, .int p3), (5, .int p4)] []
  refine tv_iconst (v := 0) C dX8_lookOf_0 (by decide) ?_
  refine tv_istore (lv' := [(6, .int 0), (0, .ref (tv_ad c 0)), (1, .int p0), (2, .int p1), (3, .int p2), (4, .int p3), (5, .int p4)]) C dX8_lookOf_1 (by decide) rfl ?_
  refine tv_iconst (v := 0) C dX8_lookOf_3 (by decide) ?_
  refine tv_istore (lv' := [(7, .int 0), (6, .int 0), (0, .ref (tv_ad c 0)), (1, .int p0), (2, .int p1), (3, .int p2), (4, .int p3), (5, .int p4)]) C dX8_lookOf_4 (by decide) rfl ?_
  refine tv_iload C dX8_lookOf_6 0 rfl ?_
  refine tv_iconst (v := 3) C dX8_lookOf_8 (by decide) ?_
  refine tv_icmp_ge C 47 dX8_lookOf_9 (by decide) (fun c_1 => absurd c_1 (by decide)) (fun c_1 => ?_)
  refine tv_iload C dX8_lookOf_12 1 rfl ?_
  refine tv_aload_n C dX8_lookOf_14 rfl 2 rfl ?_
  refine tv_iload_n C dX8_lookOf_15 rfl 3 rfl ?_
  refine tv_iload C dX8_lookOf_16 0 rfl ?_
  refine tv_iload_n C dX8_lookOf_18 rfl 4 rfl ?_
  refine tv_iload_n C dX8_lookOf_19 rfl 5 rfl ?_
  refine tv_iload C dX8_lookOf_20 7 rfl ?_
  refine tv_calli (As := [.int p0, .int 0, .int p1, .int p2, .int p4]) (rest := [.int 0]) (ci := 8) (cn := RX8) (T := TX8) (Nf := 35) C 0 (kX8_comesOf c s r k 0 p0 0 p1 p2 p4 e_p0 (by omega) (tn_l 0) (by omega)) gX8_lookOf_X8_comesOf rfl yd_X8_comesOf ⟨rfl, rfl⟩ (by decide) (by decide) rfl rfl rfl rfl (Nat.le_of_ble_eq_true rfl) dX8_lookOf_22 (fun q_2 u_2 z_2 => ?_)
  obtain ⟨rfl, rfl⟩ := z_2
  refine tv_aload_n C dX8_lookOf_25 rfl 2 rfl ?_
  refine tv_get (ci := 8) (Cn := RX8) (T := TX8) (Nf := 35) (v := .ref (tv_ad c 12)) C 0 (by decide) rfl rfl in_X8_lookOf_X8 23 (by decide) lk_X8_lookOf_44 rfl dX8_lookOf_26 ?_
  refine tv_iconst (v := 3) C dX8_lookOf_29 (by decide) ?_
  refine tv_iload C dX8_lookOf_30 6 rfl ?_
  refine tv_imul C dX8_lookOf_32 ?_
  refine tv_iload C dX8_lookOf_33 0 rfl ?_
  refine tv_iadd C dX8_lookOf_35 ?_
  refine tv_iald (f := (s 17)) (v := (s 17 ((3 * l) + 0))) C 12 (by decide) rfl ((3 * l) + 0) (tn_add (tn_mul (tn_l 3) e_p3) (tn_l 0)) (show ((3 * l) + 0) < 12 by omega) (by decide) rfl dX8_lookOf_36 ?_
  refine tv_imul C dX8_lookOf_37 ?_
  refine tv_iadd C dX8_lookOf_38 ?_
  refine tv_istore (lv' := [(6, .int (0 + ((sp_cm (s 15 k) (s 16 (3 * k + 0)) 0 p1 p2 (s 5 0) p4) * (s 17 ((3 * l) + 0))))), (7, .int 0), (0, .ref (tv_ad c 0)), (1, .int p0), (2, .int p1), (3, .int p2), (4, .int p3), (5, .int p4)]) C dX8_lookOf_39 (by decide) rfl ?_
  refine tv_iinc (v := 1) (lv' := [(7, .int 1), (6, .int (0 + ((sp_cm (s 15 k) (s 16 (3 * k + 0)) 0 p1 p2 (s 5 0) p4) * (s 17 ((3 * l) + 0))))), (0, .ref (tv_ad c 0)), (1, .int p0), (2, .int p1), (3, .int p2), (4, .int p3), (5, .int p4)]) C dX8_lookOf_41 1 rfl (by decide) (by decide) rfl ?_
  refine tv_goto C 6 dX8_lookOf_44 (by decide) ?_
  refine tv_iload C dX8_lookOf_6 0 rfl ?_
  refine tv_iconst (v := 3) C dX8_lookOf_8 (by decide) ?_
  refine tv_icmp_ge C 47 dX8_lookOf_9 (by decide) (fun c_3 => absurd c_3 (by decide)) (fun c_3 => ?_)
  refine tv_iload C dX8_lookOf_12 1 rfl ?_
  refine tv_aload_n C dX8_lookOf_14 rfl 2 rfl ?_
  refine tv_iload_n C dX8_lookOf_15 rfl 3 rfl ?_
  refine tv_iload C dX8_lookOf_16 0 rfl ?_
  refine tv_iload_n C dX8_lookOf_18 rfl 4 rfl ?_
  refine tv_iload_n C dX8_lookOf_19 rfl 5 rfl ?_
  refine tv_iload C dX8_lookOf_20 7 rfl ?_
  refine tv_calli (As := [.int p0, .int 1, .int p1, .int p2, .int p4]) (rest := [.int (0 + ((sp_cm (s 15 k) (s 16 (3 * k + 0)) 0 p1 p2 (s 5 0) p4) * (s 17 ((3 * l) + 0))))]) (ci := 8) (cn := RX8) (T := TX8) (Nf := 35) C 0 (kX8_comesOf c s r k 1 p0 1 p1 p2 p4 e_p0 (by omega) (tn_l 1) (by omega)) gX8_lookOf_X8_comesOf rfl yd_X8_comesOf ⟨rfl, rfl⟩ (by decide) (by decide) rfl rfl rfl rfl (Nat.le_of_ble_eq_true rfl) dX8_lookOf_22 (fun q_4 u_4 z_4 => ?_)
  obtain ⟨rfl, rfl⟩ := z_4
  refine tv_aload_n C dX8_lookOf_25 rfl 2 rfl ?_
  refine tv_get (ci := 8) (Cn := RX8) (T := TX8) (Nf := 35) (v := .ref (tv_ad c 12)) C 0 (by decide) rfl rfl in_X8_lookOf_X8 23 (by decide) lk_X8_lookOf_44 rfl dX8_lookOf_26 ?_
  refine tv_iconst (v := 3) C dX8_lookOf_29 (by decide) ?_
  refine tv_iload C dX8_lookOf_30 6 rfl ?_
  refine tv_imul C dX8_lookOf_32 ?_
  refine tv_iload C dX8_lookOf_33 0 rfl ?_
  refine tv_iadd C dX8_lookOf_35 ?_
  refine tv_iald (f := (s 17)) (v := (s 17 ((3 * l) + 1))) C 12 (by decide) rfl ((3 * l) + 1) (tn_add (tn_mul (tn_l 3) e_p3) (tn_l 1)) (show ((3 * l) + 1) < 12 by omega) (by decide) rfl dX8_lookOf_36 ?_
  refine tv_imul C dX8_lookOf_37 ?_
  refine tv_iadd C dX8_lookOf_38 ?_
  refine tv_istore (lv' := [(6, .int ((0 + ((sp_cm (s 15 k) (s 16 (3 * k + 0)) 0 p1 p2 (s 5 0) p4) * (s 17 ((3 * l) + 0)))) + ((sp_cm (s 15 k) (s 16 (3 * k + 1)) 1 p1 p2 (s 5 0) p4) * (s 17 ((3 * l) + 1))))), (7, .int 1), (0, .ref (tv_ad c 0)), (1, .int p0), (2, .int p1), (3, .int p2), (4, .int p3), (5, .int p4)]) C dX8_lookOf_39 (by decide) rfl ?_
  refine tv_iinc (v := 2) (lv' := [(7, .int 2), (6, .int ((0 + ((sp_cm (s 15 k) (s 16 (3 * k + 0)) 0 p1 p2 (s 5 0) p4) * (s 17 ((3 * l) + 0)))) + ((sp_cm (s 15 k) (s 16 (3 * k + 1)) 1 p1 p2 (s 5 0) p4) * (s 17 ((3 * l) + 1))))), (0, .ref (tv_ad c 0)), (1, .int p0), (2, .int p1), (3, .int p2), (4, .int p3), (5, .int p4)]) C dX8_lookOf_41 1 rfl (by decide) (by decide) rfl ?_
  refine tv_goto C 6 dX8_lookOf_44 (by decide) ?_
  refine tv_iload C dX8_lookOf_6 0 rfl ?_
  refine tv_iconst (v := 3) C dX8_lookOf_8 (by decide) ?_
  refine tv_icmp_ge C 47 dX8_lookOf_9 (by decide) (fun c_5 => absurd c_5 (by decide)) (fun c_5 => ?_)
  refine tv_iload C dX8_lookOf_12 1 rfl ?_
  refine tv_aload_n C dX8_lookOf_14 rfl 2 rfl ?_
  refine tv_iload_n C dX8_lookOf_15 rfl 3 rfl ?_
  refine tv_iload C dX8_lookOf_16 0 rfl ?_
  refine tv_iload_n C dX8_lookOf_18 rfl 4 rfl ?_
  refine tv_iload_n C dX8_lookOf_19 rfl 5 rfl ?_
  refine tv_iload C dX8_lookOf_20 7 rfl ?_
  refine tv_calli (As := [.int p0, .int 2, .int p1, .int p2, .int p4]) (rest := [.int ((0 + ((sp_cm (s 15 k) (s 16 (3 * k + 0)) 0 p1 p2 (s 5 0) p4) * (s 17 ((3 * l) + 0)))) + ((sp_cm (s 15 k) (s 16 (3 * k + 1)) 1 p1 p2 (s 5 0) p4) * (s 17 ((3 * l) + 1))))]) (ci := 8) (cn := RX8) (T := TX8) (Nf := 35) C 0 (kX8_comesOf c s r k 2 p0 2 p1 p2 p4 e_p0 (by omega) (tn_l 2) (by omega)) gX8_lookOf_X8_comesOf rfl yd_X8_comesOf ⟨rfl, rfl⟩ (by decide) (by decide) rfl rfl rfl rfl (Nat.le_of_ble_eq_true rfl) dX8_lookOf_22 (fun q_6 u_6 z_6 => ?_)
  obtain ⟨rfl, rfl⟩ := z_6
  refine tv_aload_n C dX8_lookOf_25 rfl 2 rfl ?_
  refine tv_get (ci := 8) (Cn := RX8) (T := TX8) (Nf := 35) (v := .ref (tv_ad c 12)) C 0 (by decide) rfl rfl in_X8_lookOf_X8 23 (by decide) lk_X8_lookOf_44 rfl dX8_lookOf_26 ?_
  refine tv_iconst (v := 3) C dX8_lookOf_29 (by decide) ?_
  refine tv_iload C dX8_lookOf_30 6 rfl ?_
  refine tv_imul C dX8_lookOf_32 ?_
  refine tv_iload C dX8_lookOf_33 0 rfl ?_
  refine tv_iadd C dX8_lookOf_35 ?_
  refine tv_iald (f := (s 17)) (v := (s 17 ((3 * l) + 2))) C 12 (by decide) rfl ((3 * l) + 2) (tn_add (tn_mul (tn_l 3) e_p3) (tn_l 2)) (show ((3 * l) + 2) < 12 by omega) (by decide) rfl dX8_lookOf_36 ?_
  refine tv_imul C dX8_lookOf_37 ?_
  refine tv_iadd C dX8_lookOf_38 ?_
  refine tv_istore (lv' := [(6, .int (((0 + ((sp_cm (s 15 k) (s 16 (3 * k + 0)) 0 p1 p2 (s 5 0) p4) * (s 17 ((3 * l) + 0)))) + ((sp_cm (s 15 k) (s 16 (3 * k + 1)) 1 p1 p2 (s 5 0) p4) * (s 17 ((3 * l) + 1)))) + ((sp_cm (s 15 k) (s 16 (3 * k + 2)) 2 p1 p2 (s 5 0) p4) * (s 17 ((3 * l) + 2))))), (7, .int 2), (0, .ref (tv_ad c 0)), (1, .int p0), (2, .int p1), (3, .int p2), (4, .int p3), (5, .int p4)]) C dX8_lookOf_39 (by decide) rfl ?_
  refine tv_iinc (v := 3) (lv' := [(7, .int 3), (6, .int (((0 + ((sp_cm (s 15 k) (s 16 (3 * k + 0)) 0 p1 p2 (s 5 0) p4) * (s 17 ((3 * l) + 0)))) + ((sp_cm (s 15 k) (s 16 (3 * k + 1)) 1 p1 p2 (s 5 0) p4) * (s 17 ((3 * l) + 1)))) + ((sp_cm (s 15 k) (s 16 (3 * k + 2)) 2 p1 p2 (s 5 0) p4) * (s 17 ((3 * l) + 2))))), (0, .ref (tv_ad c 0)), (1, .int p0), (2, .int p1), (3, .int p2), (4, .int p3), (5, .int p4)]) C dX8_lookOf_41 1 rfl (by decide) (by decide) rfl ?_
  refine tv_goto C 6 dX8_lookOf_44 (by decide) ?_
  refine tv_iload C dX8_lookOf_6 0 rfl ?_
  refine tv_iconst (v := 3) C dX8_lookOf_8 (by decide) ?_
  refine tv_icmp_ge C 47 dX8_lookOf_9 (by decide) (fun c_7 => ?_) (fun c_7 => absurd (by decide) c_7)
  refine tv_iload C dX8_lookOf_47 1 rfl ?_
  exact hR _ _ _ _ dX8_lookOf_49 ⟨by first | (simp only [sp_lk, if_true, ↓reduceIte]; done) | rfl | (simp [sp_lk, if_true]; done) | (exfalso; clear hR C; simp_all; done), by first | (simp only [sp_lk, if_true, ts_ss, ts_aa, ↓reduceIte]; done) | rfl | (simp [sp_lk, if_true, ts_ss, ts_aa]; done) | (exfalso; clear hR C; simp_all; done)⟩
set_option maxHeartbeats 4000000 in
set_option maxRecDepth 100000 in
theorem kX8_lookNow (c : tv_c) (s r : ts_T)  (j : Nat) (l : Nat) (p0 p1 p2 : Int32) (e_p0 : p0 = nI j) (h_p0 : j < 24) (e_p1 : p1 = nI l) (h_p1 : l < 4) (hc : ∃ k, k < 6 ∧ s 11 j = nI k) : tv_Fi c 19 yX8_lookNow wsX8_lookNow { frames := 3, cells := 0, slots := 0, locals := 80 } [.ref (tv_ad c 0), .int p0, .int p1, .int p2] (eM c s r) (sp_ln s j l p2) (eM c s r) := by
  refine tv_metI (by decide +kernel) rfl rfl (Nat.le_of_ble_eq_true rfl) (fun X C hR => ?_)
  show tv_V c 19 X (eM c s r) 0 [(0, .ref (tv_ad c 0)), (1, .int p0), (2, .int p1), (3, .int p2)] []
  obtain ⟨kc, hkc, ekc⟩ := hc
  have etk := tk_e ekc (by omega)
  refine tv_aload_n C dX8_lookNow_0 rfl 0 rfl ?_
  refine tv_aload_n C dX8_lookNow_1 rfl 0 rfl ?_
  refine tv_get (ci := 8) (Cn := RX8) (T := TX8) (Nf := 35) (v := .ref (tv_ad c 5)) C 0 (by decide) rfl rfl in_X8_lookNow_X8 11 (by decide) lk_X8_lookNow_22 rfl dX8_lookNow_2 ?_
  refine tv_iload_n C dX8_lookNow_5 rfl 1 rfl ?_
  refine tv_iald (f := (s 11)) (v := (s 11 j)) C 5 (by decide) rfl j e_p0 (show j < 24 by omega) (by decide) rfl dX8_lookNow_6 ?_
  refine tv_aload_n C dX8_lookNow_7 rfl 0 rfl ?_
  refine tv_get (ci := 8) (Cn := RX8) (T := TX8) (Nf := 35) (v := .ref (tv_ad c 6)) C 0 (by decide) rfl rfl in_X8_lookNow_X8 12 (by decide) lk_X8_lookNow_25 rfl dX8_lookNow_8 ?_
  refine tv_iload_n C dX8_lookNow_11 rfl 1 rfl ?_
  refine tv_iald (f := (s 12)) (v := (s 12 j)) C 6 (by decide) rfl j e_p0 (show j < 24 by omega) (by decide) rfl dX8_lookNow_12 ?_
  refine tv_aload_n C dX8_lookNow_13 rfl 0 rfl ?_
  refine tv_get (ci := 8) (Cn := RX8) (T := TX8) (Nf := 35) (v := .ref (tv_ad c 7)) C 0 (by decide) rfl rfl in_X8_lookNow_X8 13 (by decide) lk_X8_lookNow_28 rfl dX8_lookNow_14 ?_
  refine tv_iload_n C dX8_lookNow_17 rfl 1 rfl ?_
  refine tv_iald (f := (s 13)) (v := (s 13 j)) C 7 (by decide) rfl j e_p0 (show j < 24 by omega) (by decide) rfl dX8_lookNow_18 ?_
  refine tv_iload_n C dX8_lookNow_19 rfl 2 rfl ?_
  refine tv_iload_n C dX8_lookNow_20 rfl 3 rfl ?_
  refine tv_calli (As := [.int (s 11 j), .int (s 12 j), .int (s 13 j), .int p1, .int p2]) (rest := []) (ci := 8) (cn := RX8) (T := TX8) (Nf := 35) C 0 (kX8_lookOf c s r kc l (s 11 j) (s 12 j) (s 13 j) p1 p2 ekc (by omega) e_p1 (by omega)) gX8_lookNow_X8_lookOf rfl yd_X8_lookOf ⟨rfl, rfl⟩ (by decide) (by decide) rfl rfl rfl rfl (Nat.le_of_ble_eq_true rfl) dX8_lookNow_21 (fun q_1 u_1 z_1 => ?_)
  obtain ⟨rfl, rfl⟩ := z_1
  exact hR _ _ _ _ dX8_lookNow_24 ⟨by first | (simp only [sp_ln, etk, if_true, ↓reduceIte]; done) | rfl | (simp [sp_ln, etk, if_true]; done) | (exfalso; clear hR C; simp_all; done), by first | (simp only [sp_ln, etk, if_true, ts_ss, ts_aa, ↓reduceIte]; done) | rfl | (simp [sp_ln, etk, if_true, ts_ss, ts_aa]; done) | (exfalso; clear hR C; simp_all; done)⟩
