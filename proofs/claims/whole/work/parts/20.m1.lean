theorem yd_X8_within : yX8_within.cls = RX8 ∧ yX8_within.cls ≠ "java/lang/invoke/MethodHandle" ∧ yX8_within.cls ≠ "java/lang/invoke/VarHandle" ∧ (parseMethodDescriptor yX8_within.desc).map (fun d => d.parameters.length) = some 3 := by decide +kernel
set_option maxRecDepth 20000 in
theorem in_X8_fails_X8 : ∀ w ∈ u_ws RX8 TX8 35, w ∈ wsX8_fails := by decide +kernel
set_option maxRecDepth 20000 in
theorem lk_X8_fails_65 : Cond.fieldLink RX8 65 (TX8 0).1 (TX8 0).2.1 (TX8 0).2.2.1 ∈ wsX8_fails := by decide +kernel
set_option maxRecDepth 20000 in
theorem in_X8_lost_X8 : ∀ w ∈ u_ws RX8 TX8 35, w ∈ wsX8_lost := by decide +kernel
set_option maxRecDepth 20000 in
theorem lk_X8_lost_65 : Cond.fieldLink RX8 65 (TX8 0).1 (TX8 0).2.1 (TX8 0).2.2.1 ∈ wsX8_lost := by decide +kernel
set_option maxRecDepth 20000 in
theorem wd_X8_lost_k69 : Cond.constantLong RX8 69 (-9223372036854775808) ∈ wsX8_lost := by decide +kernel
set_option maxRecDepth 20000 in
theorem in_X8_all_X8 : ∀ w ∈ u_ws RX8 TX8 35, w ∈ wsX8_all := by decide +kernel
set_option maxRecDepth 20000 in
theorem lk_X8_all_75 : Cond.fieldLink RX8 75 (TX8 5).1 (TX8 5).2.1 (TX8 5).2.2.1 ∈ wsX8_all := by decide +kernel
set_option maxRecDepth 20000 in
theorem lk_X8_all_78 : Cond.fieldLink RX8 78 (TX8 6).1 (TX8 6).2.1 (TX8 6).2.2.1 ∈ wsX8_all := by decide +kernel
theorem yd_X8_all : yX8_all.cls = RX8 ∧ yX8_all.cls ≠ "java/lang/invoke/MethodHandle" ∧ yX8_all.cls ≠ "java/lang/invoke/VarHandle" ∧ (parseMethodDescriptor yX8_all.desc).map (fun d => d.parameters.length) = some 0 := by decide +kernel
set_option maxRecDepth 20000 in
theorem in_X8_isCoat_X8 : ∀ w ∈ u_ws RX8 TX8 35, w ∈ wsX8_isCoat := by decide +kernel
set_option maxRecDepth 20000 in
theorem lk_X8_isCoat_124 : Cond.fieldLink RX8 124 (TX8 19).1 (TX8 19).2.1 (TX8 19).2.2.1 ∈ wsX8_isCoat := by decide +kernel
set_option maxRecDepth 20000 in
theorem in_X8_isLight_X8 : ∀ w ∈ u_ws RX8 TX8 35, w ∈ wsX8_isLight := by decide +kernel
set_option maxRecDepth 20000 in
theorem lk_X8_isLight_121 : Cond.fieldLink RX8 121 (TX8 22).1 (TX8 22).2.1 (TX8 22).2.2.1 ∈ wsX8_isLight := by decide +kernel
set_option maxRecDepth 20000 in
theorem in_X8_begins_X8 : ∀ w ∈ u_ws RX8 TX8 35, w ∈ wsX8_begins := by decide +kernel
set_option maxRecDepth 20000 in
theorem lk_X8_begins_229 : Cond.fieldLink RX8 229 (TX8 1).1 (TX8 1).2.1 (TX8 1).2.2.1 ∈ wsX8_begins := by decide +kernel
set_option maxRecDepth 20000 in
theorem in_X8_trace_X8 : ∀ w ∈ u_ws RX8 TX8 35, w ∈ wsX8_trace := by decide +kernel
set_option maxRecDepth 20000 in
theorem lk_X8_trace_229 : Cond.fieldLink RX8 229 (TX8 1).1 (TX8 1).2.1 (TX8 1).2.2.1 ∈ wsX8_trace := by decide +kernel
set_option maxRecDepth 20000 in
theorem in_X8_fault_X8 : ∀ w ∈ u_ws RX8 TX8 35, w ∈ wsX8_fault := by decide +kernel
set_option maxRecDepth 20000 in
theorem lk_X8_fault_65 : Cond.fieldLink RX8 65 (TX8 0).1 (TX8 0).2.1 (TX8 0).2.2.1 ∈ wsX8_fault := by decide +kernel
set_option maxRecDepth 20000 in
theorem in_X8_comes_X8 : ∀ w ∈ u_ws RX8 TX8 35, w ∈ wsX8_comes := by decide +kernel
set_option maxRecDepth 20000 in
theorem lk_X8_comes_115 : Cond.fieldLink RX8 115 (TX8 8).1 (TX8 8).2.1 (TX8 8).2.2.1 ∈ wsX8_comes := by decide +kernel
set_option maxHeartbeats 4000000 in
set_option maxRecDepth 100000 in
theorem kX8_within (c : tv_c) (s r : ts_T)  (p0 p1 p2 : Int32)  : tv_Fi c 19 yX8_within wsX8_within { frames := 0, cells := 0, slots := 0, locals := 0 } [.int p0, .int p1, .int p2] (eM c s r) (sp_in p0 p1 p2) (eM c s r) := by
  refine tv_metZ (by decide +kernel) rfl rfl (Nat.le_of_ble_eq_true rfl) (fun X C hR => ?_)
  show tv_V c 19 X (eM c s r) 0 [(0, .int p0), (1, .int p1), (2, .int p2)] []
  refine tv_iload_n C dX8_within_0 rfl 0 rfl ?_
  refine tv_iload_n C dX8_within_1 rfl 1 rfl ?_
  refine tv_icmp_lt C 14 dX8_within_2 (by decide) (fun c_1 => ?_) (fun c_1 => ?_)
  · skip
    refine tv_iconst (v := 0) C dX8_within_14 (by decide) ?_
    exact hR _ _ _ _ dX8_within_15 (by first | rfl | exact tn_nz (sp_in_z _ _ _) | exact tn_nz (sp_ix_z _ _)) ⟨by first | (simp only [sp_in, c_1, tn_d_lt c_1, if_true, ↓reduceIte]; done) | rfl | (simp [sp_in, c_1, tn_d_lt c_1, if_true]; done) | (exfalso; clear hR C; simp_all; done), by first | (simp only [sp_in, c_1, tn_d_lt c_1, if_true, ts_ss, ts_aa, ↓reduceIte]; done) | rfl | (simp [sp_in, c_1, tn_d_lt c_1, if_true, ts_ss, ts_aa]; done) | (exfalso; clear hR C; simp_all; done)⟩
  · skip
    refine tv_iload_n C dX8_within_5 rfl 0 rfl ?_
    refine tv_iload_n C dX8_within_6 rfl 2 rfl ?_
    refine tv_icmp_gt C 14 dX8_within_7 (by decide) (fun c_2 => ?_) (fun c_2 => ?_)
    · skip
      refine tv_iconst (v := 0) C dX8_within_14 (by decide) ?_
      exact hR _ _ _ _ dX8_within_15 (by first | rfl | exact tn_nz (sp_in_z _ _ _) | exact tn_nz (sp_ix_z _ _)) ⟨by first | (simp only [sp_in, c_1, tn_d_nlt c_1, c_2, tn_d_lt c_2, if_true, ↓reduceIte]; done) | rfl | (simp [sp_in, c_1, tn_d_nlt c_1, c_2, tn_d_lt c_2, if_true]; done) | (exfalso; clear hR C; simp_all; done), by first | (simp only [sp_in, c_1, tn_d_nlt c_1, c_2, tn_d_lt c_2, if_true, ts_ss, ts_aa, ↓reduceIte]; done) | rfl | (simp [sp_in, c_1, tn_d_nlt c_1, c_2, tn_d_lt c_2, if_true, ts_ss, ts_aa]; done) | (exfalso; clear hR C; simp_all; done)⟩
    · skip
      refine tv_iconst (v := 1) C dX8_within_10 (by decide) ?_
      refine tv_goto C 15 dX8_within_11 (by decide) ?_
      exact hR _ _ _ _ dX8_within_15 (by first | rfl | exact tn_nz (sp_in_z _ _ _) | exact tn_nz (sp_ix_z _ _)) ⟨by first | (simp only [sp_in, c_1, tn_d_nlt c_1, c_2, tn_d_nlt c_2, if_true, ↓reduceIte]; done) | rfl | (simp [sp_in, c_1, tn_d_nlt c_1, c_2, tn_d_nlt c_2, if_true]; done) | (exfalso; clear hR C; simp_all; done), by first | (simp only [sp_in, c_1, tn_d_nlt c_1, c_2, tn_d_nlt c_2, if_true, ts_ss, ts_aa, ↓reduceIte]; done) | rfl | (simp [sp_in, c_1, tn_d_nlt c_1, c_2, tn_d_nlt c_2, if_true, ts_ss, ts_aa]; done) | (exfalso; clear hR C; simp_all; done)⟩
set_option maxHeartbeats 4000000 in
set_option maxRecDepth 100000 in
theorem kX8_isSheet (c : tv_c) (s r : ts_T)  (p0 : Int32)  : tv_Fi c 19 yX8_isSheet wsX8_isSheet { frames := 1, cells := 0, slots := 0, locals := 22 } [.int p0] (eM c s r) (sp_in p0 0 3) (eM c s r) := by
  refine tv_metZ (by decide +kernel) rfl rfl (Nat.le_of_ble_eq_true rfl) (fun X C hR => ?_)
  show tv_V c 19 X (eM c s r) 0 [(0, .int p0)] []
  refine tv_iload_n C dX8_isSheet_0 rfl 0 rfl ?_
  refine tv_iconst (v := 0) C dX8_isSheet_1 (by decide) ?_
  refine tv_iconst (v := 3) C dX8_isSheet_2 (by decide) ?_
  refine tv_callis (As := [.int p0, .int 0, .int 3]) (rest := []) C (kX8_within c s r  p0 0 3 ) gX8_isSheet_X8_within rfl yd_X8_within ⟨rfl, rfl⟩ (by decide) rfl rfl (Nat.le_of_ble_eq_true rfl) dX8_isSheet_3 (fun q_1 u_1 z_1 => ?_)
  obtain ⟨rfl, rfl⟩ := z_1
  exact hR _ _ _ _ dX8_isSheet_6 (by first | rfl | exact tn_nz (sp_in_z _ _ _) | exact tn_nz (sp_ix_z _ _)) ⟨by first | (simp only [if_true, ↓reduceIte]; done) | rfl | (simp [if_true]; done) | (exfalso; clear hR C; simp_all; done), by first | (simp only [if_true, ts_ss, ts_aa, ↓reduceIte]; done) | rfl | (simp [if_true, ts_ss, ts_aa]; done) | (exfalso; clear hR C; simp_all; done)⟩
set_option maxHeartbeats 4000000 in
set_option maxRecDepth 100000 in
theorem kX8_isSort (c : tv_c) (s r : ts_T)  (p0 : Int32)  : tv_Fi c 19 yX8_isSort wsX8_isSort { frames := 1, cells := 0, slots := 0, locals := 22 } [.int p0] (eM c s r) (sp_in p0 0 2) (eM c s r) := by
  refine tv_metZ (by decide +kernel) rfl rfl (Nat.le_of_ble_eq_true rfl) (fun X C hR => ?_)
  show tv_V c 19 X (eM c s r) 0 [(0, .int p0)] []
  refine tv_iload_n C dX8_isSort_0 rfl 0 rfl ?_
  refine tv_iconst (v := 0) C dX8_isSort_1 (by decide) ?_
  refine tv_iconst (v := 2) C dX8_isSort_2 (by decide) ?_
  refine tv_callis (As := [.int p0, .int 0, .int 2]) (rest := []) C (kX8_within c s r  p0 0 2 ) gX8_isSort_X8_within rfl yd_X8_within ⟨rfl, rfl⟩ (by decide) rfl rfl (Nat.le_of_ble_eq_true rfl) dX8_isSort_3 (fun q_1 u_1 z_1 => ?_)
  obtain ⟨rfl, rfl⟩ := z_1
  exact hR _ _ _ _ dX8_isSort_6 (by first | rfl | exact tn_nz (sp_in_z _ _ _) | exact tn_nz (sp_ix_z _ _)) ⟨by first | (simp only [if_true, ↓reduceIte]; done) | rfl | (simp [if_true]; done) | (exfalso; clear hR C; simp_all; done), by first | (simp only [if_true, ts_ss, ts_aa, ↓reduceIte]; done) | rfl | (simp [if_true, ts_ss, ts_aa]; done) | (exfalso; clear hR C; simp_all; done)⟩
set_option maxHeartbeats 4000000 in
set_option maxRecDepth 100000 in
theorem kX8_size (c : tv_c) (s r : ts_T)  (p0 : Int32)  : tv_Fi c 19 yX8_size wsX8_size { frames := 0, cells := 0, slots := 0, locals := 0 } [.int p0] (eM c s r) (sp_ab p0) (eM c s r) := by
  refine tv_metI (by decide +kernel) rfl rfl (Nat.le_of_ble_eq_true rfl) (fun X C hR => ?_)
  show tv_V c 19 X (eM c s r) 0 [(0, .int p0)] []
  refine tv_iload_n C dX8_size_0 rfl 0 rfl ?_
  refine tv_if_ge C 9 dX8_size_1 (by decide) (fun c_1 => ?_) (fun c_1 => ?_)
  · skip
    refine tv_iload_n C dX8_size_9 rfl 0 rfl ?_
    exact hR _ _ _ _ dX8_size_10 ⟨by first | (simp only [sp_ab, c_1, tn_d_le c_1, if_true, ↓reduceIte]; done) | rfl | (simp [sp_ab, c_1, tn_d_le c_1, if_true]; done) | (exfalso; clear hR C; simp_all; done), by first | (simp only [sp_ab, c_1, tn_d_le c_1, if_true, ts_ss, ts_aa, ↓reduceIte]; done) | rfl | (simp [sp_ab, c_1, tn_d_le c_1, if_true, ts_ss, ts_aa]; done) | (exfalso; clear hR C; simp_all; done)⟩
  · skip
    refine tv_iload_n C dX8_size_4 rfl 0 rfl ?_
    refine tv_ineg C dX8_size_5 ?_
    refine tv_goto C 10 dX8_size_6 (by decide) ?_
    exact hR _ _ _ _ dX8_size_10 ⟨by first | (simp only [sp_ab, c_1, tn_d_nle c_1, if_true, ↓reduceIte]; done) | rfl | (simp [sp_ab, c_1, tn_d_nle c_1, if_true]; done) | (exfalso; clear hR C; simp_all; done), by first | (simp only [sp_ab, c_1, tn_d_nle c_1, if_true, ts_ss, ts_aa, ↓reduceIte]; done) | rfl | (simp [sp_ab, c_1, tn_d_nle c_1, if_true, ts_ss, ts_aa]; done) | (exfalso; clear hR C; simp_all; done)⟩
set_option maxHeartbeats 4000000 in
set_option maxRecDepth 100000 in
theorem kX8_fails (c : tv_c) (s r : ts_T)  (p0 : Int32)  : tv_Fi c 19 yX8_fails wsX8_fails { frames := 0, cells := 0, slots := 0, locals := 0 } [.ref (tv_ad c 0), .int p0] (eM c s r) ((-10) - p0) (eM c (ts_s s 0 p0) r) := by
  refine tv_metI (by decide +kernel) rfl rfl (Nat.le_of_ble_eq_true rfl) (fun X C hR => ?_)
  show tv_V c 19 X (eM c s r) 0 [(0, .ref (tv_ad c 0)), (1, .int p0)] []
  refine tv_aload_n C dX8_fails_0 rfl 0 rfl ?_
  refine tv_iload_n C dX8_fails_1 rfl 1 rfl ?_
  refine tv_put (ci := 8) (Cn := RX8) (T := TX8) (Nf := 35) (ty := .int) (E' := (eM c (ts_s s 0 p0) r)) C 0 (by decide) rfl rfl in_X8_fails_X8 tyX8 tyX8_ok nmX8 0 (by decide) lk_X8_fails_65 rfl (by decide +kernel) rfl rfl (Nat.le_of_ble_eq_true rfl) (eM_u_fault c s r p0) dX8_fails_2 ?_
  refine tv_bipush (v := (-10)) C dX8_fails_5 (by decide) ?_
  refine tv_iload_n C dX8_fails_7 rfl 1 rfl ?_
  refine tv_isub C dX8_fails_8 ?_
  exact hR _ _ _ _ dX8_fails_9 ⟨by first | (simp only [if_true, ↓reduceIte]; done) | rfl | (simp [if_true]; done) | (exfalso; clear hR C; simp_all; done), by first | (simp only [if_true, ts_ss, ts_aa, ↓reduceIte]; done) | rfl | (simp [if_true, ts_ss, ts_aa]; done) | (exfalso; clear hR C; simp_all; done)⟩
set_option maxHeartbeats 4000000 in
set_option maxRecDepth 100000 in
theorem kX8_lost (c : tv_c) (s r : ts_T)  (p0 : Int32)  : tv_Fl c 19 yX8_lost wsX8_lost { frames := 0, cells := 0, slots := 0, locals := 0 } [.ref (tv_ad c 0), .int p0] (eM c s r) ((-9223372036854775808)) (eM c (ts_s s 0 p0) r) := by
  refine tv_metL (by decide +kernel) rfl rfl (Nat.le_of_ble_eq_true rfl) (fun X C hR => ?_)
  show tv_V c 19 X (eM c s r) 0 [(0, .ref (tv_ad c 0)), (1, .int p0)] []
  refine tv_aload_n C dX8_lost_0 rfl 0 rfl ?_
  refine tv_iload_n C dX8_lost_1 rfl 1 rfl ?_
  refine tv_put (ci := 8) (Cn := RX8) (T := TX8) (Nf := 35) (ty := .int) (E' := (eM c (ts_s s 0 p0) r)) C 0 (by decide) rfl rfl in_X8_lost_X8 tyX8 tyX8_ok nmX8 0 (by decide) lk_X8_lost_65 rfl (by decide +kernel) rfl rfl (Nat.le_of_ble_eq_true rfl) (eM_u_fault c s r p0) dX8_lost_2 ?_
  refine tv_ldc2 (v := (-9223372036854775808)) C wd_X8_lost_k69 dX8_lost_5 ?_
  exact hR _ _ _ _ dX8_lost_8 ⟨by first | (simp only [if_true, ↓reduceIte]; done) | rfl | (simp [if_true]; done) | (exfalso; clear hR C; simp_all; done), by first | (simp only [if_true, ts_ss, ts_aa, ↓reduceIte]; done) | rfl | (simp [if_true, ts_ss, ts_aa]; done) | (exfalso; clear hR C; simp_all; done)⟩
set_option maxHeartbeats 4000000 in
set_option maxRecDepth 100000 in
theorem kX8_all (c : tv_c) (s r : ts_T)  (hC : s 2 0 * s 3 0 = s 9 0) : tv_Fi c 19 yX8_all wsX8_all { frames := 0, cells := 0, slots := 0, locals := 0 } [.ref (tv_ad c 0)] (eM c s r) (s 9 0) (eM c s r) := by
  refine tv_metI (by decide +kernel) rfl rfl (Nat.le_of_ble_eq_true rfl) (fun X C hR => ?_)
  show tv_V c 19 X (eM c s r) 0 [(0, .ref (tv_ad c 0))] []
  refine tv_aload_n C dX8_all_0 rfl 0 rfl ?_
  refine tv_get (ci := 8) (Cn := RX8) (T := TX8) (Nf := 35) (v := .int (s 2 0)) C 0 (by decide) rfl rfl in_X8_all_X8 5 (by decide) lk_X8_all_75 rfl dX8_all_1 ?_
  refine tv_aload_n C dX8_all_4 rfl 0 rfl ?_
  refine tv_get (ci := 8) (Cn := RX8) (T := TX8) (Nf := 35) (v := .int (s 3 0)) C 0 (by decide) rfl rfl in_X8_all_X8 6 (by decide) lk_X8_all_78 rfl dX8_all_5 ?_
  refine tv_imul C dX8_all_8 ?_
  exact hR _ _ _ _ dX8_all_9 ⟨by exact hC, by first | (simp only [if_true, ts_ss, ts_aa, ↓reduceIte]; done) | rfl | (simp [if_true, ts_ss, ts_aa]; done) | (exfalso; clear hR C; simp_all; done)⟩
set_option maxHeartbeats 4000000 in
set_option maxRecDepth 100000 in
theorem kX8_isCell (c : tv_c) (s r : ts_T)  (p0 : Int32) (hC : s 2 0 * s 3 0 = s 9 0) : tv_Fi c 19 yX8_isCell wsX8_isCell { frames := 1, cells := 0, slots := 0, locals := 20 } [.ref (tv_ad c 0), .int p0] (eM c s r) (sp_ix p0 (s 9 0)) (eM c s r) := by
  refine tv_metZ (by decide +kernel) rfl rfl (Nat.le_of_ble_eq_true rfl) (fun X C hR => ?_)
  show tv_V c 19 X (eM c s r) 0 [(0, .ref (tv_ad c 0)), (1, .int p0)] []
  refine tv_iload_n C dX8_isCell_0 rfl 1 rfl ?_
  refine tv_if_lt C 16 dX8_isCell_1 (by decide) (fun c_1 => ?_) (fun c_1 => ?_)
  · skip
    refine tv_iconst (v := 0) C dX8_isCell_16 (by decide) ?_
    exact hR _ _ _ _ dX8_isCell_17 (by first | rfl | exact tn_nz (sp_in_z _ _ _) | exact tn_nz (sp_ix_z _ _)) ⟨by first | (simp only [sp_ix, c_1, tn_d_lt c_1, if_true, ↓reduceIte]; done) | rfl | (simp [sp_ix, c_1, tn_d_lt c_1, if_true]; done) | (exfalso; clear hR C; simp_all; done), by first | (simp only [sp_ix, c_1, tn_d_lt c_1, if_true, ts_ss, ts_aa, ↓reduceIte]; done) | rfl | (simp [sp_ix, c_1, tn_d_lt c_1, if_true, ts_ss, ts_aa]; done) | (exfalso; clear hR C; simp_all; done)⟩
  · skip
    refine tv_iload_n C dX8_isCell_4 rfl 1 rfl ?_
    refine tv_aload_n C dX8_isCell_5 rfl 0 rfl ?_
    refine tv_calli (As := []) (rest := [.int p0]) (ci := 8) (cn := RX8) (T := TX8) (Nf := 35) C 0 (kX8_all c s r   hC) gX8_isCell_X8_all rfl yd_X8_all ⟨rfl, rfl⟩ (by decide) (by decide) rfl rfl rfl rfl (Nat.le_of_ble_eq_true rfl) dX8_isCell_6 (fun q_2 u_2 z_2 => ?_)
    obtain ⟨rfl, rfl⟩ := z_2
    refine tv_icmp_ge C 16 dX8_isCell_9 (by decide) (fun c_3 => ?_) (fun c_3 => ?_)
    · skip
      refine tv_iconst (v := 0) C dX8_isCell_16 (by decide) ?_
      exact hR _ _ _ _ dX8_isCell_17 (by first | rfl | exact tn_nz (sp_in_z _ _ _) | exact tn_nz (sp_ix_z _ _)) ⟨by first | (simp only [sp_ix, c_1, tn_d_nlt c_1, c_3, tn_d_le c_3, if_true, ↓reduceIte]; done) | rfl | (simp [sp_ix, c_1, tn_d_nlt c_1, c_3, tn_d_le c_3, if_true]; done) | (exfalso; clear hR C; simp_all; done), by first | (simp only [sp_ix, c_1, tn_d_nlt c_1, c_3, tn_d_le c_3, if_true, ts_ss, ts_aa, ↓reduceIte]; done) | rfl | (simp [sp_ix, c_1, tn_d_nlt c_1, c_3, tn_d_le c_3, if_true, ts_ss, ts_aa]; done) | (exfalso; clear hR C; simp_all; done)⟩
    · skip
      refine tv_iconst (v := 1) C dX8_isCell_12 (by decide) ?_
      refine tv_goto C 17 dX8_isCell_13 (by decide) ?_
      exact hR _ _ _ _ dX8_isCell_17 (by first | rfl | exact tn_nz (sp_in_z _ _ _) | exact tn_nz (sp_ix_z _ _)) ⟨by first | (simp only [sp_ix, c_1, tn_d_nlt c_1, c_3, tn_d_nle c_3, if_true, ↓reduceIte]; done) | rfl | (simp [sp_ix, c_1, tn_d_nlt c_1, c_3, tn_d_nle c_3, if_true]; done) | (exfalso; clear hR C; simp_all; done), by first | (simp only [sp_ix, c_1, tn_d_nlt c_1, c_3, tn_d_nle c_3, if_true, ts_ss, ts_aa, ↓reduceIte]; done) | rfl | (simp [sp_ix, c_1, tn_d_nlt c_1, c_3, tn_d_nle c_3, if_true, ts_ss, ts_aa]; done) | (exfalso; clear hR C; simp_all; done)⟩
set_option maxHeartbeats 4000000 in
set_option maxRecDepth 100000 in
theorem kX8_isCoat (c : tv_c) (s r : ts_T)  (p0 : Int32)  : tv_Fi c 19 yX8_isCoat wsX8_isCoat { frames := 0, cells := 0, slots := 0, locals := 0 } [.ref (tv_ad c 0), .int p0] (eM c s r) (sp_ix p0 (s 7 0)) (eM c s r) := by
  refine tv_metZ (by decide +kernel) rfl rfl (Nat.le_of_ble_eq_true rfl) (fun X C hR => ?_)
  show tv_V c 19 X (eM c s r) 0 [(0, .ref (tv_ad c 0)), (1, .int p0)] []
  refine tv_iload_n C dX8_isCoat_0 rfl 1 rfl ?_
  refine tv_if_lt C 16 dX8_isCoat_1 (by decide) (fun c_1 => ?_) (fun c_1 => ?_)
  · skip
    refine tv_iconst (v := 0) C dX8_isCoat_16 (by decide) ?_
    exact hR _ _ _ _ dX8_isCoat_17 (by first | rfl | exact tn_nz (sp_in_z _ _ _) | exact tn_nz (sp_ix_z _ _)) ⟨by first | (simp only [sp_ix, c_1, tn_d_lt c_1, if_true, ↓reduceIte]; done) | rfl | (simp [sp_ix, c_1, tn_d_lt c_1, if_true]; done) | (exfalso; clear hR C; simp_all; done), by first | (simp only [sp_ix, c_1, tn_d_lt c_1, if_true, ts_ss, ts_aa, ↓reduceIte]; done) | rfl | (simp [sp_ix, c_1, tn_d_lt c_1, if_true, ts_ss, ts_aa]; done) | (exfalso; clear hR C; simp_all; done)⟩
  · skip
    refine tv_iload_n C dX8_isCoat_4 rfl 1 rfl ?_
    refine tv_aload_n C dX8_isCoat_5 rfl 0 rfl ?_
    refine tv_get (ci := 8) (Cn := RX8) (T := TX8) (Nf := 35) (v := .int (s 7 0)) C 0 (by decide) rfl rfl in_X8_isCoat_X8 19 (by decide) lk_X8_isCoat_124 rfl dX8_isCoat_6 ?_
    refine tv_icmp_ge C 16 dX8_isCoat_9 (by decide) (fun c_2 => ?_) (fun c_2 => ?_)
    · skip
      refine tv_iconst (v := 0) C dX8_isCoat_16 (by decide) ?_
      exact hR _ _ _ _ dX8_isCoat_17 (by first | rfl | exact tn_nz (sp_in_z _ _ _) | exact tn_nz (sp_ix_z _ _)) ⟨by first | (simp only [sp_ix, c_1, tn_d_nlt c_1, c_2, tn_d_le c_2, if_true, ↓reduceIte]; done) | rfl | (simp [sp_ix, c_1, tn_d_nlt c_1, c_2, tn_d_le c_2, if_true]; done) | (exfalso; clear hR C; simp_all; done), by first | (simp only [sp_ix, c_1, tn_d_nlt c_1, c_2, tn_d_le c_2, if_true, ts_ss, ts_aa, ↓reduceIte]; done) | rfl | (simp [sp_ix, c_1, tn_d_nlt c_1, c_2, tn_d_le c_2, if_true, ts_ss, ts_aa]; done) | (exfalso; clear hR C; simp_all; done)⟩
    · skip
      refine tv_iconst (v := 1) C dX8_isCoat_12 (by decide) ?_
      refine tv_goto C 17 dX8_isCoat_13 (by decide) ?_
      exact hR _ _ _ _ dX8_isCoat_17 (by first | rfl | exact tn_nz (sp_in_z _ _ _) | exact tn_nz (sp_ix_z _ _)) ⟨by first | (simp only [sp_ix, c_1, tn_d_nlt c_1, c_2, tn_d_nle c_2, if_true, ↓reduceIte]; done) | rfl | (simp [sp_ix, c_1, tn_d_nlt c_1, c_2, tn_d_nle c_2, if_true]; done) | (exfalso; clear hR C; simp_all; done), by first | (simp only [sp_ix, c_1, tn_d_nlt c_1, c_2, tn_d_nle c_2, if_true, ts_ss, ts_aa, ↓reduceIte]; done) | rfl | (simp [sp_ix, c_1, tn_d_nlt c_1, c_2, tn_d_nle c_2, if_true, ts_ss, ts_aa]; done) | (exfalso; clear hR C; simp_all; done)⟩
set_option maxHeartbeats 4000000 in
set_option maxRecDepth 100000 in
theorem kX8_isLight (c : tv_c) (s r : ts_T)  (p0 : Int32)  : tv_Fi c 19 yX8_isLight wsX8_isLight { frames := 0, cells := 0, slots := 0, locals := 0 } [.ref (tv_ad c 0), .int p0] (eM c s r) (sp_ix p0 (s 8 0)) (eM c s r) := by
  refine tv_metZ (by decide +kernel) rfl rfl (Nat.le_of_ble_eq_true rfl) (fun X C hR => ?_)
  show tv_V c 19 X (eM c s r) 0 [(0, .ref (tv_ad c 0)), (1, .int p0)] []
  refine tv_iload_n C dX8_isLight_0 rfl 1 rfl ?_
  refine tv_if_lt C 16 dX8_isLight_1 (by decide) (fun c_1 => ?_) (fun c_1 => ?_)
  · skip
    refine tv_iconst (v := 0) C dX8_isLight_16 (by decide) ?_
    exact hR _ _ _ _ dX8_isLight_17 (by first | rfl | exact tn_nz (sp_in_z _ _ _) | exact tn_nz (sp_ix_z _ _)) ⟨by first | (simp only [sp_ix, c_1, tn_d_lt c_1, if_true, ↓reduceIte]; done) | rfl | (simp [sp_ix, c_1, tn_d_lt c_1, if_true]; done) | (exfalso; clear hR C; simp_all; done), by first | (simp only [sp_ix, c_1, tn_d_lt c_1, if_true, ts_ss, ts_aa, ↓reduceIte]; done) | rfl | (simp [sp_ix, c_1, tn_d_lt c_1, if_true, ts_ss, ts_aa]; done) | (exfalso; clear hR C; simp_all; done)⟩
  · skip
    refine tv_iload_n C dX8_isLight_4 rfl 1 rfl ?_
    refine tv_aload_n C dX8_isLight_5 rfl 0 rfl ?_
    refine tv_get (ci := 8) (Cn := RX8) (T := TX8) (Nf := 35) (v := .int (s 8 0)) C 0 (by decide) rfl rfl in_X8_isLight_X8 22 (by decide) lk_X8_isLight_121 rfl dX8_isLight_6 ?_
    refine tv_icmp_ge C 16 dX8_isLight_9 (by decide) (fun c_2 => ?_) (fun c_2 => ?_)
    · skip
      refine tv_iconst (v := 0) C dX8_isLight_16 (by decide) ?_
      exact hR _ _ _ _ dX8_isLight_17 (by first | rfl | exact tn_nz (sp_in_z _ _ _) | exact tn_nz (sp_ix_z _ _)) ⟨by first | (simp only [sp_ix, c_1, tn_d_nlt c_1, c_2, tn_d_le c_2, if_true, ↓reduceIte]; done) | rfl | (simp [sp_ix, c_1, tn_d_nlt c_1, c_2, tn_d_le c_2, if_true]; done) | (exfalso; clear hR C; simp_all; done), by first | (simp only [sp_ix, c_1, tn_d_nlt c_1, c_2, tn_d_le c_2, if_true, ts_ss, ts_aa, ↓reduceIte]; done) | rfl | (simp [sp_ix, c_1, tn_d_nlt c_1, c_2, tn_d_le c_2, if_true, ts_ss, ts_aa]; done) | (exfalso; clear hR C; simp_all; done)⟩
    · skip
      refine tv_iconst (v := 1) C dX8_isLight_12 (by decide) ?_
      refine tv_goto C 17 dX8_isLight_13 (by decide) ?_
      exact hR _ _ _ _ dX8_isLight_17 (by first | rfl | exact tn_nz (sp_in_z _ _ _) | exact tn_nz (sp_ix_z _ _)) ⟨by first | (simp only [sp_ix, c_1, tn_d_nlt c_1, c_2, tn_d_nle c_2, if_true, ↓reduceIte]; done) | rfl | (simp [sp_ix, c_1, tn_d_nlt c_1, c_2, tn_d_nle c_2, if_true]; done) | (exfalso; clear hR C; simp_all; done), by first | (simp only [sp_ix, c_1, tn_d_nlt c_1, c_2, tn_d_nle c_2, if_true, ts_ss, ts_aa, ↓reduceIte]; done) | rfl | (simp [sp_ix, c_1, tn_d_nlt c_1, c_2, tn_d_nle c_2, if_true, ts_ss, ts_aa]; done) | (exfalso; clear hR C; simp_all; done)⟩
set_option maxHeartbeats 4000000 in
set_option maxRecDepth 100000 in
theorem kX8_begins (c : tv_c) (s r : ts_T)  (p0 : Int32)  : tv_Fv c 19 yX8_begins wsX8_begins { frames := 0, cells := 0, slots := 0, locals := 0 } [.ref (tv_ad c 0), .int p0] (eM c s r) (eM c (ts_s s 1 (31 * (s 1 0) + p0)) r) := by
  refine tv_metV (by decide +kernel) rfl rfl (Nat.le_of_ble_eq_true rfl) (fun X C hR => ?_)
  show tv_V c 19 X (eM c s r) 0 [(0, .ref (tv_ad c 0)), (1, .int p0)] []
  refine tv_aload_n C dX8_begins_0 rfl 0 rfl ?_
  refine tv_bipush (v := 31) C dX8_begins_1 (by decide) ?_
  refine tv_aload_n C dX8_begins_3 rfl 0 rfl ?_
  refine tv_get (ci := 8) (Cn := RX8) (T := TX8) (Nf := 35) (v := .int (s 1 0)) C 0 (by decide) rfl rfl in_X8_begins_X8 1 (by decide) lk_X8_begins_229 rfl dX8_begins_4 ?_
  refine tv_imul C dX8_begins_7 ?_
  refine tv_iload_n C dX8_begins_8 rfl 1 rfl ?_
  refine tv_iadd C dX8_begins_9 ?_
  refine tv_put (ci := 8) (Cn := RX8) (T := TX8) (Nf := 35) (ty := .int) (E' := (eM c (ts_s s 1 ((31 * (s 1 0)) + p0)) r)) C 0 (by decide) rfl rfl in_X8_begins_X8 tyX8 tyX8_ok nmX8 1 (by decide) lk_X8_begins_229 rfl (by decide +kernel) rfl rfl (Nat.le_of_ble_eq_true rfl) (eM_u_trace c s r ((31 * (s 1 0)) + p0)) dX8_begins_10 ?_
  exact hR _ _ _ dX8_begins_13 (by first | (simp only [if_true, ts_ss, ts_aa, ↓reduceIte]; done) | rfl | (simp [if_true, ts_ss, ts_aa]; done) | (exfalso; clear hR C; simp_all; done))
set_option maxHeartbeats 4000000 in
set_option maxRecDepth 100000 in
theorem kX8_trace (c : tv_c) (s r : ts_T)   : tv_Fi c 19 yX8_trace wsX8_trace { frames := 0, cells := 0, slots := 0, locals := 0 } [.ref (tv_ad c 0)] (eM c s r) (s 1 0) (eM c s r) := by
  refine tv_metI (by decide +kernel) rfl rfl (Nat.le_of_ble_eq_true rfl) (fun X C hR => ?_)
  show tv_V c 19 X (eM c s r) 0 [(0, .ref (tv_ad c 0))] []
  refine tv_aload_n C dX8_trace_0 rfl 0 rfl ?_
  refine tv_get (ci := 8) (Cn := RX8) (T := TX8) (Nf := 35) (v := .int (s 1 0)) C 0 (by decide) rfl rfl in_X8_trace_X8 1 (by decide) lk_X8_trace_229 rfl dX8_trace_1 ?_
  exact hR _ _ _ _ dX8_trace_4 ⟨by first | (simp only [if_true, ↓reduceIte]; done) | rfl | (simp [if_true]; done) | (exfalso; clear hR C; simp_all; done), by first | (simp only [if_true, ts_ss, ts_aa, ↓reduceIte]; done) | rfl | (simp [if_true, ts_ss, ts_aa]; done) | (exfalso; clear hR C; simp_all; done)⟩
set_option maxHeartbeats 4000000 in
set_option maxRecDepth 100000 in
theorem kX8_fault (c : tv_c) (s r : ts_T)   : tv_Fi c 19 yX8_fault wsX8_fault { frames := 0, cells := 0, slots := 0, locals := 0 } [.ref (tv_ad c 0)] (eM c s r) (s 0 0) (eM c s r) := by
  refine tv_metI (by decide +kernel) rfl rfl (Nat.le_of_ble_eq_true rfl) (fun X C hR => ?_)
  show tv_V c 19 X (eM c s r) 0 [(0, .ref (tv_ad c 0))] []
  refine tv_aload_n C dX8_fault_0 rfl 0 rfl ?_
  refine tv_get (ci := 8) (Cn := RX8) (T := TX8) (Nf := 35) (v := .int (s 0 0)) C 0 (by decide) rfl rfl in_X8_fault_X8 0 (by decide) lk_X8_fault_65 rfl dX8_fault_1 ?_
  exact hR _ _ _ _ dX8_fault_4 ⟨by first | (simp only [if_true, ↓reduceIte]; done) | rfl | (simp [if_true]; done) | (exfalso; clear hR C; simp_all; done), by first | (simp only [if_true, ts_ss, ts_aa, ↓reduceIte]; done) | rfl | (simp [if_true, ts_ss, ts_aa]; done) | (exfalso; clear hR C; simp_all; done)⟩
set_option maxHeartbeats 4000000 in
set_option maxRecDepth 100000 in
theorem kX8_comes (c : tv_c) (s r : ts_T)  (p0 p1 p2 p3 p4 p5 : Int32)  : tv_Fi c 19 yX8_comes wsX8_comes { frames := 0, cells := 0, slots := 0, locals := 0 } [.ref (tv_ad c 0), .int p0, .int p1, .int p2, .int p3, .int p4, .int p5] (eM c s r) (sp_cm p0 p1 p2 p3 p4 (s 5 0) p5) (eM c s r) := by
  refine tv_metI (by decide +kernel) rfl rfl (Nat.le_of_ble_eq_true rfl) (fun X C hR => ?_)
  show tv_V c 19 X (eM c s r) 0 [(0, .ref (tv_ad c 0)), (1, .int p0), (2, .int p1), (3, .int p2), (4, .int p3), (5, .int p4), (6, .int p5)] []
  refine tv_iload C dX8_comes_0 4 rfl ?_
  refine tv_iload_n C dX8_comes_2 rfl 3 rfl ?_
  refine tv_iconst (v := 1) C dX8_comes_3 (by decide) ?_
  refine tv_iadd C dX8_comes_4 ?_
  refine tv_imul C dX8_comes_5 ?_
  refine tv_bipush (v := 10) C dX8_comes_6 (by decide) ?_
  refine tv_idiv C (by decide) dX8_comes_8 ?_
  refine tv_iload C dX8_comes_9 5 rfl ?_
  refine tv_aload_n C dX8_comes_11 rfl 0 rfl ?_
  refine tv_get (ci := 8) (Cn := RX8) (T := TX8) (Nf := 35) (v := .int (s 5 0)) C 0 (by decide) rfl rfl in_X8_comes_X8 8 (by decide) lk_X8_comes_115 rfl dX8_comes_12 ?_
  refine tv_imul C dX8_comes_15 ?_
  refine tv_iconst (v := 5) C dX8_comes_16 (by decide) ?_
  refine tv_idiv C (by decide) dX8_comes_17 ?_
  refine tv_iadd C dX8_comes_18 ?_
  refine tv_istore (lv' := [(7, .int (((p3 * (p2 + 1)) / 10) + ((p4 * (s 5 0)) / 5))), (0, .ref (tv_ad c 0)), (1, .int p0), (2, .int p1), (3, .int p2), (4, .int p3), (5, .int p4), (6, .int p5)]) C dX8_comes_19 (by decide) rfl ?_
  refine tv_iload_n C dX8_comes_21 rfl 2 rfl ?_
  refine tv_iconst (v := 2) C dX8_comes_22 (by decide) ?_
  refine tv_icmp_ne C 33 dX8_comes_23 (by decide) (fun c_1 => ?_) (fun c_1 => ?_)
  · skip
    refine tv_iload C dX8_comes_33 0 rfl ?_
    refine tv_istore (lv' := [(7, .int (((p3 * (p2 + 1)) / 10) + ((p4 * (s 5 0)) / 5))), (0, .ref (tv_ad c 0)), (1, .int p0), (2, .int p1), (3, .int p2), (4, .int p3), (5, .int p4), (6, .int p5)]) C dX8_comes_35 (by decide) rfl ?_
    refine tv_iload_n C dX8_comes_37 rfl 3 rfl ?_
    refine tv_iload C dX8_comes_38 0 rfl ?_
    refine tv_icmp_ge C 47 dX8_comes_40 (by decide) (fun c_2 => ?_) (fun c_2 => ?_)
    · skip
      refine tv_iload_n C dX8_comes_47 rfl 3 rfl ?_
      refine tv_iload C dX8_comes_48 0 rfl ?_
      refine tv_isub C dX8_comes_50 ?_
      refine tv_istore (lv' := [(8, .int (p1 - (((p3 * (p2 + 1)) / 10) + ((p4 * (s 5 0)) / 5)))), (7, .int (((p3 * (p2 + 1)) / 10) + ((p4 * (s 5 0)) / 5))), (0, .ref (tv_ad c 0)), (1, .int p0), (2, .int p1), (3, .int p2), (4, .int p3), (5, .int p4), (6, .int p5)]) C dX8_comes_51 (by decide) rfl ?_
      refine tv_iload_n C dX8_comes_53 rfl 3 rfl ?_
      refine tv_if_le C 69 dX8_comes_54 (by decide) (fun c_3 => ?_) (fun c_3 => ?_)
      · skip
        refine tv_iload C dX8_comes_69 0 rfl ?_
        exact hR _ _ _ _ dX8_comes_71 ⟨by first | (simp only [sp_cm, sp_ls, c_1, c_2, tn_d_le c_2, c_3, tn_d_le c_3, if_true, ↓reduceIte]; done) | rfl | (simp [sp_cm, sp_ls, c_1, c_2, tn_d_le c_2, c_3, tn_d_le c_3, if_true]; done) | (exfalso; clear hR C; simp_all; done), by first | (simp only [sp_cm, sp_ls, c_1, c_2, tn_d_le c_2, c_3, tn_d_le c_3, if_true, ts_ss, ts_aa, ↓reduceIte]; done) | rfl | (simp [sp_cm, sp_ls, c_1, c_2, tn_d_le c_2, c_3, tn_d_le c_3, if_true, ts_ss, ts_aa]; done) | (exfalso; clear hR C; simp_all; done)⟩
      · skip
        refine tv_iload C dX8_comes_57 8 rfl ?_
        refine tv_if_eq C 69 dX8_comes_59 (by decide) (fun c_4 => ?_) (fun c_4 => ?_)
        · skip
          refine tv_iload C dX8_comes_69 0 rfl ?_
          exact hR _ _ _ _ dX8_comes_71 ⟨by first | (simp only [sp_cm, sp_ls, c_1, c_2, tn_d_le c_2, c_3, tn_d_nle c_3, eq_true c_4, if_true, ↓reduceIte]; done) | rfl | (simp [sp_cm, sp_ls, c_1, c_2, tn_d_le c_2, c_3, tn_d_nle c_3, eq_true c_4, if_true]; done) | (exfalso; clear hR C; simp_all; done), by first | (simp only [sp_cm, sp_ls, c_1, c_2, tn_d_le c_2, c_3, tn_d_nle c_3, eq_true c_4, if_true, ts_ss, ts_aa, ↓reduceIte]; done) | rfl | (simp [sp_cm, sp_ls, c_1, c_2, tn_d_le c_2, c_3, tn_d_nle c_3, eq_true c_4, if_true, ts_ss, ts_aa]; done) | (exfalso; clear hR C; simp_all; done)⟩
        · skip
          refine tv_iload C dX8_comes_62 0 rfl ?_
          refine tv_iconst (v := 5) C dX8_comes_64 (by decide) ?_
          refine tv_iadd C dX8_comes_65 ?_
          refine tv_goto C 71 dX8_comes_66 (by decide) ?_
          exact hR _ _ _ _ dX8_comes_71 ⟨by first | (simp only [sp_cm, sp_ls, c_1, c_2, tn_d_le c_2, c_3, tn_d_nle c_3, c_4, if_true, ↓reduceIte]; done) | rfl | (simp [sp_cm, sp_ls, c_1, c_2, tn_d_le c_2, c_3, tn_d_nle c_3, c_4, if_true]; done) | (exfalso; clear hR C; simp_all; done), by first | (simp only [sp_cm, sp_ls, c_1, c_2, tn_d_le c_2, c_3, tn_d_nle c_3, c_4, if_true, ts_ss, ts_aa, ↓reduceIte]; done) | rfl | (simp [sp_cm, sp_ls, c_1, c_2, tn_d_le c_2, c_3, tn_d_nle c_3, c_4, if_true, ts_ss, ts_aa]; done) | (exfalso; clear hR C; simp_all; done)⟩
    · skip
      refine tv_iconst (v := 0) C dX8_comes_43 (by decide) ?_
      refine tv_goto C 51 dX8_comes_44 (by decide) ?_
      refine tv_istore (lv' := [(8, .int 0), (7, .int (((p3 * (p2 + 1)) / 10) + ((p4 * (s 5 0)) / 5))), (0, .ref (tv_ad c 0)), (1, .int p0), (2, .int p1), (3, .int p2), (4, .int p3), (5, .int p4), (6, .int p5)]) C dX8_comes_51 (by decide) rfl ?_
      refine tv_iload_n C dX8_comes_53 rfl 3 rfl ?_
      refine tv_if_le C 69 dX8_comes_54 (by decide) (fun c_5 => ?_) (fun c_5 => ?_)
      · skip
        refine tv_iload C dX8_comes_69 0 rfl ?_
        exact hR _ _ _ _ dX8_comes_71 ⟨by first | (simp only [sp_cm, sp_ls, c_1, c_2, tn_d_nle c_2, c_5, tn_d_le c_5, if_true, ↓reduceIte]; done) | rfl | (simp [sp_cm, sp_ls, c_1, c_2, tn_d_nle c_2, c_5, tn_d_le c_5, if_true]; done) | (exfalso; clear hR C; simp_all; done), by first | (simp only [sp_cm, sp_ls, c_1, c_2, tn_d_nle c_2, c_5, tn_d_le c_5, if_true, ts_ss, ts_aa, ↓reduceIte]; done) | rfl | (simp [sp_cm, sp_ls, c_1, c_2, tn_d_nle c_2, c_5, tn_d_le c_5, if_true, ts_ss, ts_aa]; done) | (exfalso; clear hR C; simp_all; done)⟩
      · skip
        refine tv_iload C dX8_comes_57 8 rfl ?_
        refine tv_if_eq C 69 dX8_comes_59 (by decide) (fun c_6 => ?_) (fun c_6 => ?_)
        · skip
          refine tv_iload C dX8_comes_69 0 rfl ?_
          exact hR _ _ _ _ dX8_comes_71 ⟨by first | (simp only [sp_cm, sp_ls, c_1, c_2, tn_d_nle c_2, c_5, tn_d_nle c_5, eq_true c_6, if_true, ↓reduceIte]; done) | rfl | (simp [sp_cm, sp_ls, c_1, c_2, tn_d_nle c_2, c_5, tn_d_nle c_5, eq_true c_6, if_true]; done) | (exfalso; clear hR C; simp_all; done), by first | (simp only [sp_cm, sp_ls, c_1, c_2, tn_d_nle c_2, c_5, tn_d_nle c_5, eq_true c_6, if_true, ts_ss, ts_aa, ↓reduceIte]; done) | rfl | (simp [sp_cm, sp_ls, c_1, c_2, tn_d_nle c_2, c_5, tn_d_nle c_5, eq_true c_6, if_true, ts_ss, ts_aa]; done) | (exfalso; clear hR C; simp_all; done)⟩
        · skip
          refine tv_iload C dX8_comes_62 0 rfl ?_
          refine tv_iconst (v := 5) C dX8_comes_64 (by decide) ?_
          refine tv_iadd C dX8_comes_65 ?_
          refine tv_goto C 71 dX8_comes_66 (by decide) ?_
          exact hR _ _ _ _ dX8_comes_71 ⟨by first | (simp only [sp_cm, sp_ls, c_1, c_2, tn_d_nle c_2, c_5, tn_d_nle c_5, c_6, if_true, ↓reduceIte]; done) | rfl | (simp [sp_cm, sp_ls, c_1, c_2, tn_d_nle c_2, c_5, tn_d_nle c_5, c_6, if_true]; done) | (exfalso; clear hR C; simp_all; done), by first | (simp only [sp_cm, sp_ls, c_1, c_2, tn_d_nle c_2, c_5, tn_d_nle c_5, c_6, if_true, ts_ss, ts_aa, ↓reduceIte]; done) | rfl | (simp [sp_cm, sp_ls, c_1, c_2, tn_d_nle c_2, c_5, tn_d_nle c_5, c_6, if_true, ts_ss, ts_aa]; done) | (exfalso; clear hR C; simp_all; done)⟩
  · skip
    refine tv_iload C dX8_comes_26 0 rfl ?_
    refine tv_iconst (v := 2) C dX8_comes_28 (by decide) ?_
    refine tv_idiv C (by decide) dX8_comes_29 ?_
    refine tv_goto C 35 dX8_comes_30 (by decide) ?_
    refine tv_istore (lv' := [(7, .int ((((p3 * (p2 + 1)) / 10) + ((p4 * (s 5 0)) / 5)) / 2)), (0, .ref (tv_ad c 0)), (1, .int p0), (2, .int p1), (3, .int p2), (4, .int p3), (5, .int p4), (6, .int p5)]) C dX8_comes_35 (by decide) rfl ?_
    refine tv_iload_n C dX8_comes_37 rfl 3 rfl ?_
    refine tv_iload C dX8_comes_38 0 rfl ?_
    refine tv_icmp_ge C 47 dX8_comes_40 (by decide) (fun c_7 => ?_) (fun c_7 => ?_)
    · skip
      refine tv_iload_n C dX8_comes_47 rfl 3 rfl ?_
      refine tv_iload C dX8_comes_48 0 rfl ?_
      refine tv_isub C dX8_comes_50 ?_
      refine tv_istore (lv' := [(8, .int (p1 - ((((p3 * (p2 + 1)) / 10) + ((p4 * (s 5 0)) / 5)) / 2))), (7, .int ((((p3 * (p2 + 1)) / 10) + ((p4 * (s 5 0)) / 5)) / 2)), (0, .ref (tv_ad c 0)), (1, .int p0), (2, .int p1), (3, .int p2), (4, .int p3), (5, .int p4), (6, .int p5)]) C dX8_comes_51 (by decide) rfl ?_
      refine tv_iload_n C dX8_comes_53 rfl 3 rfl ?_
      refine tv_if_le C 69 dX8_comes_54 (by decide) (fun c_8 => ?_) (fun c_8 => ?_)
      · skip
        refine tv_iload C dX8_comes_69 0 rfl ?_
        exact hR _ _ _ _ dX8_comes_71 ⟨by first | (simp only [sp_cm, sp_ls, eq_true c_1, c_7, tn_d_le c_7, c_8, tn_d_le c_8, if_true, ↓reduceIte]; done) | rfl | (simp [sp_cm, sp_ls, eq_true c_1, c_7, tn_d_le c_7, c_8, tn_d_le c_8, if_true]; done) | (exfalso; clear hR C; simp_all; done), by first | (simp only [sp_cm, sp_ls, eq_true c_1, c_7, tn_d_le c_7, c_8, tn_d_le c_8, if_true, ts_ss, ts_aa, ↓reduceIte]; done) | rfl | (simp [sp_cm, sp_ls, eq_true c_1, c_7, tn_d_le c_7, c_8, tn_d_le c_8, if_true, ts_ss, ts_aa]; done) | (exfalso; clear hR C; simp_all; done)⟩
      · skip
        refine tv_iload C dX8_comes_57 8 rfl ?_
        refine tv_if_eq C 69 dX8_comes_59 (by decide) (fun c_9 => ?_) (fun c_9 => ?_)
        · skip
          refine tv_iload C dX8_comes_69 0 rfl ?_
          exact hR _ _ _ _ dX8_comes_71 ⟨by first | (simp only [sp_cm, sp_ls, eq_true c_1, c_7, tn_d_le c_7, c_8, tn_d_nle c_8, eq_true c_9, if_true, ↓reduceIte]; done) | rfl | (simp [sp_cm, sp_ls, eq_true c_1, c_7, tn_d_le c_7, c_8, tn_d_nle c_8, eq_true c_9, if_true]; done) | (exfalso; clear hR C; simp_all; done), by first | (simp only [sp_cm, sp_ls, eq_true c_1, c_7, tn_d_le c_7, c_8, tn_d_nle c_8, eq_true c_9, if_true, ts_ss, ts_aa, ↓reduceIte]; done) | rfl | (simp [sp_cm, sp_ls, eq_true c_1, c_7, tn_d_le c_7, c_8, tn_d_nle c_8, eq_true c_9, if_true, ts_ss, ts_aa]; done) | (exfalso; clear hR C; simp_all; done)⟩
        · skip
          refine tv_iload C dX8_comes_62 0 rfl ?_
          refine tv_iconst (v := 5) C dX8_comes_64 (by decide) ?_
          refine tv_iadd C dX8_comes_65 ?_
          refine tv_goto C 71 dX8_comes_66 (by decide) ?_
          exact hR _ _ _ _ dX8_comes_71 ⟨by first | (simp only [sp_cm, sp_ls, eq_true c_1, c_7, tn_d_le c_7, c_8, tn_d_nle c_8, c_9, if_true, ↓reduceIte]; done) | rfl | (simp [sp_cm, sp_ls, eq_true c_1, c_7, tn_d_le c_7, c_8, tn_d_nle c_8, c_9, if_true]; done) | (exfalso; clear hR C; simp_all; done), by first | (simp only [sp_cm, sp_ls, eq_true c_1, c_7, tn_d_le c_7, c_8, tn_d_nle c_8, c_9, if_true, ts_ss, ts_aa, ↓reduceIte]; done) | rfl | (simp [sp_cm, sp_ls, eq_true c_1, c_7, tn_d_le c_7, c_8, tn_d_nle c_8, c_9, if_true, ts_ss, ts_aa]; done) | (exfalso; clear hR C; simp_all; done)⟩
    · skip
      refine tv_iconst (v := 0) C dX8_comes_43 (by decide) ?_
      refine tv_goto C 51 dX8_comes_44 (by decide) ?_
      refine tv_istore (lv' := [(8, .int 0), (7, .int ((((p3 * (p2 + 1)) / 10) + ((p4 * (s 5 0)) / 5)) / 2)), (0, .ref (tv_ad c 0)), (1, .int p0), (2, .int p1), (3, .int p2), (4, .int p3), (5, .int p4), (6, .int p5)]) C dX8_comes_51 (by decide) rfl ?_
      refine tv_iload_n C dX8_comes_53 rfl 3 rfl ?_
      refine tv_if_le C 69 dX8_comes_54 (by decide) (fun c_10 => ?_) (fun c_10 => ?_)
      · skip
        refine tv_iload C dX8_comes_69 0 rfl ?_
        exact hR _ _ _ _ dX8_comes_71 ⟨by first | (simp only [sp_cm, sp_ls, eq_true c_1, c_7, tn_d_nle c_7, c_10, tn_d_le c_10, if_true, ↓reduceIte]; done) | rfl | (simp [sp_cm, sp_ls, eq_true c_1, c_7, tn_d_nle c_7, c_10, tn_d_le c_10, if_true]; done) | (exfalso; clear hR C; simp_all; done), by first | (simp only [sp_cm, sp_ls, eq_true c_1, c_7, tn_d_nle c_7, c_10, tn_d_le c_10, if_true, ts_ss, ts_aa, ↓reduceIte]; done) | rfl | (simp [sp_cm, sp_ls, eq_true c_1, c_7, tn_d_nle c_7, c_10, tn_d_le c_10, if_true, ts_ss, ts_aa]; done) | (exfalso; clear hR C; simp_all; done)⟩
      · skip
        refine tv_iload C dX8_comes_57 8 rfl ?_
        refine tv_if_eq C 69 dX8_comes_59 (by decide) (fun c_11 => ?_) (fun c_11 => ?_)
        · skip
          refine tv_iload C dX8_comes_69 0 rfl ?_
          exact hR _ _ _ _ dX8_comes_71 ⟨by first | (simp only [sp_cm, sp_ls, eq_true c_1, c_7, tn_d_nle c_7, c_10, tn_d_nle c_10, eq_true c_11, if_true, ↓reduceIte]; done) | rfl | (simp [sp_cm, sp_ls, eq_true c_1, c_7, tn_d_nle c_7, c_10, tn_d_nle c_10, eq_true c_11, if_true]; done) | (exfalso; clear hR C; simp_all; done), by first | (simp only [sp_cm, sp_ls, eq_true c_1, c_7, tn_d_nle c_7, c_10, tn_d_nle c_10, eq_true c_11, if_true, ts_ss, ts_aa, ↓reduceIte]; done) | rfl | (simp [sp_cm, sp_ls, eq_true c_1, c_7, tn_d_nle c_7, c_10, tn_d_nle c_10, eq_true c_11, if_true, ts_ss, ts_aa]; done) | (exfalso; clear hR C; simp_all; done)⟩
        · skip
          refine tv_iload C dX8_comes_62 0 rfl ?_
          refine tv_iconst (v := 5) C dX8_comes_64 (by decide) ?_
          refine tv_iadd C dX8_comes_65 ?_
          refine tv_goto C 71 dX8_comes_66 (by decide) ?_
          exact hR _ _ _ _ dX8_comes_71 ⟨by first | (simp only [sp_cm, sp_ls, eq_true c_1, c_7, tn_d_nle c_7, c_10, tn_d_nle c_10, c_11, if_true, ↓reduceIte]; done) | rfl | (simp [sp_cm, sp_ls, eq_true c_1, c_7, tn_d_nle c_7, c_10, tn_d_nle c_10, c_11, if_true]; done) | (exfalso; clear hR C; simp_all; done), by first | (simp only [sp_cm, sp_ls, eq_true c_1, c_7, tn_d_nle c_7, c_10, tn_d_nle c_10, c_11, if_true, ts_ss, ts_aa, ↓reduceIte]; done) | rfl | (simp [sp_cm, sp_ls, eq_true c_1, c_7, tn_d_nle c_7, c_10, tn_d_nle c_10, c_11, if_true, ts_ss, ts_aa]; done) | (exfalso; clear hR C; simp_all; done)⟩
