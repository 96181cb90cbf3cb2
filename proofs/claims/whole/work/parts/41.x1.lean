theorem yd_X7_isWithin : yX7_isWithin.cls = RX7 ∧ yX7_isWithin.cls ≠ "java/lang/invoke/MethodHandle" ∧ yX7_isWithin.cls ≠ "java/lang/invoke/VarHandle" ∧ (parseMethodDescriptor yX7_isWithin.desc).map (fun d => d.parameters.length) = some 3 := by decide +kernel
set_option maxRecDepth 20000 in
theorem in_X7_failed_X7 : ∀ w ∈ u_ws RX7 TX7 7, w ∈ wsX7_failed := by decide +kernel
set_option maxRecDepth 20000 in
theorem lk_X7_failed_50 : Cond.fieldLink RX7 50 (TX7 6).1 (TX7 6).2.1 (TX7 6).2.2.1 ∈ wsX7_failed := by decide +kernel
set_option maxRecDepth 20000 in
theorem in_X7_mark_X7 : ∀ w ∈ u_ws RX7 TX7 7, w ∈ wsX7_mark := by decide +kernel
set_option maxRecDepth 20000 in
theorem lk_X7_mark_282 : Cond.fieldLink RX7 282 (TX7 5).1 (TX7 5).2.1 (TX7 5).2.2.1 ∈ wsX7_mark := by decide +kernel
set_option maxRecDepth 20000 in
theorem in_X7_trace_X7 : ∀ w ∈ u_ws RX7 TX7 7, w ∈ wsX7_trace := by decide +kernel
set_option maxRecDepth 20000 in
theorem lk_X7_trace_282 : Cond.fieldLink RX7 282 (TX7 5).1 (TX7 5).2.1 (TX7 5).2.2.1 ∈ wsX7_trace := by decide +kernel
set_option maxRecDepth 20000 in
theorem in_X7_fault_X7 : ∀ w ∈ u_ws RX7 TX7 7, w ∈ wsX7_fault := by decide +kernel
set_option maxRecDepth 20000 in
theorem lk_X7_fault_50 : Cond.fieldLink RX7 50 (TX7 6).1 (TX7 6).2.1 (TX7 6).2.2.1 ∈ wsX7_fault := by decide +kernel
set_option maxRecDepth 20000 in
theorem in_X6_hasCell_X6 : ∀ w ∈ u_ws RX6 TX6 11, w ∈ wsX6_hasCell := by decide +kernel
set_option maxRecDepth 20000 in
theorem lk_X6_hasCell_41 : Cond.fieldLink RX6 41 (TX6 5).1 (TX6 5).2.1 (TX6 5).2.2.1 ∈ wsX6_hasCell := by decide +kernel
set_option maxRecDepth 20000 in
theorem in_X6_hasCoat_X6 : ∀ w ∈ u_ws RX6 TX6 11, w ∈ wsX6_hasCoat := by decide +kernel
set_option maxRecDepth 20000 in
theorem lk_X6_hasCoat_60 : Cond.fieldLink RX6 60 (TX6 6).1 (TX6 6).2.1 (TX6 6).2.2.1 ∈ wsX6_hasCoat := by decide +kernel
set_option maxRecDepth 20000 in
theorem in_X6_hasLight_X6 : ∀ w ∈ u_ws RX6 TX6 11, w ∈ wsX6_hasLight := by decide +kernel
set_option maxRecDepth 20000 in
theorem lk_X6_hasLight_57 : Cond.fieldLink RX6 57 (TX6 7).1 (TX6 7).2.1 (TX6 7).2.2.1 ∈ wsX6_hasLight := by decide +kernel
set_option maxRecDepth 20000 in
theorem in_X6_views_X6 : ∀ w ∈ u_ws RX6 TX6 11, w ∈ wsX6_views := by decide +kernel
set_option maxRecDepth 20000 in
theorem lk_X6_views_57 : Cond.fieldLink RX6 57 (TX6 7).1 (TX6 7).2.1 (TX6 7).2.2.1 ∈ wsX6_views := by decide +kernel
set_option maxRecDepth 20000 in
theorem in_X0_takeFresh_X0 : ∀ w ∈ u_ws RX0 TX0 5, w ∈ wsX0_takeFresh := by decide +kernel
set_option maxRecDepth 20000 in
theorem lk_X0_takeFresh_7 : Cond.fieldLink RX0 7 (TX0 1).1 (TX0 1).2.1 (TX0 1).2.2.1 ∈ wsX0_takeFresh := by decide +kernel
set_option maxRecDepth 20000 in
theorem lk_X0_takeFresh_13 : Cond.fieldLink RX0 13 (TX0 2).1 (TX0 2).2.1 (TX0 2).2.2.1 ∈ wsX0_takeFresh := by decide +kernel
set_option maxRecDepth 20000 in
theorem lk_X0_takeFresh_16 : Cond.fieldLink RX0 16 (TX0 3).1 (TX0 3).2.1 (TX0 3).2.2.1 ∈ wsX0_takeFresh := by decide +kernel
set_option maxRecDepth 20000 in
theorem in_X1_lossIn_X1 : ∀ w ∈ u_ws RX1 TX1 2, w ∈ wsX1_lossIn := by decide +kernel
set_option maxRecDepth 20000 in
theorem lk_X1_lossIn_15 : Cond.fieldLink RX1 15 (TX1 1).1 (TX1 1).2.1 (TX1 1).2.2.1 ∈ wsX1_lossIn := by decide +kernel
set_option maxRecDepth 20000 in
theorem in_X1_comesBack_X1 : ∀ w ∈ u_ws RX1 TX1 2, w ∈ wsX1_comesBack := by decide +kernel
set_option maxRecDepth 20000 in
theorem lk_X1_comesBack_9 : Cond.fieldLink RX1 9 (TX1 0).1 (TX1 0).2.1 (TX1 0).2.2.1 ∈ wsX1_comesBack := by decide +kernel
theorem yd_X1_lossIn : yX1_lossIn.cls = RX1 ∧ yX1_lossIn.cls ≠ "java/lang/invoke/MethodHandle" ∧ yX1_lossIn.cls ≠ "java/lang/invoke/VarHandle" ∧ (parseMethodDescriptor yX1_lossIn.desc).map (fun d => d.parameters.length) = some 4 := by decide +kernel
set_option maxRecDepth 20000 in
theorem wd_X1_comesBack_m23 : Cond.methodLink RX1 23 Lib.Math.max.name ∈ wsX1_comesBack := by decide +kernel
set_option maxRecDepth 20000 in
theorem wd_X1_comesBack_stmax : Cond.static Lib.Math.max.name ∈ wsX1_comesBack := by decide +kernel
set_option maxRecDepth 20000 in
theorem wd_X1_comesBack_inim : Cond.initialized "java/lang/Math" ∈ wsX1_comesBack := by decide +kernel
set_option maxRecDepth 20000 in
theorem wd_X1_comesBack_cdmax : Cond.code Lib.Math.max.name Lib.Math.max.code 2 (some .int) ∈ wsX1_comesBack := by decide +kernel
set_option maxRecDepth 20000 in
theorem lk_X1_comesBack_15 : Cond.fieldLink RX1 15 (TX1 1).1 (TX1 1).2.1 (TX1 1).2.2.1 ∈ wsX1_comesBack := by decide +kernel
set_option maxHeartbeats 4000000 in
set_option maxRecDepth 100000 in
theorem kX7_isWithin (c : tv_c) (s r : ts_T)  (p0 p1 p2 : Int32)  : tv_Fi c 60 yX7_isWithin wsX7_isWithin { frames := 0, cells := 0, slots := 0, locals := 0 } [.int p0, .int p1, .int p2] (eX c s r) (sp_in p0 p1 p2) (eX c s r) := by
  refine tv_metZ (by decide +kernel) rfl rfl (Nat.le_of_ble_eq_true rfl) (fun X C hR => ?_)
  show tv_V c 60 X (eX c s r) 0 [(0, .int p0), (1, .int p1), (2, .int p2)] []
  refine tv_iload_n C dX7_isWithin_0 rfl 0 rfl ?_
  refine tv_iload_n C dX7_isWithin_1 rfl 1 rfl ?_
  refine tv_icmp_lt C 14 dX7_isWithin_2 (by decide) (fun c_1 => ?_) (fun c_1 => ?_)
  · skip
    refine tv_iconst (v := 0) C dX7_isWithin_14 (by decide) ?_
    exact hR _ _ _ _ dX7_isWithin_15 (by first | rfl | exact tn_nz (sp_in_z _ _ _) | exact tn_nz (sp_ix_z _ _)) ⟨by first | (simp only [sp_in, c_1, tn_d_lt c_1, if_true, ↓reduceIte]; done) | rfl | (simp [sp_in, c_1, tn_d_lt c_1, if_true]; done) | (exfalso; clear hR C; simp_all; done), by first | (simp only [sp_in, c_1, tn_d_lt c_1, if_true, ts_ss, ts_aa, ↓reduceIte]; done) | rfl | (simp [sp_in, c_1, tn_d_lt c_1, if_true, ts_ss, ts_aa]; done) | (exfalso; clear hR C; simp_all; done)⟩
  · skip
    refine tv_iload_n C dX7_isWithin_5 rfl 0 rfl ?_
    refine tv_iload_n C dX7_isWithin_6 rfl 2 rfl ?_
    refine tv_icmp_gt C 14 dX7_isWithin_7 (by decide) (fun c_2 => ?_) (fun c_2 => ?_)
    · skip
      refine tv_iconst (v := 0) C dX7_isWithin_14 (by decide) ?_
      exact hR _ _ _ _ dX7_isWithin_15 (by first | rfl | exact tn_nz (sp_in_z _ _ _) | exact tn_nz (sp_ix_z _ _)) ⟨by first | (simp only [sp_in, c_1, tn_d_nlt c_1, c_2, tn_d_lt c_2, if_true, ↓reduceIte]; done) | rfl | (simp [sp_in, c_1, tn_d_nlt c_1, c_2, tn_d_lt c_2, if_true]; done) | (exfalso; clear hR C; simp_all; done), by first | (simp only [sp_in, c_1, tn_d_nlt c_1, c_2, tn_d_lt c_2, if_true, ts_ss, ts_aa, ↓reduceIte]; done) | rfl | (simp [sp_in, c_1, tn_d_nlt c_1, c_2, tn_d_lt c_2, if_true, ts_ss, ts_aa]; done) | (exfalso; clear hR C; simp_all; done)⟩
    · skip
      refine tv_iconst (v := 1) C dX7_isWithin_10 (by decide) ?_
      refine tv_goto C 15 dX7_isWithin_11 (by decide) ?_
      exact hR _ _ _ _ dX7_isWithin_15 (by first | rfl | exact tn_nz (sp_in_z _ _ _) | exact tn_nz (sp_ix_z _ _)) ⟨by first | (simp only [sp_in, c_1, tn_d_nlt c_1, c_2, tn_d_nlt c_2, if_true, ↓reduceIte]; done) | rfl | (simp [sp_in, c_1, tn_d_nlt c_1, c_2, tn_d_nlt c_2, if_true]; done) | (exfalso; clear hR C; simp_all; done), by first | (simp only [sp_in, c_1, tn_d_nlt c_1, c_2, tn_d_nlt c_2, if_true, ts_ss, ts_aa, ↓reduceIte]; done) | rfl | (simp [sp_in, c_1, tn_d_nlt c_1, c_2, tn_d_nlt c_2, if_true, ts_ss, ts_aa]; done) | (exfalso; clear hR C; simp_all; done)⟩
set_option maxHeartbeats 4000000 in
set_option maxRecDepth 100000 in
theorem kX7_isSheet (c : tv_c) (s r : ts_T)  (p0 : Int32)  : tv_Fi c 60 yX7_isSheet wsX7_isSheet { frames := 1, cells := 0, slots := 0, locals := 22 } [.int p0] (eX c s r) (sp_in p0 0 3) (eX c s r) := by
  refine tv_metZ (by decide +kernel) rfl rfl (Nat.le_of_ble_eq_true rfl) (fun X C hR => ?_)
  show tv_V c 60 X (eX c s r) 0 [(0, .int p0)] []
  refine tv_iload_n C dX7_isSheet_0 rfl 0 rfl ?_
  refine tv_iconst (v := 0) C dX7_isSheet_1 (by decide) ?_
  refine tv_iconst (v := 3) C dX7_isSheet_2 (by decide) ?_
  refine tv_callis (As := [.int p0, .int 0, .int 3]) (rest := []) C (kX7_isWithin c s r  p0 0 3 ) gX7_isSheet_X7_isWithin rfl yd_X7_isWithin ⟨rfl, rfl⟩ (by decide) rfl rfl (Nat.le_of_ble_eq_true rfl) dX7_isSheet_3 (fun q_1 u_1 z_1 => ?_)
  obtain ⟨rfl, rfl⟩ := z_1
  exact hR _ _ _ _ dX7_isSheet_6 (by first | rfl | exact tn_nz (sp_in_z _ _ _) | exact tn_nz (sp_ix_z _ _)) ⟨by first | (simp only [if_true, ↓reduceIte]; done) | rfl | (simp [if_true]; done) | (exfalso; clear hR C; simp_all; done), by first | (simp only [if_true, ts_ss, ts_aa, ↓reduceIte]; done) | rfl | (simp [if_true, ts_ss, ts_aa]; done) | (exfalso; clear hR C; simp_all; done)⟩
set_option maxHeartbeats 4000000 in
set_option maxRecDepth 100000 in
theorem kX7_isSort (c : tv_c) (s r : ts_T)  (p0 : Int32)  : tv_Fi c 60 yX7_isSort wsX7_isSort { frames := 1, cells := 0, slots := 0, locals := 22 } [.int p0] (eX c s r) (sp_in p0 0 2) (eX c s r) := by
  refine tv_metZ (by decide +kernel) rfl rfl (Nat.le_of_ble_eq_true rfl) (fun X C hR => ?_)
  show tv_V c 60 X (eX c s r) 0 [(0, .int p0)] []
  refine tv_iload_n C dX7_isSort_0 rfl 0 rfl ?_
  refine tv_iconst (v := 0) C dX7_isSort_1 (by decide) ?_
  refine tv_iconst (v := 2) C dX7_isSort_2 (by decide) ?_
  refine tv_callis (As := [.int p0, .int 0, .int 2]) (rest := []) C (kX7_isWithin c s r  p0 0 2 ) gX7_isSort_X7_isWithin rfl yd_X7_isWithin ⟨rfl, rfl⟩ (by decide) rfl rfl (Nat.le_of_ble_eq_true rfl) dX7_isSort_3 (fun q_1 u_1 z_1 => ?_)
  obtain ⟨rfl, rfl⟩ := z_1
  exact hR _ _ _ _ dX7_isSort_6 (by first | rfl | exact tn_nz (sp_in_z _ _ _) | exact tn_nz (sp_ix_z _ _)) ⟨by first | (simp only [if_true, ↓reduceIte]; done) | rfl | (simp [if_true]; done) | (exfalso; clear hR C; simp_all; done), by first | (simp only [if_true, ts_ss, ts_aa, ↓reduceIte]; done) | rfl | (simp [if_true, ts_ss, ts_aa]; done) | (exfalso; clear hR C; simp_all; done)⟩
set_option maxHeartbeats 4000000 in
set_option maxRecDepth 100000 in
theorem kX7_isKind (c : tv_c) (s r : ts_T)  (p0 : Int32)  : tv_Fi c 60 yX7_isKind wsX7_isKind { frames := 1, cells := 0, slots := 0, locals := 22 } [.int p0] (eX c s r) (sp_in p0 0 2) (eX c s r) := by
  refine tv_metZ (by decide +kernel) rfl rfl (Nat.le_of_ble_eq_true rfl) (fun X C hR => ?_)
  show tv_V c 60 X (eX c s r) 0 [(0, .int p0)] []
  refine tv_iload_n C dX7_isKind_0 rfl 0 rfl ?_
  refine tv_iconst (v := 0) C dX7_isKind_1 (by decide) ?_
  refine tv_iconst (v := 2) C dX7_isKind_2 (by decide) ?_
  refine tv_callis (As := [.int p0, .int 0, .int 2]) (rest := []) C (kX7_isWithin c s r  p0 0 2 ) gX7_isKind_X7_isWithin rfl yd_X7_isWithin ⟨rfl, rfl⟩ (by decide) rfl rfl (Nat.le_of_ble_eq_true rfl) dX7_isKind_3 (fun q_1 u_1 z_1 => ?_)
  obtain ⟨rfl, rfl⟩ := z_1
  exact hR _ _ _ _ dX7_isKind_6 (by first | rfl | exact tn_nz (sp_in_z _ _ _) | exact tn_nz (sp_ix_z _ _)) ⟨by first | (simp only [if_true, ↓reduceIte]; done) | rfl | (simp [if_true]; done) | (exfalso; clear hR C; simp_all; done), by first | (simp only [if_true, ts_ss, ts_aa, ↓reduceIte]; done) | rfl | (simp [if_true, ts_ss, ts_aa]; done) | (exfalso; clear hR C; simp_all; done)⟩
set_option maxHeartbeats 4000000 in
set_option maxRecDepth 100000 in
theorem kX7_failed (c : tv_c) (s r : ts_T)  (p0 : Int32)  : tv_Fi c 60 yX7_failed wsX7_failed { frames := 0, cells := 0, slots := 0, locals := 0 } [.ref (tv_ad c 0), .int p0] (eX c s r) ((-10) - p0) (eX c (ts_s s 0 p0) r) := by
  refine tv_metI (by decide +kernel) rfl rfl (Nat.le_of_ble_eq_true rfl) (fun X C hR => ?_)
  show tv_V c 60 X (eX c s r) 0 [(0, .ref (tv_ad c 0)), (1, .int p0)] []
  refine tv_aload_n C dX7_failed_0 rfl 0 rfl ?_
  refine tv_iload_n C dX7_failed_1 rfl 1 rfl ?_
  refine tv_put (ci := 7) (Cn := RX7) (T := TX7) (Nf := 7) (ty := .int) (E' := (eX c (ts_s s 0 p0) r)) C 0 (by decide) rfl rfl in_X7_failed_X7 tyX7 tyX7_ok nmX7 6 (by decide) lk_X7_failed_50 rfl (by decide +kernel) rfl rfl (Nat.le_of_ble_eq_true rfl) (eX_u_latestFault c s r p0) dX7_failed_2 ?_
  refine tv_bipush (v := (-10)) C dX7_failed_5 (by decide) ?_
  refine tv_iload_n C dX7_failed_7 rfl 1 rfl ?_
  refine tv_isub C dX7_failed_8 ?_
  exact hR _ _ _ _ dX7_failed_9 ⟨by first | (simp only [if_true, ↓reduceIte]; done) | rfl | (simp [if_true]; done) | (exfalso; clear hR C; simp_all; done), by first | (simp only [if_true, ts_ss, ts_aa, ↓reduceIte]; done) | rfl | (simp [if_true, ts_ss, ts_aa]; done) | (exfalso; clear hR C; simp_all; done)⟩
set_option maxHeartbeats 4000000 in
set_option maxRecDepth 100000 in
theorem kX7_mark (c : tv_c) (s r : ts_T)  (p0 : Int32)  : tv_Fv c 60 yX7_mark wsX7_mark { frames := 0, cells := 0, slots := 0, locals := 0 } [.ref (tv_ad c 0), .int p0] (eX c s r) (eX c (ts_s s 1 (31 * (s 1 0) + p0)) r) := by
  refine tv_metV (by decide +kernel) rfl rfl (Nat.le_of_ble_eq_true rfl) (fun X C hR => ?_)
  show tv_V c 60 X (eX c s r) 0 [(0, .ref (tv_ad c 0)), (1, .int p0)] []
  refine tv_aload_n C dX7_mark_0 rfl 0 rfl ?_
  refine tv_bipush (v := 31) C dX7_mark_1 (by decide) ?_
  refine tv_aload_n C dX7_mark_3 rfl 0 rfl ?_
  refine tv_get (ci := 7) (Cn := RX7) (T := TX7) (Nf := 7) (v := .int (s 1 0)) C 0 (by decide) rfl rfl in_X7_mark_X7 5 (by decide) lk_X7_mark_282 rfl dX7_mark_4 ?_
  refine tv_imul C dX7_mark_7 ?_
  refine tv_iload_n C dX7_mark_8 rfl 1 rfl ?_
  refine tv_iadd C dX7_mark_9 ?_
  refine tv_put (ci := 7) (Cn := RX7) (T := TX7) (Nf := 7) (ty := .int) (E' := (eX c (ts_s s 1 ((31 * (s 1 0)) + p0)) r)) C 0 (by decide) rfl rfl in_X7_mark_X7 tyX7 tyX7_ok nmX7 5 (by decide) lk_X7_mark_282 rfl (by decide +kernel) rfl rfl (Nat.le_of_ble_eq_true rfl) (eX_u_marks c s r ((31 * (s 1 0)) + p0)) dX7_mark_10 ?_
  exact hR _ _ _ dX7_mark_13 (by first | (simp only [if_true, ts_ss, ts_aa, ↓reduceIte]; done) | rfl | (simp [if_true, ts_ss, ts_aa]; done) | (exfalso; clear hR C; simp_all; done))
set_option maxHeartbeats 4000000 in
set_option maxRecDepth 100000 in
theorem kX7_trace (c : tv_c) (s r : ts_T)   : tv_Fi c 60 yX7_trace wsX7_trace { frames := 0, cells := 0, slots := 0, locals := 0 } [.ref (tv_ad c 0)] (eX c s r) (s 1 0) (eX c s r) := by
  refine tv_metI (by decide +kernel) rfl rfl (Nat.le_of_ble_eq_true rfl) (fun X C hR => ?_)
  show tv_V c 60 X (eX c s r) 0 [(0, .ref (tv_ad c 0))] []
  refine tv_aload_n C dX7_trace_0 rfl 0 rfl ?_
  refine tv_get (ci := 7) (Cn := RX7) (T := TX7) (Nf := 7) (v := .int (s 1 0)) C 0 (by decide) rfl rfl in_X7_trace_X7 5 (by decide) lk_X7_trace_282 rfl dX7_trace_1 ?_
  exact hR _ _ _ _ dX7_trace_4 ⟨by first | (simp only [if_true, ↓reduceIte]; done) | rfl | (simp [if_true]; done) | (exfalso; clear hR C; simp_all; done), by first | (simp only [if_true, ts_ss, ts_aa, ↓reduceIte]; done) | rfl | (simp [if_true, ts_ss, ts_aa]; done) | (exfalso; clear hR C; simp_all; done)⟩
set_option maxHeartbeats 4000000 in
set_option maxRecDepth 100000 in
theorem kX7_fault (c : tv_c) (s r : ts_T)   : tv_Fi c 60 yX7_fault wsX7_fault { frames := 0, cells := 0, slots := 0, locals := 0 } [.ref (tv_ad c 0)] (eX c s r) (s 0 0) (eX c s r) := by
  refine tv_metI (by decide +kernel) rfl rfl (Nat.le_of_ble_eq_true rfl) (fun X C hR => ?_)
  show tv_V c 60 X (eX c s r) 0 [(0, .ref (tv_ad c 0))] []
  refine tv_aload_n C dX7_fault_0 rfl 0 rfl ?_
  refine tv_get (ci := 7) (Cn := RX7) (T := TX7) (Nf := 7) (v := .int (s 0 0)) C 0 (by decide) rfl rfl in_X7_fault_X7 6 (by decide) lk_X7_fault_50 rfl dX7_fault_1 ?_
  exact hR _ _ _ _ dX7_fault_4 ⟨by first | (simp only [if_true, ↓reduceIte]; done) | rfl | (simp [if_true]; done) | (exfalso; clear hR C; simp_all; done), by first | (simp only [if_true, ts_ss, ts_aa, ↓reduceIte]; done) | rfl | (simp [if_true, ts_ss, ts_aa]; done) | (exfalso; clear hR C; simp_all; done)⟩
set_option maxHeartbeats 4000000 in
set_option maxRecDepth 100000 in
theorem kX6_hasCell (c : tv_c) (s r : ts_T)  (p0 : Int32)  : tv_Fi c 60 yX6_hasCell wsX6_hasCell { frames := 0, cells := 0, slots := 0, locals := 0 } [.ref (tv_ad c 2), .int p0] (eX c s r) (sp_ix p0 (s 9 0)) (eX c s r) := by
  refine tv_metZ (by decide +kernel) rfl rfl (Nat.le_of_ble_eq_true rfl) (fun X C hR => ?_)
  show tv_V c 60 X (eX c s r) 0 [(0, .ref (tv_ad c 2)), (1, .int p0)] []
  refine tv_iload_n C dX6_hasCell_0 rfl 1 rfl ?_
  refine tv_if_lt C 16 dX6_hasCell_1 (by decide) (fun c_1 => ?_) (fun c_1 => ?_)
  · skip
    refine tv_iconst (v := 0) C dX6_hasCell_16 (by decide) ?_
    exact hR _ _ _ _ dX6_hasCell_17 (by first | rfl | exact tn_nz (sp_in_z _ _ _) | exact tn_nz (sp_ix_z _ _)) ⟨by first | (simp only [sp_ix, c_1, tn_d_lt c_1, if_true, ↓reduceIte]; done) | rfl | (simp [sp_ix, c_1, tn_d_lt c_1, if_true]; done) | (exfalso; clear hR C; simp_all; done), by first | (simp only [sp_ix, c_1, tn_d_lt c_1, if_true, ts_ss, ts_aa, ↓reduceIte]; done) | rfl | (simp [sp_ix, c_1, tn_d_lt c_1, if_true, ts_ss, ts_aa]; done) | (exfalso; clear hR C; simp_all; done)⟩
  · skip
    refine tv_iload_n C dX6_hasCell_4 rfl 1 rfl ?_
    refine tv_aload_n C dX6_hasCell_5 rfl 0 rfl ?_
    refine tv_get (ci := 6) (Cn := RX6) (T := TX6) (Nf := 11) (v := .int (s 9 0)) C 2 (by decide) rfl rfl in_X6_hasCell_X6 5 (by decide) lk_X6_hasCell_41 rfl dX6_hasCell_6 ?_
    refine tv_icmp_ge C 16 dX6_hasCell_9 (by decide) (fun c_2 => ?_) (fun c_2 => ?_)
    · skip
      refine tv_iconst (v := 0) C dX6_hasCell_16 (by decide) ?_
      exact hR _ _ _ _ dX6_hasCell_17 (by first | rfl | exact tn_nz (sp_in_z _ _ _) | exact tn_nz (sp_ix_z _ _)) ⟨by first | (simp only [sp_ix, c_1, tn_d_nlt c_1, c_2, tn_d_le c_2, if_true, ↓reduceIte]; done) | rfl | (simp [sp_ix, c_1, tn_d_nlt c_1, c_2, tn_d_le c_2, if_true]; done) | (exfalso; clear hR C; simp_all; done), by first | (simp only [sp_ix, c_1, tn_d_nlt c_1, c_2, tn_d_le c_2, if_true, ts_ss, ts_aa, ↓reduceIte]; done) | rfl | (simp [sp_ix, c_1, tn_d_nlt c_1, c_2, tn_d_le c_2, if_true, ts_ss, ts_aa]; done) | (exfalso; clear hR C; simp_all; done)⟩
    · skip
      refine tv_iconst (v := 1) C dX6_hasCell_12 (by decide) ?_
      refine tv_goto C 17 dX6_hasCell_13 (by decide) ?_
      exact hR _ _ _ _ dX6_hasCell_17 (by first | rfl | exact tn_nz (sp_in_z _ _ _) | exact tn_nz (sp_ix_z _ _)) ⟨by first | (simp only [sp_ix, c_1, tn_d_nlt c_1, c_2, tn_d_nle c_2, if_true, ↓reduceIte]; done) | rfl | (simp [sp_ix, c_1, tn_d_nlt c_1, c_2, tn_d_nle c_2, if_true]; done) | (exfalso; clear hR C; simp_all; done), by first | (simp only [sp_ix, c_1, tn_d_nlt c_1, c_2, tn_d_nle c_2, if_true, ts_ss, ts_aa, ↓reduceIte]; done) | rfl | (simp [sp_ix, c_1, tn_d_nlt c_1, c_2, tn_d_nle c_2, if_true, ts_ss, ts_aa]; done) | (exfalso; clear hR C; simp_all; done)⟩
set_option maxHeartbeats 4000000 in
set_option maxRecDepth 100000 in
theorem kX6_hasCoat (c : tv_c) (s r : ts_T)  (p0 : Int32)  : tv_Fi c 60 yX6_hasCoat wsX6_hasCoat { frames := 0, cells := 0, slots := 0, locals := 0 } [.ref (tv_ad c 2), .int p0] (eX c s r) (sp_ix p0 (s 7 0)) (eX c s r) := by
  refine tv_metZ (by decide +kernel) rfl rfl (Nat.le_of_ble_eq_true rfl) (fun X C hR => ?_)
  show tv_V c 60 X (eX c s r) 0 [(0, .ref (tv_ad c 2)), (1, .int p0)] []
  refine tv_iload_n C dX6_hasCoat_0 rfl 1 rfl ?_
  refine tv_if_lt C 16 dX6_hasCoat_1 (by decide) (fun c_1 => ?_) (fun c_1 => ?_)
  · skip
    refine tv_iconst (v := 0) C dX6_hasCoat_16 (by decide) ?_
    exact hR _ _ _ _ dX6_hasCoat_17 (by first | rfl | exact tn_nz (sp_in_z _ _ _) | exact tn_nz (sp_ix_z _ _)) ⟨by first | (simp only [sp_ix, c_1, tn_d_lt c_1, if_true, ↓reduceIte]; done) | rfl | (simp [sp_ix, c_1, tn_d_lt c_1, if_true]; done) | (exfalso; clear hR C; simp_all; done), by first | (simp only [sp_ix, c_1, tn_d_lt c_1, if_true, ts_ss, ts_aa, ↓reduceIte]; done) | rfl | (simp [sp_ix, c_1, tn_d_lt c_1, if_true, ts_ss, ts_aa]; done) | (exfalso; clear hR C; simp_all; done)⟩
  · skip
    refine tv_iload_n C dX6_hasCoat_4 rfl 1 rfl ?_
    refine tv_aload_n C dX6_hasCoat_5 rfl 0 rfl ?_
    refine tv_get (ci := 6) (Cn := RX6) (T := TX6) (Nf := 11) (v := .int (s 7 0)) C 2 (by decide) rfl rfl in_X6_hasCoat_X6 6 (by decide) lk_X6_hasCoat_60 rfl dX6_hasCoat_6 ?_
    refine tv_icmp_ge C 16 dX6_hasCoat_9 (by decide) (fun c_2 => ?_) (fun c_2 => ?_)
    · skip
      refine tv_iconst (v := 0) C dX6_hasCoat_16 (by decide) ?_
      exact hR _ _ _ _ dX6_hasCoat_17 (by first | rfl | exact tn_nz (sp_in_z _ _ _) | exact tn_nz (sp_ix_z _ _)) ⟨by first | (simp only [sp_ix, c_1, tn_d_nlt c_1, c_2, tn_d_le c_2, if_true, ↓reduceIte]; done) | rfl | (simp [sp_ix, c_1, tn_d_nlt c_1, c_2, tn_d_le c_2, if_true]; done) | (exfalso; clear hR C; simp_all; done), by first | (simp only [sp_ix, c_1, tn_d_nlt c_1, c_2, tn_d_le c_2, if_true, ts_ss, ts_aa, ↓reduceIte]; done) | rfl | (simp [sp_ix, c_1, tn_d_nlt c_1, c_2, tn_d_le c_2, if_true, ts_ss, ts_aa]; done) | (exfalso; clear hR C; simp_all; done)⟩
    · skip
      refine tv_iconst (v := 1) C dX6_hasCoat_12 (by decide) ?_
      refine tv_goto C 17 dX6_hasCoat_13 (by decide) ?_
      exact hR _ _ _ _ dX6_hasCoat_17 (by first | rfl | exact tn_nz (sp_in_z _ _ _) | exact tn_nz (sp_ix_z _ _)) ⟨by first | (simp only [sp_ix, c_1, tn_d_nlt c_1, c_2, tn_d_nle c_2, if_true, ↓reduceIte]; done) | rfl | (simp [sp_ix, c_1, tn_d_nlt c_1, c_2, tn_d_nle c_2, if_true]; done) | (exfalso; clear hR C; simp_all; done), by first | (simp only [sp_ix, c_1, tn_d_nlt c_1, c_2, tn_d_nle c_2, if_true, ts_ss, ts_aa, ↓reduceIte]; done) | rfl | (simp [sp_ix, c_1, tn_d_nlt c_1, c_2, tn_d_nle c_2, if_true, ts_ss, ts_aa]; done) | (exfalso; clear hR C; simp_all; done)⟩
set_option maxHeartbeats 4000000 in
set_option maxRecDepth 100000 in
theorem kX6_hasLight (c : tv_c) (s r : ts_T)  (p0 : Int32)  : tv_Fi c 60 yX6_hasLight wsX6_hasLight { frames := 0, cells := 0, slots := 0, locals := 0 } [.ref (tv_ad c 2), .int p0] (eX c s r) (sp_ix p0 (s 8 0)) (eX c s r) := by
  refine tv_metZ (by decide +kernel) rfl rfl (Nat.le_of_ble_eq_true rfl) (fun X C hR => ?_)
  show tv_V c 60 X (eX c s r) 0 [(0, .ref (tv_ad c 2)), (1, .int p0)] []
  refine tv_iload_n C dX6_hasLight_0 rfl 1 rfl ?_
  refine tv_if_lt C 16 dX6_hasLight_1 (by decide) (fun c_1 => ?_) (fun c_1 => ?_)
  · skip
    refine tv_iconst (v := 0) C dX6_hasLight_16 (by decide) ?_
    exact hR _ _ _ _ dX6_hasLight_17 (by first | rfl | exact tn_nz (sp_in_z _ _ _) | exact tn_nz (sp_ix_z _ _)) ⟨by first | (simp only [sp_ix, c_1, tn_d_lt c_1, if_true, ↓reduceIte]; done) | rfl | (simp [sp_ix, c_1, tn_d_lt c_1, if_true]; done) | (exfalso; clear hR C; simp_all; done), by first | (simp only [sp_ix, c_1, tn_d_lt c_1, if_true, ts_ss, ts_aa, ↓reduceIte]; done) | rfl | (simp [sp_ix, c_1, tn_d_lt c_1, if_true, ts_ss, ts_aa]; done) | (exfalso; clear hR C; simp_all; done)⟩
  · skip
    refine tv_iload_n C dX6_hasLight_4 rfl 1 rfl ?_
    refine tv_aload_n C dX6_hasLight_5 rfl 0 rfl ?_
    refine tv_get (ci := 6) (Cn := RX6) (T := TX6) (Nf := 11) (v := .int (s 8 0)) C 2 (by decide) rfl rfl in_X6_hasLight_X6 7 (by decide) lk_X6_hasLight_57 rfl dX6_hasLight_6 ?_
    refine tv_icmp_ge C 16 dX6_hasLight_9 (by decide) (fun c_2 => ?_) (fun c_2 => ?_)
    · skip
      refine tv_iconst (v := 0) C dX6_hasLight_16 (by decide) ?_
      exact hR _ _ _ _ dX6_hasLight_17 (by first | rfl | exact tn_nz (sp_in_z _ _ _) | exact tn_nz (sp_ix_z _ _)) ⟨by first | (simp only [sp_ix, c_1, tn_d_nlt c_1, c_2, tn_d_le c_2, if_true, ↓reduceIte]; done) | rfl | (simp [sp_ix, c_1, tn_d_nlt c_1, c_2, tn_d_le c_2, if_true]; done) | (exfalso; clear hR C; simp_all; done), by first | (simp only [sp_ix, c_1, tn_d_nlt c_1, c_2, tn_d_le c_2, if_true, ts_ss, ts_aa, ↓reduceIte]; done) | rfl | (simp [sp_ix, c_1, tn_d_nlt c_1, c_2, tn_d_le c_2, if_true, ts_ss, ts_aa]; done) | (exfalso; clear hR C; simp_all; done)⟩
    · skip
      refine tv_iconst (v := 1) C dX6_hasLight_12 (by decide) ?_
      refine tv_goto C 17 dX6_hasLight_13 (by decide) ?_
      exact hR _ _ _ _ dX6_hasLight_17 (by first | rfl | exact tn_nz (sp_in_z _ _ _) | exact tn_nz (sp_ix_z _ _)) ⟨by first | (simp only [sp_ix, c_1, tn_d_nlt c_1, c_2, tn_d_nle c_2, if_true, ↓reduceIte]; done) | rfl | (simp [sp_ix, c_1, tn_d_nlt c_1, c_2, tn_d_nle c_2, if_true]; done) | (exfalso; clear hR C; simp_all; done), by first | (simp only [sp_ix, c_1, tn_d_nlt c_1, c_2, tn_d_nle c_2, if_true, ts_ss, ts_aa, ↓reduceIte]; done) | rfl | (simp [sp_ix, c_1, tn_d_nlt c_1, c_2, tn_d_nle c_2, if_true, ts_ss, ts_aa]; done) | (exfalso; clear hR C; simp_all; done)⟩
set_option maxHeartbeats 4000000 in
set_option maxRecDepth 100000 in
theorem kX6_views (c : tv_c) (s r : ts_T)   : tv_Fi c 60 yX6_views wsX6_views { frames := 0, cells := 0, slots := 0, locals := 0 } [.ref (tv_ad c 2)] (eX c s r) (2 * s 8 0) (eX c s r) := by
  refine tv_metI (by decide +kernel) rfl rfl (Nat.le_of_ble_eq_true rfl) (fun X C hR => ?_)
  show tv_V c 60 X (eX c s r) 0 [(0, .ref (tv_ad c 2))] []
  refine tv_iconst (v := 2) C dX6_views_0 (by decide) ?_
  refine tv_aload_n C dX6_views_1 rfl 0 rfl ?_
  refine tv_get (ci := 6) (Cn := RX6) (T := TX6) (Nf := 11) (v := .int (s 8 0)) C 2 (by decide) rfl rfl in_X6_views_X6 7 (by decide) lk_X6_views_57 rfl dX6_views_2 ?_
  refine tv_imul C dX6_views_5 ?_
  exact hR _ _ _ _ dX6_views_6 ⟨by first | (simp only [if_true, ↓reduceIte]; done) | rfl | (simp [if_true]; done) | (exfalso; clear hR C; simp_all; done), by first | (simp only [if_true, ts_ss, ts_aa, ↓reduceIte]; done) | rfl | (simp [if_true, ts_ss, ts_aa]; done) | (exfalso; clear hR C; simp_all; done)⟩
set_option maxHeartbeats 4000000 in
set_option maxRecDepth 100000 in
theorem kX0_takeFresh (c : tv_c) (s r : ts_T) (j : Nat)  (p0 : Int32) (hj : j < 24) : tv_Fv c 60 yX0_takeFresh wsX0_takeFresh { frames := 0, cells := 0, slots := 0, locals := 0 } [.ref (tv_ad c (24 + j)), .int p0] (eX c s r) (eX c (ts_a (ts_a (ts_a s 11 (upd (s 11) j p0)) 12 (upd (s 12) j 0)) 13 (upd (s 13) j 0)) r) := by
  refine tv_metV (by decide +kernel) rfl rfl (Nat.le_of_ble_eq_true rfl) (fun X C hR => ?_)
  show tv_V c 60 X (eX c s r) 0 [(0, .ref (tv_ad c (24 + j))), (1, .int p0)] []
  refine tv_aload_n C dX0_takeFresh_0 rfl 0 rfl ?_
  refine tv_iload_n C dX0_takeFresh_1 rfl 1 rfl ?_
  refine tv_put (ci := 0) (Cn := RX0) (T := TX0) (Nf := 5) (ty := .int) (E' := (eX c (ts_a s 11 (upd (s 11) j p0)) r)) C (24 + j) (by omega) (eX_at_c c s r (by omega)) rfl in_X0_takeFresh_X0 tyX0 tyX0_ok nmX0 1 (by decide) lk_X0_takeFresh_7 rfl (by decide +kernel) rfl rfl (Nat.le_of_ble_eq_true rfl) (eX_u_c_coat c s r (by omega) p0) dX0_takeFresh_2 ?_
  refine tv_aload_n C dX0_takeFresh_5 rfl 0 rfl ?_
  refine tv_iconst (v := 0) C dX0_takeFresh_6 (by decide) ?_
  refine tv_put (ci := 0) (Cn := RX0) (T := TX0) (Nf := 5) (ty := .int) (E' := (eX c (ts_a (ts_a s 11 (upd (s 11) j p0)) 12 (upd (s 12) j 0)) r)) C (24 + j) (by omega) (eX_at_c c (ts_a s 11 (upd (s 11) j p0)) r (by omega)) rfl in_X0_takeFresh_X0 tyX0 tyX0_ok nmX0 2 (by decide) lk_X0_takeFresh_13 rfl (by decide +kernel) rfl rfl (Nat.le_of_ble_eq_true rfl) (eX_u_c_sunHad c (ts_a s 11 (upd (s 11) j p0)) r (by omega) 0) dX0_takeFresh_7 ?_
  refine tv_aload_n C dX0_takeFresh_10 rfl 0 rfl ?_
  refine tv_iconst (v := 0) C dX0_takeFresh_11 (by decide) ?_
  refine tv_put (ci := 0) (Cn := RX0) (T := TX0) (Nf := 5) (ty := .int) (E' := (eX c (ts_a (ts_a (ts_a s 11 (upd (s 11) j p0)) 12 (upd (s 12) j 0)) 13 (upd (s 13) j 0)) r)) C (24 + j) (by omega) (eX_at_c c (ts_a (ts_a s 11 (upd (s 11) j p0)) 12 (upd (s 12) j 0)) r (by omega)) rfl in_X0_takeFresh_X0 tyX0 tyX0_ok nmX0 3 (by decide) lk_X0_takeFresh_16 rfl (by decide +kernel) rfl rfl (Nat.le_of_ble_eq_true rfl) (eX_u_c_air c (ts_a (ts_a s 11 (upd (s 11) j p0)) 12 (upd (s 12) j 0)) r (by omega) 0) dX0_takeFresh_12 ?_
  exact hR _ _ _ dX0_takeFresh_15 (by first | (simp only [if_true, ts_ss, ts_aa, ↓reduceIte]; done) | rfl | (simp [if_true, ts_ss, ts_aa]; done) | (exfalso; clear hR C; simp_all; done))
set_option maxHeartbeats 4000000 in
set_option maxRecDepth 100000 in
theorem kX1_lossIn (c : tv_c) (s r : ts_T) (ka : Nat)  (p0 p1 p2 p3 : Int32) (hka : ka < 7) : tv_Fi c 60 yX1_lossIn wsX1_lossIn { frames := 0, cells := 0, slots := 0, locals := 0 } [.ref (tv_ad c (cp_p ka)), .int p0, .int p1, .int p2, .int p3] (eX c s r) (sp_ls (cp_k s r ka) p0 p1 p2 p3) (eX c s r) := by
  refine tv_metI (by decide +kernel) rfl rfl (Nat.le_of_ble_eq_true rfl) (fun X C hR => ?_)
  show tv_V c 60 X (eX c s r) 0 [(0, .ref (tv_ad c (cp_p ka))), (1, .int p0), (2, .int p1), (3, .int p2), (4, .int p3)] []
  refine tv_iload_n C dX1_lossIn_0 rfl 2 rfl ?_
  refine tv_iload_n C dX1_lossIn_1 rfl 1 rfl ?_
  refine tv_iconst (v := 1) C dX1_lossIn_2 (by decide) ?_
  refine tv_iadd C dX1_lossIn_3 ?_
  refine tv_imul C dX1_lossIn_4 ?_
  refine tv_bipush (v := 10) C dX1_lossIn_5 (by decide) ?_
  refine tv_idiv C (by decide) dX1_lossIn_7 ?_
  refine tv_iload_n C dX1_lossIn_8 rfl 3 rfl ?_
  refine tv_iload C dX1_lossIn_9 4 rfl ?_
  refine tv_imul C dX1_lossIn_11 ?_
  refine tv_iconst (v := 5) C dX1_lossIn_12 (by decide) ?_
  refine tv_idiv C (by decide) dX1_lossIn_13 ?_
  refine tv_iadd C dX1_lossIn_14 ?_
  refine tv_istore (lv' := [(5, .int (((p1 * (p0 + 1)) / 10) + ((p2 * p3) / 5))), (0, .ref (tv_ad c (cp_p ka))), (1, .int p0), (2, .int p1), (3, .int p2), (4, .int p3)]) C dX1_lossIn_15 (by decide) rfl ?_
  refine tv_aload_n C dX1_lossIn_17 rfl 1 rfl ?_
  refine tv_get (ci := 1) (Cn := RX1) (T := TX1) (Nf := 2) (v := .int (cp_k s r ka)) C (cp_p ka) (cp_lt (show ka < 7 by omega)) (cp_at c s r (show ka < 7 by omega)) rfl in_X1_lossIn_X1 1 (by decide) lk_X1_lossIn_15 rfl dX1_lossIn_18 ?_
  refine tv_iconst (v := 2) C dX1_lossIn_21 (by decide) ?_
  refine tv_icmp_ne C 32 dX1_lossIn_22 (by decide) (fun c_1 => ?_) (fun c_1 => ?_)
  · skip
    refine tv_iload C dX1_lossIn_32 0 rfl ?_
    exact hR _ _ _ _ dX1_lossIn_34 ⟨by first | (simp only [sp_ls, c_1, if_true, ↓reduceIte]; done) | rfl | (simp [sp_ls, c_1, if_true]; done) | (exfalso; clear hR C; simp_all; done), by first | (simp only [sp_ls, c_1, if_true, ts_ss, ts_aa, ↓reduceIte]; done) | rfl | (simp [sp_ls, c_1, if_true, ts_ss, ts_aa]; done) | (exfalso; clear hR C; simp_all; done)⟩
  · skip
    refine tv_iload C dX1_lossIn_25 0 rfl ?_
    refine tv_iconst (v := 2) C dX1_lossIn_27 (by decide) ?_
    refine tv_idiv C (by decide) dX1_lossIn_28 ?_
    refine tv_goto C 34 dX1_lossIn_29 (by decide) ?_
    exact hR _ _ _ _ dX1_lossIn_34 ⟨by first | (simp only [sp_ls, eq_true c_1, if_true, ↓reduceIte]; done) | rfl | (simp [sp_ls, eq_true c_1, if_true]; done) | (exfalso; clear hR C; simp_all; done), by first | (simp only [sp_ls, eq_true c_1, if_true, ts_ss, ts_aa, ↓reduceIte]; done) | rfl | (simp [sp_ls, eq_true c_1, if_true, ts_ss, ts_aa]; done) | (exfalso; clear hR C; simp_all; done)⟩
set_option maxHeartbeats 4000000 in
set_option maxRecDepth 100000 in
theorem kX1_comesBack (c : tv_c) (s r : ts_T) (ka : Nat)  (b : Nat) (p0 p1 p2 p3 p4 : Int32) (hka : ka < 7) (e_p0 : p0 = nI b) (h_p0 : b < 3) (hi : tn_b (cp_v s r ka b) 99) (hl : tn_b (sp_ls (cp_k s r ka) p0 p1 p2 p3) 360) : tv_Fi c 60 yX1_comesBack wsX1_comesBack { frames := 1, cells := 0, slots := 0, locals := 25 } [.ref (tv_ad c (cp_p ka)), .int p0, .int p1, .int p2, .int p3, .int p4] (eX c s r) (sp_cm (cp_k s r ka) (cp_v s r ka b) p0 p1 p2 p3 p4) (eX c s r) := by
  refine tv_metI (by decide +kernel) rfl rfl (Nat.le_of_ble_eq_true rfl) (fun X C hR => ?_)
  show tv_V c 60 X (eX c s r) 0 [(0, .ref (tv_ad c (cp_p ka))), (1, .int p0), (2, .int p1), (3, .int p2), (4, .int p3), (5, .int p4)] []
  refine tv_iconst (v := 0) C dX1_comesBack_0 (by decide) ?_
  refine tv_aload_n C dX1_comesBack_1 rfl 0 rfl ?_
  refine tv_get (ci := 1) (Cn := RX1) (T := TX1) (Nf := 2) (v := .ref (tv_ad c (cp_b ka))) C (cp_p ka) (cp_lt (show ka < 7 by omega)) (cp_at c s r (show ka < 7 by omega)) rfl in_X1_comesBack_X1 0 (by decide) lk_X1_comesBack_9 rfl dX1_comesBack_2 ?_
  refine tv_iload_n C dX1_comesBack_5 rfl 1 rfl ?_
  refine tv_iald (v := (cp_v s r ka b)) C (cp_b ka) (cb_lt (show ka < 7 by omega)) (cb_at c s r (show ka < 7 by omega)) b e_p0 (show b < 3 by omega) (by decide) (cb_v (show b < 3 by omega)) dX1_comesBack_6 ?_
  refine tv_aload_n C dX1_comesBack_7 rfl 0 rfl ?_
  refine tv_iload_n C dX1_comesBack_8 rfl 1 rfl ?_
  refine tv_iload_n C dX1_comesBack_9 rfl 2 rfl ?_
  refine tv_iload_n C dX1_comesBack_10 rfl 3 rfl ?_
  refine tv_iload C dX1_comesBack_11 4 rfl ?_
  refine tv_calli (As := [.int p0, .int p1, .int p2, .int p3]) (rest := [.int (cp_v s r ka b), .int 0]) (ci := 1) (cn := RX1) (T := TX1) (Nf := 2) C (cp_p ka) (kX1_lossIn c s r ka p0 p1 p2 p3 (show ka < 7 by omega)) gX1_comesBack_X1_lossIn rfl yd_X1_lossIn ⟨rfl, rfl⟩ (by decide) (cp_lt (show ka < 7 by omega)) (cp_at c s r (show ka < 7 by omega)) rfl rfl rfl (Nat.le_of_ble_eq_true rfl) dX1_comesBack_13 (fun q_1 u_1 z_1 => ?_)
  obtain ⟨rfl, rfl⟩ := z_1
  refine tv_isub C dX1_comesBack_16 ?_
  refine tv_max C wd_X1_comesBack_m23 wd_X1_comesBack_stmax wd_X1_comesBack_inim wd_X1_comesBack_cdmax (by decide) (Nat.le_of_ble_eq_true rfl) dX1_comesBack_17 ?_
  refine tv_istore (lv' := [(6, .int (if 0 < ((cp_v s r ka b) - (sp_ls (cp_k s r ka) p0 p1 p2 p3)) then ((cp_v s r ka b) - (sp_ls (cp_k s r ka) p0 p1 p2 p3)) else 0)), (0, .ref (tv_ad c (cp_p ka))), (1, .int p0), (2, .int p1), (3, .int p2), (4, .int p3), (5, .int p4)]) C dX1_comesBack_20 (by decide) rfl ?_
  refine tv_iload C dX1_comesBack_22 6 rfl ?_
  refine tv_if_eq C 42 dX1_comesBack_24 (by decide) (fun c_2 => ?_) (fun c_2 => ?_)
  · skip
    refine tv_iload C dX1_comesBack_42 0 rfl ?_
    exact hR _ _ _ _ dX1_comesBack_44 ⟨by rw [← cx_cm hi hl]; simp only [eq_true c_2, ↓reduceIte], by first | (simp only [eq_true c_2, if_true, ts_ss, ts_aa, ↓reduceIte]; done) | rfl | (simp [eq_true c_2, if_true, ts_ss, ts_aa]; done) | (exfalso; clear hR C; simp_all; done)⟩
  · skip
    refine tv_aload_n C dX1_comesBack_27 rfl 1 rfl ?_
    refine tv_get (ci := 1) (Cn := RX1) (T := TX1) (Nf := 2) (v := .int (cp_k s r ka)) C (cp_p ka) (cp_lt (show ka < 7 by omega)) (cp_at c s r (show ka < 7 by omega)) rfl in_X1_comesBack_X1 1 (by decide) lk_X1_comesBack_15 rfl dX1_comesBack_28 ?_
    refine tv_iconst (v := 1) C dX1_comesBack_31 (by decide) ?_
    refine tv_icmp_lt C 42 dX1_comesBack_32 (by decide) (fun c_3 => ?_) (fun c_3 => ?_)
    · skip
      refine tv_iload C dX1_comesBack_42 0 rfl ?_
      exact hR _ _ _ _ dX1_comesBack_44 ⟨by rw [← cx_cm hi hl]; simp only [c_2, c_3, tn_d_lt c_3, ↓reduceIte], by first | (simp only [c_2, c_3, tn_d_lt c_3, if_true, ts_ss, ts_aa, ↓reduceIte]; done) | rfl | (simp [c_2, c_3, tn_d_lt c_3, if_true, ts_ss, ts_aa]; done) | (exfalso; clear hR C; simp_all; done)⟩
    · skip
      refine tv_iload C dX1_comesBack_35 0 rfl ?_
      refine tv_iconst (v := 5) C dX1_comesBack_37 (by decide) ?_
      refine tv_iadd C dX1_comesBack_38 ?_
      refine tv_goto C 44 dX1_comesBack_39 (by decide) ?_
      exact hR _ _ _ _ dX1_comesBack_44 ⟨by rw [← cx_cm hi hl]; simp only [c_2, c_3, tn_d_nlt c_3, ↓reduceIte], by first | (simp only [c_2, c_3, tn_d_nlt c_3, if_true, ts_ss, ts_aa, ↓reduceIte]; done) | rfl | (simp [c_2, c_3, tn_d_nlt c_3, if_true, ts_ss, ts_aa]; done) | (exfalso; clear hR C; simp_all; done)⟩
