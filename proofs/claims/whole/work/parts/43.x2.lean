set_option maxRecDepth 20000 in
theorem in_X0_begin_X0 : ∀ w ∈ u_ws RX0 TX0 5, w ∈ wsX0_begin := by decide +kernel
set_option maxRecDepth 20000 in
theorem lk_X0_begin_19 : Cond.fieldLink RX0 19 (TX0 0).1 (TX0 0).2.1 (TX0 0).2.2.1 ∈ wsX0_begin := by decide +kernel
set_option maxRecDepth 20000 in
theorem lk_X0_begin_22 : Cond.fieldLink RX0 22 (TX0 4).1 (TX0 4).2.1 (TX0 4).2.2.1 ∈ wsX0_begin := by decide +kernel
theorem yd_X0_takeFresh : yX0_takeFresh.cls = RX0 ∧ yX0_takeFresh.cls ≠ "java/lang/invoke/MethodHandle" ∧ yX0_takeFresh.cls ≠ "java/lang/invoke/VarHandle" ∧ (parseMethodDescriptor yX0_takeFresh.desc).map (fun d => d.parameters.length) = some 1 := by decide +kernel
set_option maxRecDepth 20000 in
theorem in_X0_age_X0 : ∀ w ∈ u_ws RX0 TX0 5, w ∈ wsX0_age := by decide +kernel
set_option maxRecDepth 20000 in
theorem lk_X0_age_22 : Cond.fieldLink RX0 22 (TX0 4).1 (TX0 4).2.1 (TX0 4).2.2.1 ∈ wsX0_age := by decide +kernel
set_option maxRecDepth 20000 in
theorem lk_X0_age_13 : Cond.fieldLink RX0 13 (TX0 2).1 (TX0 2).2.1 (TX0 2).2.2.1 ∈ wsX0_age := by decide +kernel
set_option maxRecDepth 20000 in
theorem lk_X0_age_19 : Cond.fieldLink RX0 19 (TX0 0).1 (TX0 0).2.1 (TX0 0).2.2.1 ∈ wsX0_age := by decide +kernel
set_option maxRecDepth 20000 in
theorem lk_X0_age_16 : Cond.fieldLink RX0 16 (TX0 3).1 (TX0 3).2.1 (TX0 3).2.2.1 ∈ wsX0_age := by decide +kernel
set_option maxRecDepth 20000 in
theorem in_X6_stands_X6 : ∀ w ∈ u_ws RX6 TX6 11, w ∈ wsX6_stands := by decide +kernel
set_option maxRecDepth 20000 in
theorem lk_X6_stands_41 : Cond.fieldLink RX6 41 (TX6 5).1 (TX6 5).2.1 (TX6 5).2.2.1 ∈ wsX6_stands := by decide +kernel
set_option maxRecDepth 20000 in
theorem in_X6_columnOf_X6 : ∀ w ∈ u_ws RX6 TX6 11, w ∈ wsX6_columnOf := by decide +kernel
set_option maxRecDepth 20000 in
theorem lk_X6_columnOf_38 : Cond.fieldLink RX6 38 (TX6 4).1 (TX6 4).2.1 (TX6 4).2.2.1 ∈ wsX6_columnOf := by decide +kernel
set_option maxRecDepth 20000 in
theorem in_X6_rowOf_X6 : ∀ w ∈ u_ws RX6 TX6 11, w ∈ wsX6_rowOf := by decide +kernel
set_option maxRecDepth 20000 in
theorem lk_X6_rowOf_38 : Cond.fieldLink RX6 38 (TX6 4).1 (TX6 4).2.1 (TX6 4).2.2.1 ∈ wsX6_rowOf := by decide +kernel
set_option maxRecDepth 20000 in
theorem in_X6_age_X6 : ∀ w ∈ u_ws RX6 TX6 11, w ∈ wsX6_age := by decide +kernel
set_option maxRecDepth 20000 in
theorem lk_X6_age_48 : Cond.fieldLink RX6 48 (TX6 8).1 (TX6 8).2.1 (TX6 8).2.2.1 ∈ wsX6_age := by decide +kernel
set_option maxRecDepth 20000 in
theorem lk_X6_age_41 : Cond.fieldLink RX6 41 (TX6 5).1 (TX6 5).2.1 (TX6 5).2.2.1 ∈ wsX6_age := by decide +kernel
set_option maxRecDepth 20000 in
theorem lk_X6_age_11 : Cond.fieldLink RX6 11 (TX6 0).1 (TX6 0).2.1 (TX6 0).2.2.1 ∈ wsX6_age := by decide +kernel
theorem yd_X0_age : yX0_age.cls = RX0 ∧ yX0_age.cls ≠ "java/lang/invoke/MethodHandle" ∧ yX0_age.cls ≠ "java/lang/invoke/VarHandle" ∧ (parseMethodDescriptor yX0_age.desc).map (fun d => d.parameters.length) = some 1 := by decide +kernel
set_option maxRecDepth 20000 in
theorem in_X6_addCoat_X6 : ∀ w ∈ u_ws RX6 TX6 11, w ∈ wsX6_addCoat := by decide +kernel
set_option maxRecDepth 20000 in
theorem lk_X6_addCoat_19 : Cond.fieldLink RX6 19 (TX6 1).1 (TX6 1).2.1 (TX6 1).2.2.1 ∈ wsX6_addCoat := by decide +kernel
set_option maxRecDepth 20000 in
theorem lk_X6_addCoat_60 : Cond.fieldLink RX6 60 (TX6 6).1 (TX6 6).2.1 (TX6 6).2.2.1 ∈ wsX6_addCoat := by decide +kernel
set_option maxRecDepth 20000 in
theorem in_X6_addCoat_X1 : ∀ w ∈ u_ws RX1 TX1 2, w ∈ wsX6_addCoat := by decide +kernel
set_option maxRecDepth 20000 in
theorem lk_X6_addCoat_70 : Cond.fieldLink RX6 70 (TX1 1).1 (TX1 1).2.1 (TX1 1).2.2.1 ∈ wsX6_addCoat := by decide +kernel
set_option maxRecDepth 20000 in
theorem lk_X6_addCoat_73 : Cond.fieldLink RX6 73 (TX1 0).1 (TX1 0).2.1 (TX1 0).2.2.1 ∈ wsX6_addCoat := by decide +kernel
set_option maxRecDepth 20000 in
theorem in_X6_addLight_X6 : ∀ w ∈ u_ws RX6 TX6 11, w ∈ wsX6_addLight := by decide +kernel
set_option maxRecDepth 20000 in
theorem lk_X6_addLight_57 : Cond.fieldLink RX6 57 (TX6 7).1 (TX6 7).2.1 (TX6 7).2.2.1 ∈ wsX6_addLight := by decide +kernel
set_option maxRecDepth 20000 in
theorem lk_X6_addLight_23 : Cond.fieldLink RX6 23 (TX6 2).1 (TX6 2).2.1 (TX6 2).2.2.1 ∈ wsX6_addLight := by decide +kernel
set_option maxRecDepth 20000 in
theorem in_X6_lookOfCoat_X6 : ∀ w ∈ u_ws RX6 TX6 11, w ∈ wsX6_lookOfCoat := by decide +kernel
set_option maxRecDepth 20000 in
theorem lk_X6_lookOfCoat_51 : Cond.fieldLink RX6 51 (TX6 9).1 (TX6 9).2.1 (TX6 9).2.2.1 ∈ wsX6_lookOfCoat := by decide +kernel
theorem yd_X1_comesBack : yX1_comesBack.cls = RX1 ∧ yX1_comesBack.cls ≠ "java/lang/invoke/MethodHandle" ∧ yX1_comesBack.cls ≠ "java/lang/invoke/VarHandle" ∧ (parseMethodDescriptor yX1_comesBack.desc).map (fun d => d.parameters.length) = some 5 := by decide +kernel
set_option maxRecDepth 20000 in
theorem lk_X6_lookOfCoat_23 : Cond.fieldLink RX6 23 (TX6 2).1 (TX6 2).2.1 (TX6 2).2.2.1 ∈ wsX6_lookOfCoat := by decide +kernel
set_option maxRecDepth 20000 in
theorem in_X6_lookOfCell_X6 : ∀ w ∈ u_ws RX6 TX6 11, w ∈ wsX6_lookOfCell := by decide +kernel
set_option maxRecDepth 20000 in
theorem lk_X6_lookOfCell_11 : Cond.fieldLink RX6 11 (TX6 0).1 (TX6 0).2.1 (TX6 0).2.2.1 ∈ wsX6_lookOfCell := by decide +kernel
set_option maxRecDepth 20000 in
theorem lk_X6_lookOfCell_19 : Cond.fieldLink RX6 19 (TX6 1).1 (TX6 1).2.1 (TX6 1).2.2.1 ∈ wsX6_lookOfCell := by decide +kernel
set_option maxRecDepth 20000 in
theorem in_X6_lookOfCell_X0 : ∀ w ∈ u_ws RX0 TX0 5, w ∈ wsX6_lookOfCell := by decide +kernel
set_option maxRecDepth 20000 in
theorem lk_X6_lookOfCell_80 : Cond.fieldLink RX6 80 (TX0 1).1 (TX0 1).2.1 (TX0 1).2.2.1 ∈ wsX6_lookOfCell := by decide +kernel
set_option maxRecDepth 20000 in
theorem lk_X6_lookOfCell_83 : Cond.fieldLink RX6 83 (TX0 2).1 (TX0 2).2.1 (TX0 2).2.2.1 ∈ wsX6_lookOfCell := by decide +kernel
set_option maxRecDepth 20000 in
theorem lk_X6_lookOfCell_86 : Cond.fieldLink RX6 86 (TX0 3).1 (TX0 3).2.1 (TX0 3).2.2.1 ∈ wsX6_lookOfCell := by decide +kernel
theorem yd_X6_lookOfCoat : yX6_lookOfCoat.cls = RX6 ∧ yX6_lookOfCoat.cls ≠ "java/lang/invoke/MethodHandle" ∧ yX6_lookOfCoat.cls ≠ "java/lang/invoke/VarHandle" ∧ (parseMethodDescriptor yX6_lookOfCoat.desc).map (fun d => d.parameters.length) = some 5 := by decide +kernel
set_option maxRecDepth 20000 in
theorem in_X6_apartFresh_X6 : ∀ w ∈ u_ws RX6 TX6 11, w ∈ wsX6_apartFresh := by decide +kernel
set_option maxRecDepth 20000 in
theorem lk_X6_apartFresh_19 : Cond.fieldLink RX6 19 (TX6 1).1 (TX6 1).2.1 (TX6 1).2.2.1 ∈ wsX6_apartFresh := by decide +kernel
set_option maxRecDepth 20000 in
theorem wd_X6_apartFresh_m97 : Cond.methodLink RX6 97 Lib.Math.abs.name ∈ wsX6_apartFresh := by decide +kernel
set_option maxRecDepth 20000 in
theorem wd_X6_apartFresh_stabs : Cond.static Lib.Math.abs.name ∈ wsX6_apartFresh := by decide +kernel
set_option maxRecDepth 20000 in
theorem wd_X6_apartFresh_inim : Cond.initialized "java/lang/Math" ∈ wsX6_apartFresh := by decide +kernel
set_option maxRecDepth 20000 in
theorem wd_X6_apartFresh_cdabs : Cond.code Lib.Math.abs.name Lib.Math.abs.code 1 (some .int) ∈ wsX6_apartFresh := by decide +kernel
theorem yd_X6_apartFresh : yX6_apartFresh.cls = RX6 ∧ yX6_apartFresh.cls ≠ "java/lang/invoke/MethodHandle" ∧ yX6_apartFresh.cls ≠ "java/lang/invoke/VarHandle" ∧ (parseMethodDescriptor yX6_apartFresh.desc).map (fun d => d.parameters.length) = some 3 := by decide +kernel
set_option maxRecDepth 20000 in
theorem in_X6_areTraitors_X6 : ∀ w ∈ u_ws RX6 TX6 11, w ∈ wsX6_areTraitors := by decide +kernel
set_option maxRecDepth 20000 in
theorem lk_X6_areTraitors_54 : Cond.fieldLink RX6 54 (TX6 10).1 (TX6 10).2.1 (TX6 10).2.2.1 ∈ wsX6_areTraitors := by decide +kernel
set_option maxHeartbeats 4000000 in
set_option maxRecDepth 100000 in
theorem kX0_begin (c : tv_c) (s r : ts_T) (j : Nat)  (p0 : Int32) (hj : j < 24) : tv_Fv c 60 yX0_begin wsX0_begin { frames := 1, cells := 0, slots := 0, locals := 21 } [.ref (tv_ad c (24 + j)), .int p0] (eX c s r) (eX c (ts_a (ts_a (ts_a (ts_a (ts_a s 10 (upd (s 10) j p0)) 14 (upd (s 14) j 0)) 11 (upd (s 11) j 0)) 12 (upd (s 12) j 0)) 13 (upd (s 13) j 0)) r) := by
  refine tv_metV (by decide +kernel) rfl rfl (Nat.le_of_ble_eq_true rfl) (fun X C hR => ?_)
  show tv_V c 60 X (eX c s r) 0 [(0, .ref (tv_ad c (24 + j))), (1, .int p0)] []
  refine tv_aload_n C dX0_begin_0 rfl 0 rfl ?_
  refine tv_iload_n C dX0_begin_1 rfl 1 rfl ?_
  refine tv_put (ci := 0) (Cn := RX0) (T := TX0) (Nf := 5) (ty := .int) (E' := (eX c (ts_a s 10 (upd (s 10) j p0)) r)) C (24 + j) (by omega) (eX_at_c c s r (by omega)) rfl in_X0_begin_X0 tyX0 tyX0_ok nmX0 0 (by decide) lk_X0_begin_19 rfl (by decide +kernel) rfl rfl (Nat.le_of_ble_eq_true rfl) (eX_u_c_sun c s r (by omega) p0) dX0_begin_2 ?_
  refine tv_aload_n C dX0_begin_5 rfl 0 rfl ?_
  refine tv_iconst (v := 0) C dX0_begin_6 (by decide) ?_
  refine tv_put (ci := 0) (Cn := RX0) (T := TX0) (Nf := 5) (ty := .boolean) (E' := (eX c (ts_a (ts_a s 10 (upd (s 10) j p0)) 14 (upd (s 14) j 0)) r)) C (24 + j) (by omega) (eX_at_c c (ts_a s 10 (upd (s 10) j p0)) r (by omega)) rfl in_X0_begin_X0 tyX0 tyX0_ok nmX0 4 (by decide) lk_X0_begin_22 rfl (by decide +kernel) rfl rfl (Nat.le_of_ble_eq_true rfl) (eX_u_c_hidden c (ts_a s 10 (upd (s 10) j p0)) r (by omega) 0) dX0_begin_7 ?_
  refine tv_aload_n C dX0_begin_10 rfl 0 rfl ?_
  refine tv_iconst (v := 0) C dX0_begin_11 (by decide) ?_
  refine tv_callv (As := [.int 0]) (rest := []) (ci := 0) (cn := RX0) (T := TX0) (Nf := 5) C (24 + j) (kX0_takeFresh c (ts_a (ts_a s 10 (upd (s 10) j p0)) 14 (upd (s 14) j 0)) r j 0 (show j < 24 by omega)) gX0_begin_X0_takeFresh rfl yd_X0_takeFresh ⟨rfl, rfl⟩ (by decide) (by omega) (eX_at_c c (ts_a (ts_a s 10 (upd (s 10) j p0)) 14 (upd (s 14) j 0)) r (by omega)) rfl rfl rfl (Nat.le_of_ble_eq_true rfl) dX0_begin_12 (fun u_1 z_1 => ?_)
  subst z_1
  show tv_V c 60 X (eX c (ts_a (ts_a (ts_a (ts_a (ts_a s 10 (upd (s 10) j p0)) 14 (upd (s 14) j 0)) 11 (upd (s 11) j 0)) 12 (upd (s 12) j 0)) 13 (upd (s 13) j 0)) r) 15 [(0, .ref (tv_ad c (24 + j))), (1, .int p0)] []
  exact hR _ _ _ dX0_begin_15 (by first | (simp only [if_true, ts_ss, ts_aa, ↓reduceIte]; done) | rfl | (simp [if_true, ts_ss, ts_aa]; done) | (exfalso; clear hR C; simp_all; done))
set_option maxHeartbeats 4000000 in
set_option maxRecDepth 100000 in
theorem kX0_age (c : tv_c) (s r : ts_T) (j : Nat)  (p0 : Int32) (hj : j < 24) : tv_Fv c 60 yX0_age wsX0_age { frames := 0, cells := 0, slots := 0, locals := 0 } [.ref (tv_ad c (24 + j)), .int p0] (eX c s r) (eX c (yr_1 s j p0) r) := by
  refine tv_metV (by decide +kernel) rfl rfl (Nat.le_of_ble_eq_true rfl) (fun X C hR => ?_)
  show tv_V c 60 X (eX c s r) 0 [(0, .ref (tv_ad c (24 + j))), (1, .int p0)] []
  refine tv_aload_n C dX0_age_0 rfl 0 rfl ?_
  refine tv_get (ci := 0) (Cn := RX0) (T := TX0) (Nf := 5) (v := .int (s 14 j)) C (24 + j) (by omega) (eX_at_c c s r (by omega)) rfl in_X0_age_X0 4 (by decide) lk_X0_age_22 rfl dX0_age_1 ?_
  refine tv_if_ne C 32 dX0_age_4 (by decide) (fun c_1 => ?_) (fun c_1 => ?_)
  · skip
    exact hR _ _ _ dX0_age_32 (by first | (simp only [yr_1, c_1, if_true, ts_ss, ts_aa, ↓reduceIte]; done) | rfl | (simp [yr_1, c_1, if_true, ts_ss, ts_aa]; done) | (exfalso; clear hR C; simp_all; done))
  · skip
    refine tv_aload_n C dX0_age_7 rfl 0 rfl ?_
    refine tv_dup C dX0_age_8 rfl ?_
    refine tv_get (ci := 0) (Cn := RX0) (T := TX0) (Nf := 5) (v := .int (s 12 j)) C (24 + j) (by omega) (eX_at_c c s r (by omega)) rfl in_X0_age_X0 2 (by decide) lk_X0_age_13 rfl dX0_age_9 ?_
    refine tv_iload_n C dX0_age_12 rfl 1 rfl ?_
    refine tv_aload_n C dX0_age_13 rfl 0 rfl ?_
    refine tv_get (ci := 0) (Cn := RX0) (T := TX0) (Nf := 5) (v := .int (s 10 j)) C (24 + j) (by omega) (eX_at_c c s r (by omega)) rfl in_X0_age_X0 0 (by decide) lk_X0_age_19 rfl dX0_age_14 ?_
    refine tv_imul C dX0_age_17 ?_
    refine tv_iadd C dX0_age_18 ?_
    refine tv_put (ci := 0) (Cn := RX0) (T := TX0) (Nf := 5) (ty := .int) (E' := (eX c (ts_a s 12 (upd (s 12) j ((s 12 j) + (p0 * (s 10 j))))) r)) C (24 + j) (by omega) (eX_at_c c s r (by omega)) rfl in_X0_age_X0 tyX0 tyX0_ok nmX0 2 (by decide) lk_X0_age_13 rfl (by decide +kernel) rfl rfl (Nat.le_of_ble_eq_true rfl) (eX_u_c_sunHad c s r (by omega) ((s 12 j) + (p0 * (s 10 j)))) dX0_age_19 ?_
    refine tv_aload_n C dX0_age_22 rfl 0 rfl ?_
    refine tv_dup C dX0_age_23 rfl ?_
    refine tv_get (ci := 0) (Cn := RX0) (T := TX0) (Nf := 5) (v := .int (s 13 j)) C (24 + j) (by omega) (eX_at_c c (ts_a s 12 (upd (s 12) j ((s 12 j) + (p0 * (s 10 j))))) r (by omega)) rfl in_X0_age_X0 3 (by decide) lk_X0_age_16 rfl dX0_age_24 ?_
    refine tv_iload_n C dX0_age_27 rfl 1 rfl ?_
    refine tv_iadd C dX0_age_28 ?_
    refine tv_put (ci := 0) (Cn := RX0) (T := TX0) (Nf := 5) (ty := .int) (E' := (eX c (ts_a (ts_a s 12 (upd (s 12) j ((s 12 j) + (p0 * (s 10 j))))) 13 (upd (s 13) j ((s 13 j) + p0))) r)) C (24 + j) (by omega) (eX_at_c c (ts_a s 12 (upd (s 12) j ((s 12 j) + (p0 * (s 10 j))))) r (by omega)) rfl in_X0_age_X0 tyX0 tyX0_ok nmX0 3 (by decide) lk_X0_age_16 rfl (by decide +kernel) rfl rfl (Nat.le_of_ble_eq_true rfl) (eX_u_c_air c (ts_a s 12 (upd (s 12) j ((s 12 j) + (p0 * (s 10 j))))) r (by omega) ((s 13 j) + p0)) dX0_age_29 ?_
    exact hR _ _ _ dX0_age_32 (by first | (simp only [yr_1, eq_true c_1, if_true, ts_ss, ts_aa, ↓reduceIte]; done) | rfl | (simp [yr_1, eq_true c_1, if_true, ts_ss, ts_aa]; done) | (exfalso; clear hR C; simp_all; done))
set_option maxHeartbeats 4000000 in
set_option maxRecDepth 100000 in
theorem kX6_stands (c : tv_c) (s r : ts_T) (n : Nat) (e9 : s 9 0 = nI n) (hn : n ≤ 24) : tv_Fi c 60 yX6_stands wsX6_stands { frames := 0, cells := 0, slots := 0, locals := 0 } [.ref (tv_ad c 2)] (eX c s r) (sp_sz s) (eX c s r) := by
  refine tv_metZ (by decide +kernel) rfl rfl (Nat.le_of_ble_eq_true rfl) (fun X C hR => ?_)
  show tv_V c 60 X (eX c s r) 0 [(0, .ref (tv_ad c 2))] []
  refine tv_aload_n C dX6_stands_0 rfl 0 rfl ?_
  refine tv_get (ci := 6) (Cn := RX6) (T := TX6) (Nf := 11) (v := .int (s 9 0)) C 2 (by decide) rfl rfl in_X6_stands_X6 5 (by decide) lk_X6_stands_41 rfl dX6_stands_1 ?_
  refine tv_if_le C 11 dX6_stands_4 (by decide) (fun c_1 => ?_) (fun c_1 => ?_)
  · skip
    refine tv_iconst (v := 0) C dX6_stands_11 (by decide) ?_
    exact hR _ _ _ _ dX6_stands_12 (by first | rfl | exact tn_nz (sp_in_z _ _ _) | exact tn_nz (sp_ix_z _ _)) ⟨by exact sz_1 e9 hn (by assumption), by first | (simp only [c_1, tn_d_le c_1, if_true, ts_ss, ts_aa, ↓reduceIte]; done) | rfl | (simp [c_1, tn_d_le c_1, if_true, ts_ss, ts_aa]; done) | (exfalso; clear hR C; simp_all; done)⟩
  · skip
    refine tv_iconst (v := 1) C dX6_stands_7 (by decide) ?_
    refine tv_goto C 12 dX6_stands_8 (by decide) ?_
    exact hR _ _ _ _ dX6_stands_12 (by first | rfl | exact tn_nz (sp_in_z _ _ _) | exact tn_nz (sp_ix_z _ _)) ⟨by exact sz_2 e9 hn (by assumption), by first | (simp only [c_1, tn_d_nle c_1, if_true, ts_ss, ts_aa, ↓reduceIte]; done) | rfl | (simp [c_1, tn_d_nle c_1, if_true, ts_ss, ts_aa]; done) | (exfalso; clear hR C; simp_all; done)⟩
set_option maxHeartbeats 4000000 in
set_option maxRecDepth 100000 in
theorem kX6_columnOf (c : tv_c) (s r : ts_T) (w : Nat) (a : Nat) (p0 : Int32) (e_p0 : p0 = nI a) (h_p0 : a < 24) (e3 : s 3 0 = nI w) (hw0 : 0 < w) (hw : w ≤ 6) : tv_Fi c 60 yX6_columnOf wsX6_columnOf { frames := 0, cells := 0, slots := 0, locals := 0 } [.ref (tv_ad c 2), .int p0] (eX c s r) (nI (a % w)) (eX c s r) := by
  refine tv_metI (by decide +kernel) rfl rfl (Nat.le_of_ble_eq_true rfl) (fun X C hR => ?_)
  show tv_V c 60 X (eX c s r) 0 [(0, .ref (tv_ad c 2)), (1, .int p0)] []
  refine tv_aload_n C dX6_columnOf_0 rfl 0 rfl ?_
  refine tv_get (ci := 6) (Cn := RX6) (T := TX6) (Nf := 11) (v := .int (s 3 0)) C 2 (by decide) rfl rfl in_X6_columnOf_X6 4 (by decide) lk_X6_columnOf_38 rfl dX6_columnOf_1 ?_
  refine tv_iconst (v := 1) C dX6_columnOf_4 (by decide) ?_
  refine tv_icmp_ge C 12 dX6_columnOf_5 (by decide) (fun c_1 => ?_) (fun c_1 => absurd (tn_le (tn_l 1) e3 (by omega) (by omega)) c_1)
  refine tv_iload_n C dX6_columnOf_12 rfl 1 rfl ?_
  refine tv_aload_n C dX6_columnOf_13 rfl 0 rfl ?_
  refine tv_get (ci := 6) (Cn := RX6) (T := TX6) (Nf := 11) (v := .int (s 3 0)) C 2 (by decide) rfl rfl in_X6_columnOf_X6 4 (by decide) lk_X6_columnOf_38 rfl dX6_columnOf_14 ?_
  refine tv_irem C (tn_ne e3 (by omega) (by omega)) dX6_columnOf_17 ?_
  exact hR _ _ _ _ dX6_columnOf_18 ⟨by exact tn_rem e_p0 e3 (by omega) (by omega) (by omega), by first | (simp only [c_1, if_true, ts_ss, ts_aa, ↓reduceIte]; done) | rfl | (simp [c_1, if_true, ts_ss, ts_aa]; done) | (exfalso; clear hR C; simp_all; done)⟩
set_option maxHeartbeats 4000000 in
set_option maxRecDepth 100000 in
theorem kX6_rowOf (c : tv_c) (s r : ts_T) (w : Nat) (a : Nat) (p0 : Int32) (e_p0 : p0 = nI a) (h_p0 : a < 24) (e3 : s 3 0 = nI w) (hw0 : 0 < w) (hw : w ≤ 6) : tv_Fi c 60 yX6_rowOf wsX6_rowOf { frames := 0, cells := 0, slots := 0, locals := 0 } [.ref (tv_ad c 2), .int p0] (eX c s r) (nI (a / w)) (eX c s r) := by
  refine tv_metI (by decide +kernel) rfl rfl (Nat.le_of_ble_eq_true rfl) (fun X C hR => ?_)
  show tv_V c 60 X (eX c s r) 0 [(0, .ref (tv_ad c 2)), (1, .int p0)] []
  refine tv_aload_n C dX6_rowOf_0 rfl 0 rfl ?_
  refine tv_get (ci := 6) (Cn := RX6) (T := TX6) (Nf := 11) (v := .int (s 3 0)) C 2 (by decide) rfl rfl in_X6_rowOf_X6 4 (by decide) lk_X6_rowOf_38 rfl dX6_rowOf_1 ?_
  refine tv_iconst (v := 1) C dX6_rowOf_4 (by decide) ?_
  refine tv_icmp_ge C 12 dX6_rowOf_5 (by decide) (fun c_1 => ?_) (fun c_1 => absurd (tn_le (tn_l 1) e3 (by omega) (by omega)) c_1)
  refine tv_iload_n C dX6_rowOf_12 rfl 1 rfl ?_
  refine tv_aload_n C dX6_rowOf_13 rfl 0 rfl ?_
  refine tv_get (ci := 6) (Cn := RX6) (T := TX6) (Nf := 11) (v := .int (s 3 0)) C 2 (by decide) rfl rfl in_X6_rowOf_X6 4 (by decide) lk_X6_rowOf_38 rfl dX6_rowOf_14 ?_
  refine tv_idiv C (tn_ne e3 (by omega) (by omega)) dX6_rowOf_17 ?_
  exact hR _ _ _ _ dX6_rowOf_18 ⟨by exact tn_div e_p0 e3 (by omega) (by omega) (by omega), by first | (simp only [c_1, if_true, ts_ss, ts_aa, ↓reduceIte]; done) | rfl | (simp [c_1, if_true, ts_ss, ts_aa]; done) | (exfalso; clear hR C; simp_all; done)⟩
set_option maxHeartbeats 4000000 in
set_option maxRecDepth 100000 in
theorem kX6_age (c : tv_c) (s r : ts_T) (n : Nat) (p0 : Int32) (e9 : s 9 0 = nI n) (hn : n ≤ 24) : tv_Fv c 60 yX6_age wsX6_age { frames := 1, cells := 0, slots := 0, locals := 21 } [.ref (tv_ad c 2), .int p0] (eX c s r) (eX c (ts_a (ts_a (ts_s s 4 (s 4 0 + p0)) 12 (yr_h s p0 n)) 13 (yr_a s p0 n)) r) := by
  refine tv_metV (by decide +kernel) rfl rfl (Nat.le_of_ble_eq_true rfl) (fun X C hR => ?_)
  show tv_V c 60 X (eX c s r) 0 [(0, .ref (tv_ad c 2)), (1, .int p0)] []
  refine tv_aload_n C dX6_age_0 rfl 0 rfl ?_
  refine tv_dup C dX6_age_1 rfl ?_
  refine tv_get (ci := 6) (Cn := RX6) (T := TX6) (Nf := 11) (v := .int (s 4 0)) C 2 (by decide) rfl rfl in_X6_age_X6 8 (by decide) lk_X6_age_48 rfl dX6_age_2 ?_
  refine tv_iload_n C dX6_age_5 rfl 1 rfl ?_
  refine tv_iadd C dX6_age_6 ?_
  refine tv_put (ci := 6) (Cn := RX6) (T := TX6) (Nf := 11) (ty := .int) (E' := (eX c (ts_s s 4 ((s 4 0) + p0)) r)) C 2 (by decide) rfl rfl in_X6_age_X6 tyX6 tyX6_ok nmX6 8 (by decide) lk_X6_age_48 rfl (by decide +kernel) rfl rfl (Nat.le_of_ble_eq_true rfl) (eX_u_year c s r ((s 4 0) + p0)) dX6_age_7 ?_
  refine tv_iconst (v := 0) C dX6_age_10 (by decide) ?_
  refine tv_istore_n (lv' := [(2, .int 0), (0, .ref (tv_ad c 2)), (1, .int p0)]) C dX6_age_11 rfl (by decide) rfl ?_
  have hL12 : ∀ (k_12 i : Nat) (x_12_2 : Int32) (w_12 : Nat → va_E), i + k_12 = n → x_12_2 = (nI i) → w_12 = (eX c (ts_a (ts_a (ts_s s 4 ((s 4 0) + p0)) 12 (yr_h s p0 i)) 13 (yr_a s p0 i)) r) → tv_V c 60 X w_12 12 [(0, .ref (tv_ad c 2)), (1, .int p0), (2, .int x_12_2)] [] := by
    intro k_12
    induction k_12 with
    | zero =>
      intro i x_12_2 w_12 hi12  ex_12_2 ew_12
      subst ex_12_2
      subst ew_12
      have hN12 : i = n := by omega
      refine tv_iload_n C dX6_age_12 rfl 2 rfl ?_
      refine tv_aload_n C dX6_age_13 rfl 0 rfl ?_
      refine tv_get (ci := 6) (Cn := RX6) (T := TX6) (Nf := 11) (v := .int (s 9 0)) C 2 (by decide) rfl rfl in_X6_age_X6 5 (by decide) lk_X6_age_41 rfl dX6_age_14 ?_
      refine tv_icmp_ge C 36 dX6_age_17 (by decide) (fun c_1 => ?_) (fun c_1 => absurd (tn_le e9 (rfl : nI i = nI i) (by omega) (by omega)) c_1)
      exact hR _ _ _ dX6_age_36 (by rw [hN12])
    | succ k_12 ih12 =>
      intro i x_12_2 w_12 hi12  ex_12_2 ew_12
      subst ex_12_2
      subst ew_12
      have hN12 : i < n := by omega
      refine tv_iload_n C dX6_age_12 rfl 2 rfl ?_
      refine tv_aload_n C dX6_age_13 rfl 0 rfl ?_
      refine tv_get (ci := 6) (Cn := RX6) (T := TX6) (Nf := 11) (v := .int (s 9 0)) C 2 (by decide) rfl rfl in_X6_age_X6 5 (by decide) lk_X6_age_41 rfl dX6_age_14 ?_
      refine tv_icmp_ge C 36 dX6_age_17 (by decide) (fun c_2 => absurd c_2 (tn_nle e9 (rfl : nI i = nI i) (by omega) (by omega))) (fun c_2 => ?_)
      refine tv_aload_n C dX6_age_20 rfl 0 rfl ?_
      refine tv_get (ci := 6) (Cn := RX6) (T := TX6) (Nf := 11) (v := .ref (tv_ad c 3)) C 2 (by decide) rfl rfl in_X6_age_X6 0 (by decide) lk_X6_age_11 rfl dX6_age_21 ?_
      refine tv_iload_n C dX6_age_24 rfl 2 rfl ?_
      refine tv_aald (Cn := RX0) (a := tv_ad c (24 + i)) C 3 (by decide) rfl 3 rfl i (rfl : nI i = nI i) (show i < 24 by omega) (by decide) rfl dX6_age_25 ?_
      refine tv_iload_n C dX6_age_26 rfl 1 rfl ?_
      refine tv_callv (As := [.int p0]) (rest := []) (ci := 0) (cn := RX0) (T := TX0) (Nf := 5) C (24 + i) (kX0_age c (ts_a (ts_a (ts_s s 4 ((s 4 0) + p0)) 12 (yr_h s p0 i)) 13 (yr_a s p0 i)) r i p0 (show i < 24 by omega)) gX6_age_X0_age rfl yd_X0_age ⟨rfl, rfl⟩ (by decide) (by omega) (eX_at_c c (ts_a (ts_a (ts_s s 4 ((s 4 0) + p0)) 12 (yr_h s p0 i)) 13 (yr_a s p0 i)) r (by omega)) rfl rfl rfl (Nat.le_of_ble_eq_true rfl) dX6_age_27 (fun u_3 z_3 => ?_)
      subst z_3
      show tv_V c 60 X (eX c (yr_1 (ts_a (ts_a (ts_s s 4 ((s 4 0) + p0)) 12 (yr_h s p0 i)) 13 (yr_a s p0 i)) i p0) r) 30 [(0, .ref (tv_ad c 2)), (1, .int p0), (2, .int (nI i))] []
      refine tv_iinc (v := ((nI i) + 1)) (lv' := [(2, .int ((nI i) + 1)), (0, .ref (tv_ad c 2)), (1, .int p0)]) C dX6_age_30 2 rfl rfl (by decide) rfl ?_
      refine tv_goto C 12 dX6_age_33 (by decide) ?_
      refine tv_lsub [1, 2, 0] rfl ?_
      exact ih12 (i + 1) _ _ (by omega)  (by first | rfl | exact nI_1 _ | (simp only [c_2, if_true, ↓reduceIte]; done) | (simp [c_2, if_true]; done) | (exfalso; clear hR C; simp_all; done)) (by rw [yr_1_s])
  refine tv_lsub [1, 2, 0] rfl ?_
  exact hL12 (n - 0) 0 _ _ (by omega)  (by first | (simp only [if_true, ↓reduceIte]; done) | rfl | (simp [if_true]; done) | (exfalso; clear hR C; simp_all; done)) (by rw [yr_h_0, yr_a_0]; exact congrArg (fun z => eX c z r) (by funext a; simp only [ts_s, ts_a]; (repeat' split) <;> first | rfl | (subst_vars; rfl) | (exfalso; omega)))
set_option maxHeartbeats 4000000 in
set_option maxRecDepth 100000 in
theorem kX6_addCoat (c : tv_c) (s r : ts_T) (k : Nat) (p0 p1 p2 p3 : Int32) (hk : k < 6) (ek : s 7 0 = nI k) : tv_Fi c 60 yX6_addCoat wsX6_addCoat { frames := 0, cells := 0, slots := 0, locals := 0 } [.ref (tv_ad c 2), .int p0, .int p1, .int p2, .int p3] (eX c s r) (s 7 0 + 1 - 1) (eX c (sp_add s k p0 p1 p2 p3) r) := by
  refine tv_metI (by decide +kernel) rfl rfl (Nat.le_of_ble_eq_true rfl) (fun X C hR => ?_)
  show tv_V c 60 X (eX c s r) 0 [(0, .ref (tv_ad c 2)), (1, .int p0), (2, .int p1), (3, .int p2), (4, .int p3)] []
  refine tv_aload_n C dX6_addCoat_0 rfl 0 rfl ?_
  refine tv_get (ci := 6) (Cn := RX6) (T := TX6) (Nf := 11) (v := .ref (tv_ad c 4)) C 2 (by decide) rfl rfl in_X6_addCoat_X6 1 (by decide) lk_X6_addCoat_19 rfl dX6_addCoat_1 ?_
  refine tv_aload_n C dX6_addCoat_4 rfl 0 rfl ?_
  refine tv_get (ci := 6) (Cn := RX6) (T := TX6) (Nf := 11) (v := .int (s 7 0)) C 2 (by decide) rfl rfl in_X6_addCoat_X6 6 (by decide) lk_X6_addCoat_60 rfl dX6_addCoat_5 ?_
  refine tv_aald (Cn := RX1) (a := tv_ad c (48 + k)) C 4 (by decide) rfl 4 rfl k ek (show k < 6 by omega) (by decide) rfl dX6_addCoat_8 ?_
  refine tv_astore (lv' := [(5, .ref (tv_ad c (48 + k))), (0, .ref (tv_ad c 2)), (1, .int p0), (2, .int p1), (3, .int p2), (4, .int p3)]) C dX6_addCoat_9 (by decide) rfl ?_
  refine tv_aload C dX6_addCoat_11 0 rfl ?_
  refine tv_iload_n C dX6_addCoat_13 rfl 2 rfl ?_
  refine tv_put (ci := 1) (Cn := RX1) (T := TX1) (Nf := 2) (ty := .int) (E' := (eX c (ts_a s 15 (upd (s 15) k p0)) r)) C (48 + k) (by omega) (eX_at_k c s r (by omega)) rfl in_X6_addCoat_X1 tyX1 tyX1_ok nmX1 1 (by decide) lk_X6_addCoat_70 rfl (by decide +kernel) rfl rfl (Nat.le_of_ble_eq_true rfl) (eX_u_k_kind c s r (by omega) p0) dX6_addCoat_14 ?_
  refine tv_aload C dX6_addCoat_17 0 rfl ?_
  refine tv_get (ci := 1) (Cn := RX1) (T := TX1) (Nf := 2) (v := .ref (tv_ad c (54 + k))) C (48 + k) (by omega) (eX_at_k c (ts_a s 15 (upd (s 15) k p0)) r (by omega)) rfl in_X6_addCoat_X1 0 (by decide) lk_X6_addCoat_73 rfl dX6_addCoat_19 ?_
  refine tv_iconst (v := 0) C dX6_addCoat_22 (by decide) ?_
  refine tv_iload_n C dX6_addCoat_23 rfl 3 rfl ?_
  refine tv_iast (E' := (eX c (ts_a (ts_a s 15 (upd (s 15) k p0)) 16 (upd (s 16) (3 * k + 0) p1)) r)) C (54 + k) (by omega) (eX_at_b c (ts_a s 15 (upd (s 15) k p0)) r (by omega)) 0 (tn_l 0) (show 0 < 3 by omega) (by decide) (eX_u_b_bands c (ts_a s 15 (upd (s 15) k p0)) r (by omega) (show 0 < 3 by omega) p1) dX6_addCoat_24 ?_
  refine tv_aload C dX6_addCoat_25 0 rfl ?_
  refine tv_get (ci := 1) (Cn := RX1) (T := TX1) (Nf := 2) (v := .ref (tv_ad c (54 + k))) C (48 + k) (by omega) (eX_at_k c (ts_a (ts_a s 15 (upd (s 15) k p0)) 16 (upd (s 16) (3 * k + 0) p1)) r (by omega)) rfl in_X6_addCoat_X1 0 (by decide) lk_X6_addCoat_73 rfl dX6_addCoat_27 ?_
  refine tv_iconst (v := 1) C dX6_addCoat_30 (by decide) ?_
  refine tv_iload_n C dX6_addCoat_31 rfl 4 rfl ?_
  refine tv_iast (E' := (eX c (ts_a (ts_a s 15 (upd (s 15) k p0)) 16 (upd (upd (s 16) (3 * k + 0) p1) (3 * k + 1) p2)) r)) C (54 + k) (by omega) (eX_at_b c (ts_a (ts_a s 15 (upd (s 15) k p0)) 16 (upd (s 16) (3 * k + 0) p1)) r (by omega)) 1 (tn_l 1) (show 1 < 3 by omega) (by decide) ((eX_u_b_bands c (ts_a (ts_a s 15 (upd (s 15) k p0)) 16 (upd (s 16) (3 * k + 0) p1)) r (by omega) (show 1 < 3 by omega) p2).trans (by first | (rw [ts_mg]; done) | (rw [ts_mg]; rfl) | (rw [ts_ss]; done) | (rw [ts_ss]; rfl))) dX6_addCoat_32 ?_
  refine tv_aload C dX6_addCoat_33 0 rfl ?_
  refine tv_get (ci := 1) (Cn := RX1) (T := TX1) (Nf := 2) (v := .ref (tv_ad c (54 + k))) C (48 + k) (by omega) (eX_at_k c (ts_a (ts_a s 15 (upd (s 15) k p0)) 16 (upd (upd (s 16) (3 * k + 0) p1) (3 * k + 1) p2)) r (by omega)) rfl in_X6_addCoat_X1 0 (by decide) lk_X6_addCoat_73 rfl dX6_addCoat_35 ?_
  refine tv_iconst (v := 2) C dX6_addCoat_38 (by decide) ?_
  refine tv_iload C dX6_addCoat_39 5 rfl ?_
  refine tv_iast (E' := (eX c (ts_a (ts_a s 15 (upd (s 15) k p0)) 16 (upd (upd (upd (s 16) (3 * k + 0) p1) (3 * k + 1) p2) (3 * k + 2) p3)) r)) C (54 + k) (by omega) (eX_at_b c (ts_a (ts_a s 15 (upd (s 15) k p0)) 16 (upd (upd (s 16) (3 * k + 0) p1) (3 * k + 1) p2)) r (by omega)) 2 (tn_l 2) (show 2 < 3 by omega) (by decide) ((eX_u_b_bands c (ts_a (ts_a s 15 (upd (s 15) k p0)) 16 (upd (upd (s 16) (3 * k + 0) p1) (3 * k + 1) p2)) r (by omega) (show 2 < 3 by omega) p3).trans (by first | (rw [ts_mg]; done) | (rw [ts_mg]; rfl) | (rw [ts_ss]; done) | (rw [ts_ss]; rfl))) dX6_addCoat_41 ?_
  refine tv_aload_n C dX6_addCoat_42 rfl 1 rfl ?_
  refine tv_dup C dX6_addCoat_43 rfl ?_
  refine tv_get (ci := 6) (Cn := RX6) (T := TX6) (Nf := 11) (v := .int (s 7 0)) C 2 (by decide) rfl rfl in_X6_addCoat_X6 6 (by decide) lk_X6_addCoat_60 rfl dX6_addCoat_44 ?_
  refine tv_iconst (v := 1) C dX6_addCoat_47 (by decide) ?_
  refine tv_iadd C dX6_addCoat_48 ?_
  refine tv_put (ci := 6) (Cn := RX6) (T := TX6) (Nf := 11) (ty := .int) (E' := (eX c (ts_s (ts_a (ts_a s 15 (upd (s 15) k p0)) 16 (upd (upd (upd (s 16) (3 * k + 0) p1) (3 * k + 1) p2) (3 * k + 2) p3)) 7 ((s 7 0) + 1)) r)) C 2 (by decide) rfl rfl in_X6_addCoat_X6 tyX6 tyX6_ok nmX6 6 (by decide) lk_X6_addCoat_60 rfl (by decide +kernel) rfl rfl (Nat.le_of_ble_eq_true rfl) (eX_u_coatCount c (ts_a (ts_a s 15 (upd (s 15) k p0)) 16 (upd (upd (upd (s 16) (3 * k + 0) p1) (3 * k + 1) p2) (3 * k + 2) p3)) r ((s 7 0) + 1)) dX6_addCoat_49 ?_
  refine tv_aload_n C dX6_addCoat_52 rfl 1 rfl ?_
  refine tv_get (ci := 6) (Cn := RX6) (T := TX6) (Nf := 11) (v := .int ((s 7 0) + 1)) C 2 (by decide) rfl rfl in_X6_addCoat_X6 6 (by decide) lk_X6_addCoat_60 rfl dX6_addCoat_53 ?_
  refine tv_iconst (v := 1) C dX6_addCoat_56 (by decide) ?_
  refine tv_isub C dX6_addCoat_57 ?_
  exact hR _ _ _ _ dX6_addCoat_58 ⟨by first | (simp only [sp_add, if_true, ↓reduceIte]; done) | rfl | (simp [sp_add, if_true]; done) | (exfalso; clear hR C; simp_all; done), by first | (simp only [sp_add, if_true, ts_ss, ts_aa, ↓reduceIte]; done) | rfl | (simp [sp_add, if_true, ts_ss, ts_aa]; done) | (exfalso; clear hR C; simp_all; done)⟩
set_option maxHeartbeats 4000000 in
set_option maxRecDepth 100000 in
theorem kX6_addLight (c : tv_c) (s r : ts_T) (l : Nat) (p0 p1 p2 : Int32) (hl : l < 4) (el : s 8 0 = nI l) : tv_Fi c 60 yX6_addLight wsX6_addLight { frames := 0, cells := 0, slots := 0, locals := 0 } [.ref (tv_ad c 2), .int p0, .int p1, .int p2] (eX c s r) (s 8 0 + 1 - 1) (eX c (ts_s (ts_a s 17 (upd (upd (upd (s 17) (3 * l) p0) ((3 * l) + 1) p1) ((3 * l) + 2) p2)) 8 (s 8 0 + 1)) r) := by
  refine tv_metI (by decide +kernel) rfl rfl (Nat.le_of_ble_eq_true rfl) (fun X C hR => ?_)
  show tv_V c 60 X (eX c s r) 0 [(0, .ref (tv_ad c 2)), (1, .int p0), (2, .int p1), (3, .int p2)] []
  refine tv_aload_n C dX6_addLight_0 rfl 0 rfl ?_
  refine tv_get (ci := 6) (Cn := RX6) (T := TX6) (Nf := 11) (v := .int (s 8 0)) C 2 (by decide) rfl rfl in_X6_addLight_X6 7 (by decide) lk_X6_addLight_57 rfl dX6_addLight_1 ?_
  refine tv_iconst (v := 3) C dX6_addLight_4 (by decide) ?_
  refine tv_imul C dX6_addLight_5 ?_
  refine tv_istore (lv' := [(4, .int ((s 8 0) * 3)), (0, .ref (tv_ad c 2)), (1, .int p0), (2, .int p1), (3, .int p2)]) C dX6_addLight_6 (by decide) rfl ?_
  refine tv_aload_n C dX6_addLight_8 rfl 1 rfl ?_
  refine tv_get (ci := 6) (Cn := RX6) (T := TX6) (Nf := 11) (v := .ref (tv_ad c 5)) C 2 (by decide) rfl rfl in_X6_addLight_X6 2 (by decide) lk_X6_addLight_23 rfl dX6_addLight_9 ?_
  refine tv_iload C dX6_addLight_12 0 rfl ?_
  refine tv_iload_n C dX6_addLight_14 rfl 2 rfl ?_
  refine tv_iast (E' := (eX c (ts_a s 17 (upd (s 17) (3 * l) p0)) r)) C 5 (by decide) rfl (3 * l) (tn_mulc el (tn_l 3)) (show (3 * l) < 12 by omega) (by decide) (eX_u_weights c s r (upd (s 17) (3 * l) p0)) dX6_addLight_15 ?_
  refine tv_aload_n C dX6_addLight_16 rfl 1 rfl ?_
  refine tv_get (ci := 6) (Cn := RX6) (T := TX6) (Nf := 11) (v := .ref (tv_ad c 5)) C 2 (by decide) rfl rfl in_X6_addLight_X6 2 (by decide) lk_X6_addLight_23 rfl dX6_addLight_17 ?_
  refine tv_iload C dX6_addLight_20 0 rfl ?_
  refine tv_iconst (v := 1) C dX6_addLight_22 (by decide) ?_
  refine tv_iadd C dX6_addLight_23 ?_
  refine tv_iload_n C dX6_addLight_24 rfl 3 rfl ?_
  refine tv_iast (E' := (eX c (ts_a s 17 (upd (upd (s 17) (3 * l) p0) ((3 * l) + 1) p1)) r)) C 5 (by decide) rfl ((3 * l) + 1) (tn_add (tn_mulc el (tn_l 3)) (tn_l 1)) (show ((3 * l) + 1) < 12 by omega) (by decide) ((eX_u_weights c (ts_a s 17 (upd (s 17) (3 * l) p0)) r (upd (upd (s 17) (3 * l) p0) ((3 * l) + 1) p1)).trans (by first | (rw [ts_mg]; done) | (rw [ts_mg]; rfl) | (rw [ts_ss]; done) | (rw [ts_ss]; rfl))) dX6_addLight_25 ?_
  refine tv_aload_n C dX6_addLight_26 rfl 1 rfl ?_
  refine tv_get (ci := 6) (Cn := RX6) (T := TX6) (Nf := 11) (v := .ref (tv_ad c 5)) C 2 (by decide) rfl rfl in_X6_addLight_X6 2 (by decide) lk_X6_addLight_23 rfl dX6_addLight_27 ?_
  refine tv_iload C dX6_addLight_30 0 rfl ?_
  refine tv_iconst (v := 2) C dX6_addLight_32 (by decide) ?_
  refine tv_iadd C dX6_addLight_33 ?_
  refine tv_iload_n C dX6_addLight_34 rfl 4 rfl ?_
  refine tv_iast (E' := (eX c (ts_a s 17 (upd (upd (upd (s 17) (3 * l) p0) ((3 * l) + 1) p1) ((3 * l) + 2) p2)) r)) C 5 (by decide) rfl ((3 * l) + 2) (tn_add (tn_mulc el (tn_l 3)) (tn_l 2)) (show ((3 * l) + 2) < 12 by omega) (by decide) ((eX_u_weights c (ts_a s 17 (upd (upd (s 17) (3 * l) p0) ((3 * l) + 1) p1)) r (upd (upd (upd (s 17) (3 * l) p0) ((3 * l) + 1) p1) ((3 * l) + 2) p2)).trans (by first | (rw [ts_mg]; done) | (rw [ts_mg]; rfl) | (rw [ts_ss]; done) | (rw [ts_ss]; rfl))) dX6_addLight_35 ?_
  refine tv_aload_n C dX6_addLight_36 rfl 1 rfl ?_
  refine tv_dup C dX6_addLight_37 rfl ?_
  refine tv_get (ci := 6) (Cn := RX6) (T := TX6) (Nf := 11) (v := .int (s 8 0)) C 2 (by decide) rfl rfl in_X6_addLight_X6 7 (by decide) lk_X6_addLight_57 rfl dX6_addLight_38 ?_
  refine tv_iconst (v := 1) C dX6_addLight_41 (by decide) ?_
  refine tv_iadd C dX6_addLight_42 ?_
  refine tv_put (ci := 6) (Cn := RX6) (T := TX6) (Nf := 11) (ty := .int) (E' := (eX c (ts_s (ts_a s 17 (upd (upd (upd (s 17) (3 * l) p0) ((3 * l) + 1) p1) ((3 * l) + 2) p2)) 8 ((s 8 0) + 1)) r)) C 2 (by decide) rfl rfl in_X6_addLight_X6 tyX6 tyX6_ok nmX6 7 (by decide) lk_X6_addLight_57 rfl (by decide +kernel) rfl rfl (Nat.le_of_ble_eq_true rfl) (eX_u_lightCount c (ts_a s 17 (upd (upd (upd (s 17) (3 * l) p0) ((3 * l) + 1) p1) ((3 * l) + 2) p2)) r ((s 8 0) + 1)) dX6_addLight_43 ?_
  refine tv_aload_n C dX6_addLight_46 rfl 1 rfl ?_
  refine tv_get (ci := 6) (Cn := RX6) (T := TX6) (Nf := 11) (v := .int ((s 8 0) + 1)) C 2 (by decide) rfl rfl in_X6_addLight_X6 7 (by decide) lk_X6_addLight_57 rfl dX6_addLight_47 ?_
  refine tv_iconst (v := 1) C dX6_addLight_50 (by decide) ?_
  refine tv_isub C dX6_addLight_51 ?_
  exact hR _ _ _ _ dX6_addLight_52 ⟨by first | (simp only [if_true, ↓reduceIte]; done) | rfl | (simp [if_true]; done) | (exfalso; clear hR C; simp_all; done), by first | (simp only [if_true, ts_ss, ts_aa, ↓reduceIte]; done) | rfl | (simp [if_true, ts_ss, ts_aa]; done) | (exfalso; clear hR C; simp_all; done)⟩
set_option maxHeartbeats 4000000 in
set_option maxRecDepth 100000 in
theorem kX6_lookOfCoat (c : tv_c) (s r : ts_T) (ka : Nat)  (l : Nat) (p1 p2 p3 p4 : Int32) (hka : ka < 7) (e_p3 : p3 = nI l) (h_p3 : l < 4) (hv : ∀ b, b < 3 → tn_b (cp_v s r ka b) 99) (hu : tn_b p1 720) (ha : tn_b p2 80) (hm : tn_b (s 5 0) 9) : tv_Fi c 60 yX6_lookOfCoat wsX6_lookOfCoat { frames := 2, cells := 0, slots := 0, locals := 51 } [.ref (tv_ad c 2), .ref (tv_ad c (cp_p ka)), .int p1, .int p2, .int p3, .int p4] (eX c s r) (sp_lq s (cp_k s r ka) (cp_v s r ka) p1 p2 l p4) (eX c s r) := by
  refine tv_metI (by decide +kernel) rfl rfl (Nat.le_of_ble_eq_true rfl) (fun X C hR => ?_)
  show tv_V c 60 X (eX c s r) 0 [(0, .ref (tv_ad c 2)), (1, .ref (tv_ad c (cp_p ka))), (2, .int p1), (3, .int p2), (4, .int p3), (5, .int p4)] []
  refine tv_iconst (v := 0) C dX6_lookOfCoat_0 (by decide) ?_
  refine tv_istore (lv' := [(6, .int 0), (0, .ref (tv_ad c 2)), (1, .ref (tv_ad c (cp_p ka))), (2, .int p1), (3, .int p2), (4, .int p3), (5, .int p4)]) C dX6_lookOfCoat_1 (by decide) rfl ?_
  refine tv_iconst (v := 0) C dX6_lookOfCoat_3 (by decide) ?_
  refine tv_istore (lv' := [(7, .int 0), (6, .int 0), (0, .ref (tv_ad c 2)), (1, .ref (tv_ad c (cp_p ka))), (2, .int p1), (3, .int p2), (4, .int p3), (5, .int p4)]) C dX6_lookOfCoat_4 (by decide) rfl ?_
  refine tv_iload C dX6_lookOfCoat_6 0 rfl ?_
  refine tv_iconst (v := 3) C dX6_lookOfCoat_8 (by decide) ?_
  refine tv_icmp_ge C 50 dX6_lookOfCoat_9 (by decide) (fun c_1 => absurd c_1 (by decide)) (fun c_1 => ?_)
  refine tv_iload C dX6_lookOfCoat_12 1 rfl ?_
  refine tv_aload_n C dX6_lookOfCoat_14 rfl 3 rfl ?_
  refine tv_iload C dX6_lookOfCoat_15 0 rfl ?_
  refine tv_iload_n C dX6_lookOfCoat_17 rfl 4 rfl ?_
  refine tv_iload_n C dX6_lookOfCoat_18 rfl 5 rfl ?_
  refine tv_aload_n C dX6_lookOfCoat_19 rfl 2 rfl ?_
  refine tv_get (ci := 6) (Cn := RX6) (T := TX6) (Nf := 11) (v := .int (s 5 0)) C 2 (by decide) rfl rfl in_X6_lookOfCoat_X6 9 (by decide) lk_X6_lookOfCoat_51 rfl dX6_lookOfCoat_20 ?_
  refine tv_iload C dX6_lookOfCoat_23 7 rfl ?_
  refine tv_calli (As := [.int 0, .int p1, .int p2, .int (s 5 0), .int p4]) (rest := [.int 0]) (ci := 1) (cn := RX1) (T := TX1) (Nf := 2) C (cp_p ka) (kX1_comesBack c s r ka 0 0 p1 p2 (s 5 0) p4 (show ka < 7 by omega) (tn_l 0) (by omega) (hv 0 (by omega)) (ls_b ⟨0, by omega, rfl⟩ hu ha hm)) gX6_lookOfCoat_X1_comesBack rfl yd_X1_comesBack ⟨rfl, rfl⟩ (by decide) (cp_lt (show ka < 7 by omega)) (cp_at c s r (show ka < 7 by omega)) rfl rfl rfl (Nat.le_of_ble_eq_true rfl) dX6_lookOfCoat_25 (fun q_2 u_2 z_2 => ?_)
  obtain ⟨rfl, rfl⟩ := z_2
  refine tv_aload_n C dX6_lookOfCoat_28 rfl 2 rfl ?_
  refine tv_get (ci := 6) (Cn := RX6) (T := TX6) (Nf := 11) (v := .ref (tv_ad c 5)) C 2 (by decide) rfl rfl in_X6_lookOfCoat_X6 2 (by decide) lk_X6_lookOfCoat_23 rfl dX6_lookOfCoat_29 ?_
  refine tv_iload C dX6_lookOfCoat_32 6 rfl ?_
  refine tv_iconst (v := 3) C dX6_lookOfCoat_34 (by decide) ?_
  refine tv_imul C dX6_lookOfCoat_35 ?_
  refine tv_iload C dX6_lookOfCoat_36 0 rfl ?_
  refine tv_iadd C dX6_lookOfCoat_38 ?_
  refine tv_iald (f := (s 17)) (v := (s 17 ((3 * l) + 0))) C 5 (by decide) rfl ((3 * l) + 0) (tn_add (tn_mulc e_p3 (tn_l 3)) (tn_l 0)) (show ((3 * l) + 0) < 12 by omega) (by decide) rfl dX6_lookOfCoat_39 ?_
  refine tv_imul C dX6_lookOfCoat_40 ?_
  refine tv_iadd C dX6_lookOfCoat_41 ?_
  refine tv_istore (lv' := [(6, .int (0 + ((sp_cm (cp_k s r ka) (cp_v s r ka 0) 0 p1 p2 (s 5 0) p4) * (s 17 ((3 * l) + 0))))), (7, .int 0), (0, .ref (tv_ad c 2)), (1, .ref (tv_ad c (cp_p ka))), (2, .int p1), (3, .int p2), (4, .int p3), (5, .int p4)]) C dX6_lookOfCoat_42 (by decide) rfl ?_
  refine tv_iinc (v := 1) (lv' := [(7, .int 1), (6, .int (0 + ((sp_cm (cp_k s r ka) (cp_v s r ka 0) 0 p1 p2 (s 5 0) p4) * (s 17 ((3 * l) + 0))))), (0, .ref (tv_ad c 2)), (1, .ref (tv_ad c (cp_p ka))), (2, .int p1), (3, .int p2), (4, .int p3), (5, .int p4)]) C dX6_lookOfCoat_44 1 rfl (by decide) (by decide) rfl ?_
  refine tv_goto C 6 dX6_lookOfCoat_47 (by decide) ?_
  refine tv_iload C dX6_lookOfCoat_6 0 rfl ?_
  refine tv_iconst (v := 3) C dX6_lookOfCoat_8 (by decide) ?_
  refine tv_icmp_ge C 50 dX6_lookOfCoat_9 (by decide) (fun c_3 => absurd c_3 (by decide)) (fun c_3 => ?_)
  refine tv_iload C dX6_lookOfCoat_12 1 rfl ?_
  refine tv_aload_n C dX6_lookOfCoat_14 rfl 3 rfl ?_
  refine tv_iload C dX6_lookOfCoat_15 0 rfl ?_
  refine tv_iload_n C dX6_lookOfCoat_17 rfl 4 rfl ?_
  refine tv_iload_n C dX6_lookOfCoat_18 rfl 5 rfl ?_
  refine tv_aload_n C dX6_lookOfCoat_19 rfl 2 rfl ?_
  refine tv_get (ci := 6) (Cn := RX6) (T := TX6) (Nf := 11) (v := .int (s 5 0)) C 2 (by decide) rfl rfl in_X6_lookOfCoat_X6 9 (by decide) lk_X6_lookOfCoat_51 rfl dX6_lookOfCoat_20 ?_
  refine tv_iload C dX6_lookOfCoat_23 7 rfl ?_
  refine tv_calli (As := [.int 1, .int p1, .int p2, .int (s 5 0), .int p4]) (rest := [.int (0 + ((sp_cm (cp_k s r ka) (cp_v s r ka 0) 0 p1 p2 (s 5 0) p4) * (s 17 ((3 * l) + 0))))]) (ci := 1) (cn := RX1) (T := TX1) (Nf := 2) C (cp_p ka) (kX1_comesBack c s r ka 1 1 p1 p2 (s 5 0) p4 (show ka < 7 by omega) (tn_l 1) (by omega) (hv 1 (by omega)) (ls_b ⟨1, by omega, rfl⟩ hu ha hm)) gX6_lookOfCoat_X1_comesBack rfl yd_X1_comesBack ⟨rfl, rfl⟩ (by decide) (cp_lt (show ka < 7 by omega)) (cp_at c s r (show ka < 7 by omega)) rfl rfl rfl (Nat.le_of_ble_eq_true rfl) dX6_lookOfCoat_25 (fun q_4 u_4 z_4 => ?_)
  obtain ⟨rfl, rfl⟩ := z_4
  refine tv_aload_n C dX6_lookOfCoat_28 rfl 2 rfl ?_
  refine tv_get (ci := 6) (Cn := RX6) (T := TX6) (Nf := 11) (v := .ref (tv_ad c 5)) C 2 (by decide) rfl rfl in_X6_lookOfCoat_X6 2 (by decide) lk_X6_lookOfCoat_23 rfl dX6_lookOfCoat_29 ?_
  refine tv_iload C dX6_lookOfCoat_32 6 rfl ?_
  refine tv_iconst (v := 3) C dX6_lookOfCoat_34 (by decide) ?_
  refine tv_imul C dX6_lookOfCoat_35 ?_
  refine tv_iload C dX6_lookOfCoat_36 0 rfl ?_
  refine tv_iadd C dX6_lookOfCoat_38 ?_
  refine tv_iald (f := (s 17)) (v := (s 17 ((3 * l) + 1))) C 5 (by decide) rfl ((3 * l) + 1) (tn_add (tn_mulc e_p3 (tn_l 3)) (tn_l 1)) (show ((3 * l) + 1) < 12 by omega) (by decide) rfl dX6_lookOfCoat_39 ?_
  refine tv_imul C dX6_lookOfCoat_40 ?_
  refine tv_iadd C dX6_lookOfCoat_41 ?_
  refine tv_istore (lv' := [(6, .int ((0 + ((sp_cm (cp_k s r ka) (cp_v s r ka 0) 0 p1 p2 (s 5 0) p4) * (s 17 ((3 * l) + 0)))) + ((sp_cm (cp_k s r ka) (cp_v s r ka 1) 1 p1 p2 (s 5 0) p4) * (s 17 ((3 * l) + 1))))), (7, .int 1), (0, .ref (tv_ad c 2)), (1, .ref (tv_ad c (cp_p ka))), (2, .int p1), (3, .int p2), (4, .int p3), (5, .int p4)]) C dX6_lookOfCoat_42 (by decide) rfl ?_
  refine tv_iinc (v := 2) (lv' := [(7, .int 2), (6, .int ((0 + ((sp_cm (cp_k s r ka) (cp_v s r ka 0) 0 p1 p2 (s 5 0) p4) * (s 17 ((3 * l) + 0)))) + ((sp_cm (cp_k s r ka) (cp_v s r ka 1) 1 p1 p2 (s 5 0) p4) * (s 17 ((3 * l) + 1))))), (0, .ref (tv_ad c 2)), (1, .ref (tv_ad c (cp_p ka))), (2, .int p1), (3, .int p2), (4, .int p3), (5, .int p4)]) C dX6_lookOfCoat_44 1 rfl (by decide) (by decide) rfl ?_
  refine tv_goto C 6 dX6_lookOfCoat_47 (by decide) ?_
  refine tv_iload C dX6_lookOfCoat_6 0 rfl ?_
  refine tv_iconst (v := 3) C dX6_lookOfCoat_8 (by decide) ?_
  refine tv_icmp_ge C 50 dX6_lookOfCoat_9 (by decide) (fun c_5 => absurd c_5 (by decide)) (fun c_5 => ?_)
  refine tv_iload C dX6_lookOfCoat_12 1 rfl ?_
  refine tv_aload_n C dX6_lookOfCoat_14 rfl 3 rfl ?_
  refine tv_iload C dX6_lookOfCoat_15 0 rfl ?_
  refine tv_iload_n C dX6_lookOfCoat_17 rfl 4 rfl ?_
  refine tv_iload_n C dX6_lookOfCoat_18 rfl 5 rfl ?_
  refine tv_aload_n C dX6_lookOfCoat_19 rfl 2 rfl ?_
  refine tv_get (ci := 6) (Cn := RX6) (T := TX6) (Nf := 11) (v := .int (s 5 0)) C 2 (by decide) rfl rfl in_X6_lookOfCoat_X6 9 (by decide) lk_X6_lookOfCoat_51 rfl dX6_lookOfCoat_20 ?_
  refine tv_iload C dX6_lookOfCoat_23 7 rfl ?_
  refine tv_calli (As := [.int 2, .int p1, .int p2, .int (s 5 0), .int p4]) (rest := [.int ((0 + ((sp_cm (cp_k s r ka) (cp_v s r ka 0) 0 p1 p2 (s 5 0) p4) * (s 17 ((3 * l) + 0)))) + ((sp_cm (cp_k s r ka) (cp_v s r ka 1) 1 p1 p2 (s 5 0) p4) * (s 17 ((3 * l) + 1))))]) (ci := 1) (cn := RX1) (T := TX1) (Nf := 2) C (cp_p ka) (kX1_comesBack c s r ka 2 2 p1 p2 (s 5 0) p4 (show ka < 7 by omega) (tn_l 2) (by omega) (hv 2 (by omega)) (ls_b ⟨2, by omega, rfl⟩ hu ha hm)) gX6_lookOfCoat_X1_comesBack rfl yd_X1_comesBack ⟨rfl, rfl⟩ (by decide) (cp_lt (show ka < 7 by omega)) (cp_at c s r (show ka < 7 by omega)) rfl rfl rfl (Nat.le_of_ble_eq_true rfl) dX6_lookOfCoat_25 (fun q_6 u_6 z_6 => ?_)
  obtain ⟨rfl, rfl⟩ := z_6
  refine tv_aload_n C dX6_lookOfCoat_28 rfl 2 rfl ?_
  refine tv_get (ci := 6) (Cn := RX6) (T := TX6) (Nf := 11) (v := .ref (tv_ad c 5)) C 2 (by decide) rfl rfl in_X6_lookOfCoat_X6 2 (by decide) lk_X6_lookOfCoat_23 rfl dX6_lookOfCoat_29 ?_
  refine tv_iload C dX6_lookOfCoat_32 6 rfl ?_
  refine tv_iconst (v := 3) C dX6_lookOfCoat_34 (by decide) ?_
  refine tv_imul C dX6_lookOfCoat_35 ?_
  refine tv_iload C dX6_lookOfCoat_36 0 rfl ?_
  refine tv_iadd C dX6_lookOfCoat_38 ?_
  refine tv_iald (f := (s 17)) (v := (s 17 ((3 * l) + 2))) C 5 (by decide) rfl ((3 * l) + 2) (tn_add (tn_mulc e_p3 (tn_l 3)) (tn_l 2)) (show ((3 * l) + 2) < 12 by omega) (by decide) rfl dX6_lookOfCoat_39 ?_
  refine tv_imul C dX6_lookOfCoat_40 ?_
  refine tv_iadd C dX6_lookOfCoat_41 ?_
  refine tv_istore (lv' := [(6, .int (((0 + ((sp_cm (cp_k s r ka) (cp_v s r ka 0) 0 p1 p2 (s 5 0) p4) * (s 17 ((3 * l) + 0)))) + ((sp_cm (cp_k s r ka) (cp_v s r ka 1) 1 p1 p2 (s 5 0) p4) * (s 17 ((3 * l) + 1)))) + ((sp_cm (cp_k s r ka) (cp_v s r ka 2) 2 p1 p2 (s 5 0) p4) * (s 17 ((3 * l) + 2))))), (7, .int 2), (0, .ref (tv_ad c 2)), (1, .ref (tv_ad c (cp_p ka))), (2, .int p1), (3, .int p2), (4, .int p3), (5, .int p4)]) C dX6_lookOfCoat_42 (by decide) rfl ?_
  refine tv_iinc (v := 3) (lv' := [(7, .int 3), (6, .int (((0 + ((sp_cm (cp_k s r ka) (cp_v s r ka 0) 0 p1 p2 (s 5 0) p4) * (s 17 ((3 * l) + 0)))) + ((sp_cm (cp_k s r ka) (cp_v s r ka 1) 1 p1 p2 (s 5 0) p4) * (s 17 ((3 * l) + 1)))) + ((sp_cm (cp_k s r ka) (cp_v s r ka 2) 2 p1 p2 (s 5 0) p4) * (s 17 ((3 * l) + 2))))), (0, .ref (tv_ad c 2)), (1, .ref (tv_ad c (cp_p ka))), (2, .int p1), (3, .int p2), (4, .int p3), (5, .int p4)]) C dX6_lookOfCoat_44 1 rfl (by decide) (by decide) rfl ?_
  refine tv_goto C 6 dX6_lookOfCoat_47 (by decide) ?_
  refine tv_iload C dX6_lookOfCoat_6 0 rfl ?_
  refine tv_iconst (v := 3) C dX6_lookOfCoat_8 (by decide) ?_
  refine tv_icmp_ge C 50 dX6_lookOfCoat_9 (by decide) (fun c_7 => ?_) (fun c_7 => absurd (by decide) c_7)
  refine tv_iload C dX6_lookOfCoat_50 1 rfl ?_
  exact hR _ _ _ _ dX6_lookOfCoat_52 ⟨by first | (simp only [sp_lq, if_true, ↓reduceIte]; done) | rfl | (simp [sp_lq, if_true]; done) | (exfalso; clear hR C; simp_all; done), by first | (simp only [sp_lq, if_true, ts_ss, ts_aa, ↓reduceIte]; done) | rfl | (simp [sp_lq, if_true, ts_ss, ts_aa]; done) | (exfalso; clear hR C; simp_all; done)⟩
set_option maxHeartbeats 4000000 in
set_option maxRecDepth 100000 in
theorem kX6_lookOfCell (c : tv_c) (s r : ts_T)  (j : Nat) (l : Nat) (p0 p1 p2 : Int32) (e_p0 : p0 = nI j) (h_p0 : j < 24) (e_p1 : p1 = nI l) (h_p1 : l < 4) (hjc : iv_c s 40 j) (hB : ∀ q, q < 18 → tn_b (s 16 q) 99) (hm : tn_b (s 5 0) 9) : tv_Fi c 60 yX6_lookOfCell wsX6_lookOfCell { frames := 3, cells := 0, slots := 0, locals := 78 } [.ref (tv_ad c 2), .int p0, .int p1, .int p2] (eX c s r) (sp_ln s j l p2) (eX c s r) := by
  refine tv_metI (by decide +kernel) rfl rfl (Nat.le_of_ble_eq_true rfl) (fun X C hR => ?_)
  show tv_V c 60 X (eX c s r) 0 [(0, .ref (tv_ad c 2)), (1, .int p0), (2, .int p1), (3, .int p2)] []
  obtain ⟨fs, ⟨kc, hkc, ekc⟩, fh, fa, fz⟩ := hjc
  have etk := tk_e ekc (by omega)
  refine tv_aload_n C dX6_lookOfCell_0 rfl 0 rfl ?_
  refine tv_get (ci := 6) (Cn := RX6) (T := TX6) (Nf := 11) (v := .ref (tv_ad c 3)) C 2 (by decide) rfl rfl in_X6_lookOfCell_X6 0 (by decide) lk_X6_lookOfCell_11 rfl dX6_lookOfCell_1 ?_
  refine tv_iload_n C dX6_lookOfCell_4 rfl 1 rfl ?_
  refine tv_aald (Cn := RX0) (a := tv_ad c (24 + j)) C 3 (by decide) rfl 3 rfl j e_p0 (show j < 24 by omega) (by decide) rfl dX6_lookOfCell_5 ?_
  refine tv_astore (lv' := [(4, .ref (tv_ad c (24 + j))), (0, .ref (tv_ad c 2)), (1, .int p0), (2, .int p1), (3, .int p2)]) C dX6_lookOfCell_6 (by decide) rfl ?_
  refine tv_aload_n C dX6_lookOfCell_8 rfl 1 rfl ?_
  refine tv_aload_n C dX6_lookOfCell_9 rfl 1 rfl ?_
  refine tv_get (ci := 6) (Cn := RX6) (T := TX6) (Nf := 11) (v := .ref (tv_ad c 4)) C 2 (by decide) rfl rfl in_X6_lookOfCell_X6 1 (by decide) lk_X6_lookOfCell_19 rfl dX6_lookOfCell_10 ?_
  refine tv_aload C dX6_lookOfCell_13 0 rfl ?_
  refine tv_get (ci := 0) (Cn := RX0) (T := TX0) (Nf := 5) (v := .int (s 11 j)) C (24 + j) (by omega) (eX_at_c c s r (by omega)) rfl in_X6_lookOfCell_X0 1 (by decide) lk_X6_lookOfCell_80 rfl dX6_lookOfCell_15 ?_
  refine tv_aald (Cn := RX1) (a := tv_ad c (cp_p kc)) C 4 (by decide) rfl 4 rfl kc ekc (show kc < 6 by omega) (by decide) (cp_ld (show kc < 6 by omega)) dX6_lookOfCell_18 ?_
  refine tv_aload C dX6_lookOfCell_19 0 rfl ?_
  refine tv_get (ci := 0) (Cn := RX0) (T := TX0) (Nf := 5) (v := .int (s 12 j)) C (24 + j) (by omega) (eX_at_c c s r (by omega)) rfl in_X6_lookOfCell_X0 2 (by decide) lk_X6_lookOfCell_83 rfl dX6_lookOfCell_21 ?_
  refine tv_aload C dX6_lookOfCell_24 0 rfl ?_
  refine tv_get (ci := 0) (Cn := RX0) (T := TX0) (Nf := 5) (v := .int (s 13 j)) C (24 + j) (by omega) (eX_at_c c s r (by omega)) rfl in_X6_lookOfCell_X0 3 (by decide) lk_X6_lookOfCell_86 rfl dX6_lookOfCell_26 ?_
  refine tv_iload_n C dX6_lookOfCell_29 rfl 3 rfl ?_
  refine tv_iload_n C dX6_lookOfCell_30 rfl 4 rfl ?_
  refine tv_calli (As := [.ref (tv_ad c (cp_p kc)), .int (s 12 j), .int (s 13 j), .int p1, .int p2]) (rest := []) (ci := 6) (cn := RX6) (T := TX6) (Nf := 11) C 2 (kX6_lookOfCoat c s r kc l (s 12 j) (s 13 j) p1 p2 (show kc < 7 by omega) e_p1 (by omega) (fun b hb => by rw [cp_v6 hkc]; exact hB _ (by omega)) (fh.mono (by decide)) (fa.mono (by decide)) hm) gX6_lookOfCell_X6_lookOfCoat rfl yd_X6_lookOfCoat ⟨rfl, rfl⟩ (by decide) (by decide) rfl rfl rfl rfl (Nat.le_of_ble_eq_true rfl) dX6_lookOfCell_31 (fun q_1 u_1 z_1 => ?_)
  obtain ⟨rfl, rfl⟩ := z_1
  rw [lq_lk hkc]
  exact hR _ _ _ _ dX6_lookOfCell_34 ⟨by first | (simp only [sp_ln, etk, if_true, ↓reduceIte]; done) | rfl | (simp [sp_ln, etk, if_true]; done) | (exfalso; clear hR C; simp_all; done), by first | (simp only [sp_ln, etk, if_true, ts_ss, ts_aa, ↓reduceIte]; done) | rfl | (simp [sp_ln, etk, if_true, ts_ss, ts_aa]; done) | (exfalso; clear hR C; simp_all; done)⟩
set_option maxHeartbeats 4000000 in
set_option maxRecDepth 100000 in
theorem kX6_apartFresh (c : tv_c) (s r : ts_T)  (k : Nat) (j : Nat) (l : Nat) (p0 p1 p2 : Int32) (e_p0 : p0 = nI k) (h_p0 : k < 6) (e_p1 : p1 = nI j) (h_p1 : j < 6) (e_p2 : p2 = nI l) (h_p2 : l < 4) (hB : ∀ q, q < 18 → tn_b (s 16 q) 99) (hm : tn_b (s 5 0) 9) : tv_Fi c 60 yX6_apartFresh wsX6_apartFresh { frames := 3, cells := 0, slots := 0, locals := 78 } [.ref (tv_ad c 2), .int p0, .int p1, .int p2] (eX c s r) (sp_fu s k j l) (eX c s r) := by
  refine tv_metI (by decide +kernel) rfl rfl (Nat.le_of_ble_eq_true rfl) (fun X C hR => ?_)
  show tv_V c 60 X (eX c s r) 0 [(0, .ref (tv_ad c 2)), (1, .int p0), (2, .int p1), (3, .int p2)] []
  refine tv_aload_n C dX6_apartFresh_0 rfl 0 rfl ?_
  refine tv_aload_n C dX6_apartFresh_1 rfl 0 rfl ?_
  refine tv_get (ci := 6) (Cn := RX6) (T := TX6) (Nf := 11) (v := .ref (tv_ad c 4)) C 2 (by decide) rfl rfl in_X6_apartFresh_X6 1 (by decide) lk_X6_apartFresh_19 rfl dX6_apartFresh_2 ?_
  refine tv_iload_n C dX6_apartFresh_5 rfl 1 rfl ?_
  refine tv_aald (Cn := RX1) (a := tv_ad c (cp_p k)) C 4 (by decide) rfl 4 rfl k e_p0 (show k < 6 by omega) (by decide) (cp_ld (show k < 6 by omega)) dX6_apartFresh_6 ?_
  refine tv_iconst (v := 0) C dX6_apartFresh_7 (by decide) ?_
  refine tv_iconst (v := 0) C dX6_apartFresh_8 (by decide) ?_
  refine tv_iload_n C dX6_apartFresh_9 rfl 3 rfl ?_
  refine tv_iconst (v := 0) C dX6_apartFresh_10 (by decide) ?_
  refine tv_calli (As := [.ref (tv_ad c (cp_p k)), .int 0, .int 0, .int p2, .int 0]) (rest := []) (ci := 6) (cn := RX6) (T := TX6) (Nf := 11) C 2 (kX6_lookOfCoat c s r k l 0 0 p2 0 (show k < 7 by omega) e_p2 (by omega) (fun b hb => by rw [cp_v6 (show k < 6 by omega)]; exact hB _ (by omega)) ⟨0, by decide, rfl⟩ ⟨0, by decide, rfl⟩ hm) gX6_apartFresh_X6_lookOfCoat rfl yd_X6_lookOfCoat ⟨rfl, rfl⟩ (by decide) (by decide) rfl rfl rfl rfl (Nat.le_of_ble_eq_true rfl) dX6_apartFresh_11 (fun q_1 u_1 z_1 => ?_)
  obtain ⟨rfl, rfl⟩ := z_1
  rw [lq_lk (show k < 6 by omega)]
  refine tv_aload_n C dX6_apartFresh_14 rfl 0 rfl ?_
  refine tv_aload_n C dX6_apartFresh_15 rfl 0 rfl ?_
  refine tv_get (ci := 6) (Cn := RX6) (T := TX6) (Nf := 11) (v := .ref (tv_ad c 4)) C 2 (by decide) rfl rfl in_X6_apartFresh_X6 1 (by decide) lk_X6_apartFresh_19 rfl dX6_apartFresh_16 ?_
  refine tv_iload_n C dX6_apartFresh_19 rfl 2 rfl ?_
  refine tv_aald (Cn := RX1) (a := tv_ad c (cp_p j)) C 4 (by decide) rfl 4 rfl j e_p1 (show j < 6 by omega) (by decide) (cp_ld (show j < 6 by omega)) dX6_apartFresh_20 ?_
  refine tv_iconst (v := 0) C dX6_apartFresh_21 (by decide) ?_
  refine tv_iconst (v := 0) C dX6_apartFresh_22 (by decide) ?_
  refine tv_iload_n C dX6_apartFresh_23 rfl 3 rfl ?_
  refine tv_iconst (v := 0) C dX6_apartFresh_24 (by decide) ?_
  refine tv_calli (As := [.ref (tv_ad c (cp_p j)), .int 0, .int 0, .int p2, .int 0]) (rest := [.int (sp_lk s k 0 0 l 0)]) (ci := 6) (cn := RX6) (T := TX6) (Nf := 11) C 2 (kX6_lookOfCoat c s r j l 0 0 p2 0 (show j < 7 by omega) e_p2 (by omega) (fun b hb => by rw [cp_v6 (show j < 6 by omega)]; exact hB _ (by omega)) ⟨0, by decide, rfl⟩ ⟨0, by decide, rfl⟩ hm) gX6_apartFresh_X6_lookOfCoat rfl yd_X6_lookOfCoat ⟨rfl, rfl⟩ (by decide) (by decide) rfl rfl rfl rfl (Nat.le_of_ble_eq_true rfl) dX6_apartFresh_25 (fun q_2 u_2 z_2 => ?_)
  obtain ⟨rfl, rfl⟩ := z_2
  rw [lq_lk (show j < 6 by omega)]
  refine tv_isub C dX6_apartFresh_28 ?_
  refine tv_abs C wd_X6_apartFresh_m97 wd_X6_apartFresh_stabs wd_X6_apartFresh_inim wd_X6_apartFresh_cdabs (by decide) (Nat.le_of_ble_eq_true rfl) dX6_apartFresh_29 ?_
  exact hR _ _ _ _ dX6_apartFresh_32 ⟨by rw [ab_abs]; rfl, by first | (simp only [if_true, ts_ss, ts_aa, ↓reduceIte]; done) | rfl | (simp [if_true, ts_ss, ts_aa]; done) | (exfalso; clear hR C; simp_all; done)⟩
set_option maxHeartbeats 4000000 in
set_option maxRecDepth 100000 in
theorem kX6_areTraitors (c : tv_c) (s r : ts_T)  (k : Nat) (j : Nat) (l : Nat) (o : Nat) (p0 p1 p2 p3 : Int32) (e_p0 : p0 = nI k) (h_p0 : k < 6) (e_p1 : p1 = nI j) (h_p1 : j < 6) (e_p2 : p2 = nI l) (h_p2 : l < 4) (e_p3 : p3 = nI o) (h_p3 : o < 4) (hB : ∀ q, q < 18 → tn_b (s 16 q) 99) (hm : tn_b (s 5 0) 9) : tv_Fi c 60 yX6_areTraitors wsX6_areTraitors { frames := 4, cells := 0, slots := 0, locals := 101 } [.ref (tv_ad c 2), .int p0, .int p1, .int p2, .int p3] (eX c s r) ((if sp_tp s l o k j = true then 1 else 0)) (eX c s r) := by
  refine tv_metZ (by decide +kernel) rfl rfl (Nat.le_of_ble_eq_true rfl) (fun X C hR => ?_)
  show tv_V c 60 X (eX c s r) 0 [(0, .ref (tv_ad c 2)), (1, .int p0), (2, .int p1), (3, .int p2), (4, .int p3)] []
  refine tv_aload_n C dX6_areTraitors_0 rfl 0 rfl ?_
  refine tv_iload_n C dX6_areTraitors_1 rfl 1 rfl ?_
  refine tv_iload_n C dX6_areTraitors_2 rfl 2 rfl ?_
  refine tv_iload_n C dX6_areTraitors_3 rfl 3 rfl ?_
  refine tv_calli (As := [.int p0, .int p1, .int p2]) (rest := []) (ci := 6) (cn := RX6) (T := TX6) (Nf := 11) C 2 (kX6_apartFresh c s r k j l p0 p1 p2 e_p0 (by omega) e_p1 (by omega) e_p2 (by omega) hB hm) gX6_areTraitors_X6_apartFresh rfl yd_X6_apartFresh ⟨rfl, rfl⟩ (by decide) (by decide) rfl rfl rfl rfl (Nat.le_of_ble_eq_true rfl) dX6_areTraitors_4 (fun q_1 u_1 z_1 => ?_)
  obtain ⟨rfl, rfl⟩ := z_1
  refine tv_aload_n C dX6_areTraitors_7 rfl 0 rfl ?_
  refine tv_get (ci := 6) (Cn := RX6) (T := TX6) (Nf := 11) (v := .int (s 6 0)) C 2 (by decide) rfl rfl in_X6_areTraitors_X6 10 (by decide) lk_X6_areTraitors_54 rfl dX6_areTraitors_8 ?_
  refine tv_icmp_ge C 33 dX6_areTraitors_11 (by decide) (fun c_2 => ?_) (fun c_2 => ?_)
  · skip
    refine tv_iconst (v := 0) C dX6_areTraitors_33 (by decide) ?_
    exact hR _ _ _ _ dX6_areTraitors_34 (by first | rfl | exact tn_nz (sp_in_z _ _ _) | exact tn_nz (sp_ix_z _ _)) ⟨by simp only [sp_tp, c_2, tn_d_le c_2, decide_true, decide_false, Bool.and_true, Bool.true_and, Bool.and_false, Bool.false_and, Bool.false_eq_true, ↓reduceIte], by first | (simp only [c_2, tn_d_le c_2, if_true, ts_ss, ts_aa, ↓reduceIte]; done) | rfl | (simp [c_2, tn_d_le c_2, if_true, ts_ss, ts_aa]; done) | (exfalso; clear hR C; simp_all; done)⟩
  · skip
    refine tv_aload_n C dX6_areTraitors_14 rfl 0 rfl ?_
    refine tv_iload_n C dX6_areTraitors_15 rfl 1 rfl ?_
    refine tv_iload_n C dX6_areTraitors_16 rfl 2 rfl ?_
    refine tv_iload C dX6_areTraitors_17 4 rfl ?_
    refine tv_calli (As := [.int p0, .int p1, .int p3]) (rest := []) (ci := 6) (cn := RX6) (T := TX6) (Nf := 11) C 2 (kX6_apartFresh c s r k j o p0 p1 p3 e_p0 (by omega) e_p1 (by omega) e_p3 (by omega) hB hm) gX6_areTraitors_X6_apartFresh rfl yd_X6_apartFresh ⟨rfl, rfl⟩ (by decide) (by decide) rfl rfl rfl rfl (Nat.le_of_ble_eq_true rfl) dX6_areTraitors_19 (fun q_3 u_3 z_3 => ?_)
    obtain ⟨rfl, rfl⟩ := z_3
    refine tv_aload_n C dX6_areTraitors_22 rfl 0 rfl ?_
    refine tv_get (ci := 6) (Cn := RX6) (T := TX6) (Nf := 11) (v := .int (s 6 0)) C 2 (by decide) rfl rfl in_X6_areTraitors_X6 10 (by decide) lk_X6_areTraitors_54 rfl dX6_areTraitors_23 ?_
    refine tv_icmp_lt C 33 dX6_areTraitors_26 (by decide) (fun c_4 => ?_) (fun c_4 => ?_)
    · skip
      refine tv_iconst (v := 0) C dX6_areTraitors_33 (by decide) ?_
      exact hR _ _ _ _ dX6_areTraitors_34 (by first | rfl | exact tn_nz (sp_in_z _ _ _) | exact tn_nz (sp_ix_z _ _)) ⟨by simp only [sp_tp, c_2, tn_d_nle c_2, c_4, tn_d_lt c_4, decide_true, decide_false, Bool.and_true, Bool.true_and, Bool.and_false, Bool.false_and, Bool.false_eq_true, ↓reduceIte], by first | (simp only [c_2, tn_d_nle c_2, c_4, tn_d_lt c_4, if_true, ts_ss, ts_aa, ↓reduceIte]; done) | rfl | (simp [c_2, tn_d_nle c_2, c_4, tn_d_lt c_4, if_true, ts_ss, ts_aa]; done) | (exfalso; clear hR C; simp_all; done)⟩
    · skip
      refine tv_iconst (v := 1) C dX6_areTraitors_29 (by decide) ?_
      refine tv_goto C 34 dX6_areTraitors_30 (by decide) ?_
      exact hR _ _ _ _ dX6_areTraitors_34 (by first | rfl | exact tn_nz (sp_in_z _ _ _) | exact tn_nz (sp_ix_z _ _)) ⟨by simp only [sp_tp, c_2, tn_d_nle c_2, c_4, tn_d_nlt c_4, decide_true, decide_false, Bool.and_true, Bool.true_and, Bool.and_false, Bool.false_and, Bool.false_eq_true, ↓reduceIte], by first | (simp only [c_2, tn_d_nle c_2, c_4, tn_d_nlt c_4, if_true, ts_ss, ts_aa, ↓reduceIte]; done) | rfl | (simp [c_2, tn_d_nle c_2, c_4, tn_d_nlt c_4, if_true, ts_ss, ts_aa]; done) | (exfalso; clear hR C; simp_all; done)⟩
