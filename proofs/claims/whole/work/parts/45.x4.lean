theorem tn_i0 {p : Prop} [Decidable p] (h : (if p then (1 : Int32) else 0) = 0) : ¬ p := by
  intro q
  rw [if_pos q] at h
  exact absurd h (by decide)
theorem tn_i1 {p : Prop} [Decidable p] (h : ¬ (if p then (1 : Int32) else 0) = 0) : p := by
  refine Classical.byContradiction fun q => ?_
  rw [if_neg q] at h
  exact h rfl
set_option maxRecDepth 20000 in
theorem in_X7_put_X7 : ∀ w ∈ u_ws RX7 TX7 7, w ∈ wsX7_put := by decide +kernel
set_option maxRecDepth 20000 in
theorem lk_X7_put_50 : Cond.fieldLink RX7 50 (TX7 6).1 (TX7 6).2.1 (TX7 6).2.2.1 ∈ wsX7_put := by decide +kernel
set_option maxRecDepth 20000 in
theorem lk_X7_put_13 : Cond.fieldLink RX7 13 (TX7 0).1 (TX7 0).2.1 (TX7 0).2.2.1 ∈ wsX7_put := by decide +kernel
set_option maxRecDepth 20000 in
theorem in_X7_put_X5 : ∀ w ∈ u_ws RX5 TX5 4, w ∈ wsX7_put := by decide +kernel
set_option maxRecDepth 20000 in
theorem lk_X7_put_251 : Cond.fieldLink RX7 251 (TX5 1).1 (TX5 1).2.1 (TX5 1).2.2.1 ∈ wsX7_put := by decide +kernel
set_option maxRecDepth 20000 in
theorem lk_X7_put_254 : Cond.fieldLink RX7 254 (TX5 0).1 (TX5 0).2.1 (TX5 0).2.2.1 ∈ wsX7_put := by decide +kernel
theorem yd_X5_cut : yX5_cut.cls = RX5 ∧ yX5_cut.cls ≠ "java/lang/invoke/MethodHandle" ∧ yX5_cut.cls ≠ "java/lang/invoke/VarHandle" ∧ (parseMethodDescriptor yX5_cut.desc).map (fun d => d.parameters.length) = some 1 := by decide +kernel
set_option maxRecDepth 20000 in
theorem in_X7_cell_X7 : ∀ w ∈ u_ws RX7 TX7 7, w ∈ wsX7_cell := by decide +kernel
set_option maxRecDepth 20000 in
theorem lk_X7_cell_50 : Cond.fieldLink RX7 50 (TX7 6).1 (TX7 6).2.1 (TX7 6).2.2.1 ∈ wsX7_cell := by decide +kernel
set_option maxRecDepth 20000 in
theorem wd_X7_cell_k246 : Cond.constantLong RX7 246 (-9223372036854775808) ∈ wsX7_cell := by decide +kernel
theorem yd_X7_isSort : yX7_isSort.cls = RX7 ∧ yX7_isSort.cls ≠ "java/lang/invoke/MethodHandle" ∧ yX7_isSort.cls ≠ "java/lang/invoke/VarHandle" ∧ (parseMethodDescriptor yX7_isSort.desc).map (fun d => d.parameters.length) = some 1 := by decide +kernel
set_option maxRecDepth 20000 in
theorem lk_X7_cell_13 : Cond.fieldLink RX7 13 (TX7 0).1 (TX7 0).2.1 (TX7 0).2.2.1 ∈ wsX7_cell := by decide +kernel
theorem yd_X5_faultOfCells : yX5_faultOfCells.cls = RX5 ∧ yX5_faultOfCells.cls ≠ "java/lang/invoke/MethodHandle" ∧ yX5_faultOfCells.cls ≠ "java/lang/invoke/VarHandle" ∧ (parseMethodDescriptor yX5_faultOfCells.desc).map (fun d => d.parameters.length) = some 3 := by decide +kernel
set_option maxRecDepth 20000 in
theorem in_X7_cell_X5 : ∀ w ∈ u_ws RX5 TX5 4, w ∈ wsX7_cell := by decide +kernel
set_option maxRecDepth 20000 in
theorem lk_X7_cell_254 : Cond.fieldLink RX7 254 (TX5 0).1 (TX5 0).2.1 (TX5 0).2.2.1 ∈ wsX7_cell := by decide +kernel
set_option maxRecDepth 20000 in
theorem in_X7_sheet_X7 : ∀ w ∈ u_ws RX7 TX7 7, w ∈ wsX7_sheet := by decide +kernel
set_option maxRecDepth 20000 in
theorem lk_X7_sheet_50 : Cond.fieldLink RX7 50 (TX7 6).1 (TX7 6).2.1 (TX7 6).2.2.1 ∈ wsX7_sheet := by decide +kernel
set_option maxRecDepth 20000 in
theorem lk_X7_sheet_13 : Cond.fieldLink RX7 13 (TX7 0).1 (TX7 0).2.1 (TX7 0).2.2.1 ∈ wsX7_sheet := by decide +kernel
theorem yd_X5_begin : yX5_begin.cls = RX5 ∧ yX5_begin.cls ≠ "java/lang/invoke/MethodHandle" ∧ yX5_begin.cls ≠ "java/lang/invoke/VarHandle" ∧ (parseMethodDescriptor yX5_begin.desc).map (fun d => d.parameters.length) = some 2 := by decide +kernel
set_option maxRecDepth 20000 in
theorem in_X7_isAsTold_X7 : ∀ w ∈ u_ws RX7 TX7 7, w ∈ wsX7_isAsTold := by decide +kernel
set_option maxRecDepth 20000 in
theorem lk_X7_isAsTold_13 : Cond.fieldLink RX7 13 (TX7 0).1 (TX7 0).2.1 (TX7 0).2.2.1 ∈ wsX7_isAsTold := by decide +kernel
set_option maxRecDepth 20000 in
theorem in_X7_isAsTold_X5 : ∀ w ∈ u_ws RX5 TX5 4, w ∈ wsX7_isAsTold := by decide +kernel
set_option maxRecDepth 20000 in
theorem lk_X7_isAsTold_254 : Cond.fieldLink RX7 254 (TX5 0).1 (TX5 0).2.1 (TX5 0).2.2.1 ∈ wsX7_isAsTold := by decide +kernel
set_option maxRecDepth 20000 in
theorem lk_X7_isAsTold_20 : Cond.fieldLink RX7 20 (TX7 1).1 (TX7 1).2.1 (TX7 1).2.2.1 ∈ wsX7_isAsTold := by decide +kernel
set_option maxRecDepth 20000 in
theorem in_X7_isAsTold_X6 : ∀ w ∈ u_ws RX6 TX6 11, w ∈ wsX7_isAsTold := by decide +kernel
set_option maxRecDepth 20000 in
theorem lk_X7_isAsTold_146 : Cond.fieldLink RX7 146 (TX6 1).1 (TX6 1).2.1 (TX6 1).2.2.1 ∈ wsX7_isAsTold := by decide +kernel
set_option maxRecDepth 20000 in
theorem lk_X7_isAsTold_116 : Cond.fieldLink RX7 116 (TX6 9).1 (TX6 9).2.1 (TX6 9).2.2.1 ∈ wsX7_isAsTold := by decide +kernel
set_option maxRecDepth 20000 in
theorem in_X7_hung_X7 : ∀ w ∈ u_ws RX7 TX7 7, w ∈ wsX7_hung := by decide +kernel
set_option maxRecDepth 20000 in
theorem lk_X7_hung_50 : Cond.fieldLink RX7 50 (TX7 6).1 (TX7 6).2.1 (TX7 6).2.2.1 ∈ wsX7_hung := by decide +kernel
set_option maxRecDepth 20000 in
theorem lk_X7_hung_20 : Cond.fieldLink RX7 20 (TX7 1).1 (TX7 1).2.1 (TX7 1).2.2.1 ∈ wsX7_hung := by decide +kernel
set_option maxRecDepth 20000 in
theorem lk_X7_hung_13 : Cond.fieldLink RX7 13 (TX7 0).1 (TX7 0).2.1 (TX7 0).2.2.1 ∈ wsX7_hung := by decide +kernel
set_option maxRecDepth 20000 in
theorem in_X7_hung_X6 : ∀ w ∈ u_ws RX6 TX6 11, w ∈ wsX7_hung := by decide +kernel
set_option maxRecDepth 20000 in
theorem lk_X7_hung_122 : Cond.fieldLink RX7 122 (TX6 8).1 (TX6 8).2.1 (TX6 8).2.2.1 ∈ wsX7_hung := by decide +kernel
theorem yd_X7_isAsTold : yX7_isAsTold.cls = RX7 ∧ yX7_isAsTold.cls ≠ "java/lang/invoke/MethodHandle" ∧ yX7_isAsTold.cls ≠ "java/lang/invoke/VarHandle" ∧ (parseMethodDescriptor yX7_isAsTold.desc).map (fun d => d.parameters.length) = some 5 := by decide +kernel
set_option maxRecDepth 20000 in
theorem in_X7_old_X7 : ∀ w ∈ u_ws RX7 TX7 7, w ∈ wsX7_old := by decide +kernel
set_option maxRecDepth 20000 in
theorem lk_X7_old_50 : Cond.fieldLink RX7 50 (TX7 6).1 (TX7 6).2.1 (TX7 6).2.2.1 ∈ wsX7_old := by decide +kernel
set_option maxRecDepth 20000 in
theorem lk_X7_old_20 : Cond.fieldLink RX7 20 (TX7 1).1 (TX7 1).2.1 (TX7 1).2.2.1 ∈ wsX7_old := by decide +kernel
set_option maxRecDepth 20000 in
theorem wd_X7_old_k246 : Cond.constantLong RX7 246 (-9223372036854775808) ∈ wsX7_old := by decide +kernel
set_option maxRecDepth 20000 in
theorem lk_X7_old_13 : Cond.fieldLink RX7 13 (TX7 0).1 (TX7 0).2.1 (TX7 0).2.2.1 ∈ wsX7_old := by decide +kernel
set_option maxRecDepth 20000 in
theorem in_X7_traitors_X7 : ∀ w ∈ u_ws RX7 TX7 7, w ∈ wsX7_traitors := by decide +kernel
set_option maxRecDepth 20000 in
theorem lk_X7_traitors_20 : Cond.fieldLink RX7 20 (TX7 1).1 (TX7 1).2.1 (TX7 1).2.2.1 ∈ wsX7_traitors := by decide +kernel
set_option maxRecDepth 20000 in
theorem in_X7_traitors_X6 : ∀ w ∈ u_ws RX6 TX6 11, w ∈ wsX7_traitors := by decide +kernel
set_option maxRecDepth 20000 in
theorem lk_X7_traitors_136 : Cond.fieldLink RX7 136 (TX6 6).1 (TX6 6).2.1 (TX6 6).2.2.1 ∈ wsX7_traitors := by decide +kernel
theorem yd_X6_areTraitors : yX6_areTraitors.cls = RX6 ∧ yX6_areTraitors.cls ≠ "java/lang/invoke/MethodHandle" ∧ yX6_areTraitors.cls ≠ "java/lang/invoke/VarHandle" ∧ (parseMethodDescriptor yX6_areTraitors.desc).map (fun d => d.parameters.length) = some 4 := by decide +kernel
set_option maxHeartbeats 4000000 in
set_option maxRecDepth 100000 in
theorem kX7_put (c : tv_c) (s r : ts_T)  (p0 p1 p2 : Int32) (hI : iv s) : tv_Fi c 60 yX7_put wsX7_put { frames := 2, cells := 0, slots := 0, locals := 42 } [.ref (tv_ad c 0), .int p0, .int p1, .int p2] (eX c s r) ((sp_put s p0 p1 p2).1) (eX c (sp_put s p0 p1 p2).2 r) := by
  refine tv_metI (by decide +kernel) rfl rfl (Nat.le_of_ble_eq_true rfl) (fun X C hR => ?_)
  show tv_V c 60 X (eX c s r) 0 [(0, .ref (tv_ad c 0)), (1, .int p0), (2, .int p1), (3, .int p2)] []
  have hC := iv.hC hI
  obtain ⟨h, w, n, nk, nl, ny, nm, li, e2, e3, e9, hnw, hh, hw, hn, hz, hp, e7, hk, e8, hl, e4, hy, e5, hm, e6, hli, hcel, hkin, hban, hwei, hshe⟩ := id hI
  refine tv_aload_n C dX7_put_0 rfl 0 rfl ?_
  refine tv_iconst (v := 0) C dX7_put_1 (by decide) ?_
  refine tv_put (ci := 7) (Cn := RX7) (T := TX7) (Nf := 7) (ty := .int) (E' := (eX c (ts_s s 0 0) r)) C 0 (by decide) rfl rfl in_X7_put_X7 tyX7 tyX7_ok nmX7 6 (by decide) lk_X7_put_50 rfl (by decide +kernel) rfl rfl (Nat.le_of_ble_eq_true rfl) (eX_u_latestFault c s r 0) dX7_put_2 ?_
  refine tv_iload_n C dX7_put_5 rfl 1 rfl ?_
  refine tv_callis (As := [.int p0]) (rest := []) C (kX7_isSheet c (ts_s s 0 0) r  p0 ) gX7_put_X7_isSheet rfl yd_X7_isSheet ⟨rfl, rfl⟩ (by decide) rfl rfl (Nat.le_of_ble_eq_true rfl) dX7_put_6 (fun q_1 u_1 z_1 => ?_)
  obtain ⟨rfl, rfl⟩ := z_1
  show tv_V c 60 X (eX c (ts_s s 0 0) r) 9 [(0, .ref (tv_ad c 0)), (1, .int p0), (2, .int p1), (3, .int p2)] [.int (sp_in p0 0 3)]
  refine tv_if_ne C 14 dX7_put_9 (by decide) (fun c_2 => ?_) (fun c_2 => ?_)
  · skip
    obtain ⟨j_p0, hj_p0, ej_p0, ek_p0⟩ := in_in (b := 3) (by decide) c_2
    refine tv_aload_n C dX7_put_14 rfl 0 rfl ?_
    refine tv_get (ci := 7) (Cn := RX7) (T := TX7) (Nf := 7) (v := .ref (tv_ad c 1)) C 0 (by decide) rfl rfl in_X7_put_X7 0 (by decide) lk_X7_put_13 rfl dX7_put_15 ?_
    refine tv_iload_n C dX7_put_18 rfl 1 rfl ?_
    refine tv_aald (Cn := RX5) (a := tv_ad c (16 + j_p0)) C 1 (by decide) rfl 2 rfl j_p0 ej_p0 (show j_p0 < 4 by omega) (by decide) rfl dX7_put_19 ?_
    refine tv_astore (lv' := [(4, .ref (tv_ad c (16 + j_p0))), (0, .ref (tv_ad c 0)), (1, .int p0), (2, .int p1), (3, .int p2)]) C dX7_put_20 (by decide) rfl ?_
    refine tv_aload C dX7_put_22 0 rfl ?_
    refine tv_get (ci := 5) (Cn := RX5) (T := TX5) (Nf := 4) (v := .int (s 18 j_p0)) C (16 + j_p0) (by omega) (eX_at_s c (ts_s s 0 0) r (by omega)) rfl in_X7_put_X5 1 (by decide) lk_X7_put_251 rfl dX7_put_24 ?_
    refine tv_if_ne C 36 dX7_put_27 (by decide) (fun c_3 => ?_) (fun c_3 => ?_)
    · skip
      refine tv_aload C dX7_put_36 0 rfl ?_
      refine tv_iload_n C dX7_put_38 rfl 3 rfl ?_
      refine tv_iconst (v := 1) C dX7_put_39 (by decide) ?_
      refine tv_calli (As := [.int p1, .int 1]) (rest := []) (ci := 5) (cn := RX5) (T := TX5) (Nf := 4) C (16 + j_p0) (kX5_reaches c (ts_s s 0 0) r j_p0 p1 1 (show j_p0 < 4 by omega)) gX7_put_X5_reaches rfl yd_X5_reaches ⟨rfl, rfl⟩ (by decide) (by omega) (eX_at_s c (ts_s s 0 0) r (by omega)) rfl rfl rfl (Nat.le_of_ble_eq_true rfl) dX7_put_40 (fun q_4 u_4 z_4 => ?_)
      obtain ⟨rfl, rfl⟩ := z_4
      rw [rc_in (show tn_b ((ts_s s 0 0) 20 j_p0) 40 from (hshe j_p0 (by omega)).2.2)]
      show tv_V c 60 X (eX c (ts_s s 0 0) r) 43 [(4, .ref (tv_ad c (16 + j_p0))), (0, .ref (tv_ad c 0)), (1, .int p0), (2, .int p1), (3, .int p2)] [.int (sp_in p1 0 ((s 20 j_p0) - 1))]
      refine tv_if_ne C 52 dX7_put_43 (by decide) (fun c_5 => ?_) (fun c_5 => ?_)
      · skip
        obtain ⟨a1, ha1, ea1, ek1⟩ := in_len (hshe j_p0 (by omega)) c_5
        refine tv_aload C dX7_put_52 0 rfl ?_
        refine tv_get (ci := 5) (Cn := RX5) (T := TX5) (Nf := 4) (v := .ref (tv_ad c (20 + j_p0))) C (16 + j_p0) (by omega) (eX_at_s c (ts_s s 0 0) r (by omega)) rfl in_X7_put_X5 0 (by decide) lk_X7_put_254 rfl dX7_put_54 ?_
        refine tv_iload_n C dX7_put_57 rfl 3 rfl ?_
        refine tv_aload C dX7_put_58 0 rfl ?_
        refine tv_iload_n C dX7_put_60 rfl 4 rfl ?_
        refine tv_calli (As := [.int p2]) (rest := [.int p1, .ref (tv_ad c (20 + j_p0))]) (ci := 5) (cn := RX5) (T := TX5) (Nf := 4) C (16 + j_p0) (kX5_cut c (ts_s s 0 0) r j_p0 p2 (show j_p0 < 4 by omega)) gX7_put_X5_cut rfl yd_X5_cut ⟨rfl, rfl⟩ (by decide) (by omega) (eX_at_s c (ts_s s 0 0) r (by omega)) rfl rfl rfl (Nat.le_of_ble_eq_true rfl) dX7_put_61 (fun q_6 u_6 z_6 => ?_)
        obtain ⟨rfl, rfl⟩ := z_6
        show tv_V c 60 X (eX c (ts_s s 0 0) r) 64 [(4, .ref (tv_ad c (16 + j_p0))), (0, .ref (tv_ad c 0)), (1, .int p0), (2, .int p1), (3, .int p2)] [.int (sp_cut (s 19 j_p0) p2), .int p1, .ref (tv_ad c (20 + j_p0))]
        refine tv_iast (E' := (eX c (ts_a (ts_s s 0 0) 21 (upd (s 21) (40 * j_p0 + a1) (sp_cut (s 19 j_p0) p2))) r)) C (20 + j_p0) (by omega) (eX_at_r c (ts_s s 0 0) r (by omega)) a1 ea1 (show a1 < 40 by omega) (by decide) (eX_u_r_row c (ts_s s 0 0) r (by omega) (show a1 < 40 by omega) (sp_cut (s 19 j_p0) p2)) dX7_put_64 ?_
        refine tv_iconst (v := 1) C dX7_put_65 (by decide) ?_
        exact hR _ _ _ _ dX7_put_66 ⟨by first | (simp only [sp_put, c_2, ek_p0, c_3, c_5, ek1, if_true, ↓reduceIte]; done) | rfl | (simp [sp_put, c_2, ek_p0, c_3, c_5, ek1, if_true]; done) | (exfalso; clear hR C; simp_all; done), by first | (simp only [sp_put, c_2, ek_p0, c_3, c_5, ek1, if_true, ts_ss, ts_aa, ↓reduceIte]; done) | rfl | (simp [sp_put, c_2, ek_p0, c_3, c_5, ek1, if_true, ts_ss, ts_aa]; done) | (exfalso; clear hR C; simp_all; done)⟩
      · skip
        refine tv_aload_n C dX7_put_46 rfl 1 rfl ?_
        refine tv_iconst (v := 3) C dX7_put_47 (by decide) ?_
        refine tv_calli (As := [.int 3]) (rest := []) (ci := 7) (cn := RX7) (T := TX7) (Nf := 7) C 0 (kX7_failed c (ts_s s 0 0) r  3 ) gX7_put_X7_failed rfl yd_X7_failed ⟨rfl, rfl⟩ (by decide) (by decide) rfl rfl rfl rfl (Nat.le_of_ble_eq_true rfl) dX7_put_48 (fun q_7 u_7 z_7 => ?_)
        obtain ⟨rfl, rfl⟩ := z_7
        show tv_V c 60 X (eX c (ts_s (ts_s s 0 0) 0 3) r) 51 [(4, .ref (tv_ad c (16 + j_p0))), (0, .ref (tv_ad c 0)), (1, .int p0), (2, .int p1), (3, .int p2)] [.int ((-10) - 3)]
        refine tv_eqE (E' := (eX c (ts_s s 0 3) r)) (congrArg (fun z => eX c z r) (by funext zz; rcases Classical.em (zz = 0) with hzz | h_0; (subst hzz; rfl); simp only [ts_s, ts_a, h_0, ↓reduceIte])) ?_
        show tv_V c 60 X (eX c (ts_s s 0 3) r) 51 [(4, .ref (tv_ad c (16 + j_p0))), (0, .ref (tv_ad c 0)), (1, .int p0), (2, .int p1), (3, .int p2)] [.int ((-10) - 3)]
        exact hR _ _ _ _ dX7_put_51 ⟨by first | (simp only [sp_put, c_2, ek_p0, c_3, eq_true c_5, if_true, ↓reduceIte]; done) | rfl | (simp [sp_put, c_2, ek_p0, c_3, eq_true c_5, if_true]; done) | (exfalso; clear hR C; simp_all; done), by first | (simp only [sp_put, c_2, ek_p0, c_3, eq_true c_5, if_true, ts_ss, ts_aa, ↓reduceIte]; done) | rfl | (simp [sp_put, c_2, ek_p0, c_3, eq_true c_5, if_true, ts_ss, ts_aa]; done) | (exfalso; clear hR C; simp_all; done)⟩
    · skip
      refine tv_aload_n C dX7_put_30 rfl 1 rfl ?_
      refine tv_iconst (v := 1) C dX7_put_31 (by decide) ?_
      refine tv_calli (As := [.int 1]) (rest := []) (ci := 7) (cn := RX7) (T := TX7) (Nf := 7) C 0 (kX7_failed c (ts_s s 0 0) r  1 ) gX7_put_X7_failed rfl yd_X7_failed ⟨rfl, rfl⟩ (by decide) (by decide) rfl rfl rfl rfl (Nat.le_of_ble_eq_true rfl) dX7_put_32 (fun q_8 u_8 z_8 => ?_)
      obtain ⟨rfl, rfl⟩ := z_8
      show tv_V c 60 X (eX c (ts_s (ts_s s 0 0) 0 1) r) 35 [(4, .ref (tv_ad c (16 + j_p0))), (0, .ref (tv_ad c 0)), (1, .int p0), (2, .int p1), (3, .int p2)] [.int ((-10) - 1)]
      refine tv_eqE (E' := (eX c (ts_s s 0 1) r)) (congrArg (fun z => eX c z r) (by funext zz; rcases Classical.em (zz = 0) with hzz | h_0; (subst hzz; rfl); simp only [ts_s, ts_a, h_0, ↓reduceIte])) ?_
      show tv_V c 60 X (eX c (ts_s s 0 1) r) 35 [(4, .ref (tv_ad c (16 + j_p0))), (0, .ref (tv_ad c 0)), (1, .int p0), (2, .int p1), (3, .int p2)] [.int ((-10) - 1)]
      exact hR _ _ _ _ dX7_put_35 ⟨by first | (simp only [sp_put, c_2, ek_p0, eq_true c_3, if_true, ↓reduceIte]; done) | rfl | (simp [sp_put, c_2, ek_p0, eq_true c_3, if_true]; done) | (exfalso; clear hR C; simp_all; done), by first | (simp only [sp_put, c_2, ek_p0, eq_true c_3, if_true, ts_ss, ts_aa, ↓reduceIte]; done) | rfl | (simp [sp_put, c_2, ek_p0, eq_true c_3, if_true, ts_ss, ts_aa]; done) | (exfalso; clear hR C; simp_all; done)⟩
  · skip
    refine tv_iconst (v := (-1)) C dX7_put_12 (by decide) ?_
    exact hR _ _ _ _ dX7_put_13 ⟨by first | (simp only [sp_put, eq_true c_2, if_true, ↓reduceIte]; done) | rfl | (simp [sp_put, eq_true c_2, if_true]; done) | (exfalso; clear hR C; simp_all; done), by first | (simp only [sp_put, eq_true c_2, if_true, ts_ss, ts_aa, ↓reduceIte]; done) | rfl | (simp [sp_put, eq_true c_2, if_true, ts_ss, ts_aa]; done) | (exfalso; clear hR C; simp_all; done)⟩
set_option maxHeartbeats 4000000 in
set_option maxRecDepth 100000 in
theorem kX7_cell (c : tv_c) (s r : ts_T)  (p0 p1 p2 : Int32) (hI : iv s) : tv_Fl c 60 yX7_cell wsX7_cell { frames := 2, cells := 0, slots := 0, locals := 46 } [.ref (tv_ad c 0), .int p0, .int p1, .int p2] (eX c s r) ((sp_cell s p0 p1 p2).1) (eX c (sp_cell s p0 p1 p2).2 r) := by
  refine tv_metL (by decide +kernel) rfl rfl (Nat.le_of_ble_eq_true rfl) (fun X C hR => ?_)
  show tv_V c 60 X (eX c s r) 0 [(0, .ref (tv_ad c 0)), (1, .int p0), (2, .int p1), (3, .int p2)] []
  have hC := iv.hC hI
  obtain ⟨h, w, n, nk, nl, ny, nm, li, e2, e3, e9, hnw, hh, hw, hn, hz, hp, e7, hk, e8, hl, e4, hy, e5, hm, e6, hli, hcel, hkin, hban, hwei, hshe⟩ := id hI
  have hce : ¬ sp_in p0 0 3 = 0 → tn_b (s 20 (tk p0)) 40 := fun q => by obtain ⟨z, hz, ez, ek⟩ := in_in (b := 3) (by decide) q; rw [ek]; exact (hshe z (by omega)).2.2
  refine tv_aload_n C dX7_cell_0 rfl 0 rfl ?_
  refine tv_iconst (v := 0) C dX7_cell_1 (by decide) ?_
  refine tv_put (ci := 7) (Cn := RX7) (T := TX7) (Nf := 7) (ty := .int) (E' := (eX c (ts_s s 0 0) r)) C 0 (by decide) rfl rfl in_X7_cell_X7 tyX7 tyX7_ok nmX7 6 (by decide) lk_X7_cell_50 rfl (by decide +kernel) rfl rfl (Nat.le_of_ble_eq_true rfl) (eX_u_latestFault c s r 0) dX7_cell_2 ?_
  refine tv_iload_n C dX7_cell_5 rfl 1 rfl ?_
  refine tv_callis (As := [.int p0]) (rest := []) C (kX7_isSheet c (ts_s s 0 0) r  p0 ) gX7_cell_X7_isSheet rfl yd_X7_isSheet ⟨rfl, rfl⟩ (by decide) rfl rfl (Nat.le_of_ble_eq_true rfl) dX7_cell_6 (fun q_1 u_1 z_1 => ?_)
  obtain ⟨rfl, rfl⟩ := z_1
  show tv_V c 60 X (eX c (ts_s s 0 0) r) 9 [(0, .ref (tv_ad c 0)), (1, .int p0), (2, .int p1), (3, .int p2)] [.int (sp_in p0 0 3)]
  refine tv_if_eq C 19 dX7_cell_9 (by decide) (fun c_2 => ?_) (fun c_2 => ?_)
  · skip
    refine tv_ldc2 (v := (-9223372036854775808)) C wd_X7_cell_k246 dX7_cell_19 ?_
    exact hR _ _ _ _ dX7_cell_22 ⟨by rw [cell_eq hce]; simp only [eq_true c_2, ↓reduceIte], by rw [cell_eq hce]; simp only [eq_true c_2, ts_ss, ↓reduceIte]⟩
  · skip
    obtain ⟨j_p0, hj_p0, ej_p0, ek_p0⟩ := in_in (b := 3) (by decide) c_2
    refine tv_iload_n C dX7_cell_12 rfl 3 rfl ?_
    refine tv_callis (As := [.int p2]) (rest := []) C (kX7_isSort c (ts_s s 0 0) r  p2 ) gX7_cell_X7_isSort rfl yd_X7_isSort ⟨rfl, rfl⟩ (by decide) rfl rfl (Nat.le_of_ble_eq_true rfl) dX7_cell_13 (fun q_3 u_3 z_3 => ?_)
    obtain ⟨rfl, rfl⟩ := z_3
    show tv_V c 60 X (eX c (ts_s s 0 0) r) 16 [(0, .ref (tv_ad c 0)), (1, .int p0), (2, .int p1), (3, .int p2)] [.int (sp_in p2 0 2)]
    refine tv_if_ne C 23 dX7_cell_16 (by decide) (fun c_4 => ?_) (fun c_4 => ?_)
    · skip
      obtain ⟨j_p2, hj_p2, ej_p2, ek_p2⟩ := in_in (b := 2) (by decide) c_4
      refine tv_aload_n C dX7_cell_23 rfl 0 rfl ?_
      refine tv_get (ci := 7) (Cn := RX7) (T := TX7) (Nf := 7) (v := .ref (tv_ad c 1)) C 0 (by decide) rfl rfl in_X7_cell_X7 0 (by decide) lk_X7_cell_13 rfl dX7_cell_24 ?_
      refine tv_iload_n C dX7_cell_27 rfl 1 rfl ?_
      refine tv_aald (Cn := RX5) (a := tv_ad c (16 + j_p0)) C 1 (by decide) rfl 2 rfl j_p0 ej_p0 (show j_p0 < 4 by omega) (by decide) rfl dX7_cell_28 ?_
      refine tv_iload_n C dX7_cell_29 rfl 3 rfl ?_
      refine tv_iload_n C dX7_cell_30 rfl 2 rfl ?_
      refine tv_iconst (v := 1) C dX7_cell_31 (by decide) ?_
      refine tv_calli (As := [.int p2, .int p1, .int 1]) (rest := []) (ci := 5) (cn := RX5) (T := TX5) (Nf := 4) C (16 + j_p0) (kX5_faultOfCells c (ts_s s 0 0) r j_p0 p2 p1 1 (show j_p0 < 4 by omega)) gX7_cell_X5_faultOfCells rfl yd_X5_faultOfCells ⟨rfl, rfl⟩ (by decide) (by omega) (eX_at_s c (ts_s s 0 0) r (by omega)) rfl rfl rfl (Nat.le_of_ble_eq_true rfl) dX7_cell_32 (fun q_5 u_5 z_5 => ?_)
      obtain ⟨rfl, rfl⟩ := z_5
      show tv_V c 60 X (eX c (ts_s s 0 0) r) 35 [(0, .ref (tv_ad c 0)), (1, .int p0), (2, .int p1), (3, .int p2)] [.int (sp_fc s j_p0 p2 p1 1)]
      refine tv_istore (lv' := [(4, .int (sp_fc s j_p0 p2 p1 1)), (0, .ref (tv_ad c 0)), (1, .int p0), (2, .int p1), (3, .int p2)]) C dX7_cell_35 (by decide) rfl ?_
      refine tv_iload C dX7_cell_37 0 rfl ?_
      refine tv_if_eq C 53 dX7_cell_39 (by decide) (fun c_6 => ?_) (fun c_6 => ?_)
      · skip
        obtain ⟨a1, b1, L1, ea1, eb1, eL1, hL1, hab1, eka1, ekb1⟩ := sp_ag_z (hshe j_p0 (by omega)) ((fc_ag s j_p0 p2 p1 1 (by decide)).symm.trans c_6)
        have hb11 : b1 = 1 := by rw [← ekb1]; rfl
        refine tv_aload_n C dX7_cell_53 rfl 1 rfl ?_
        refine tv_get (ci := 7) (Cn := RX7) (T := TX7) (Nf := 7) (v := .ref (tv_ad c 1)) C 0 (by decide) rfl rfl in_X7_cell_X7 0 (by decide) lk_X7_cell_13 rfl dX7_cell_54 ?_
        refine tv_iload_n C dX7_cell_57 rfl 2 rfl ?_
        refine tv_aald (Cn := RX5) (a := tv_ad c (16 + j_p0)) C 1 (by decide) rfl 2 rfl j_p0 ej_p0 (show j_p0 < 4 by omega) (by decide) rfl dX7_cell_58 ?_
        refine tv_get (ci := 5) (Cn := RX5) (T := TX5) (Nf := 4) (v := .ref (tv_ad c (20 + j_p0))) C (16 + j_p0) (by omega) (eX_at_s c (ts_s s 0 0) r (by omega)) rfl in_X7_cell_X5 0 (by decide) lk_X7_cell_254 rfl dX7_cell_59 ?_
        refine tv_iload_n C dX7_cell_62 rfl 3 rfl ?_
        refine tv_iald (v := (s 21 (40 * j_p0 + a1))) C (20 + j_p0) (by omega) (eX_at_r c (ts_s s 0 0) r (by omega)) a1 ea1 (show a1 < 40 by omega) (by decide) (if_pos (show a1 < 40 by omega)) dX7_cell_63 ?_
        refine tv_i2l C dX7_cell_64 ?_
        exact hR _ _ _ _ dX7_cell_65 ⟨by rw [cell_eq hce]; simp only [c_2, ek_p0, c_4, ek_p2, eq_true c_6, eka1, ↓reduceIte], by rw [cell_eq hce]; simp only [c_2, ek_p0, c_4, ek_p2, eq_true c_6, eka1, ts_ss, ↓reduceIte]⟩
      · skip
        refine tv_aload_n C dX7_cell_42 rfl 1 rfl ?_
        refine tv_iload C dX7_cell_43 0 rfl ?_
        refine tv_calli (As := [.int (sp_fc s j_p0 p2 p1 1)]) (rest := []) (ci := 7) (cn := RX7) (T := TX7) (Nf := 7) C 0 (kX7_failed c (ts_s s 0 0) r  (sp_fc s j_p0 p2 p1 1) ) gX7_cell_X7_failed rfl yd_X7_failed ⟨rfl, rfl⟩ (by decide) (by decide) rfl rfl rfl rfl (Nat.le_of_ble_eq_true rfl) dX7_cell_45 (fun q_7 u_7 z_7 => ?_)
        obtain ⟨rfl, rfl⟩ := z_7
        show tv_V c 60 X (eX c (ts_s (ts_s s 0 0) 0 (sp_fc s j_p0 p2 p1 1)) r) 48 [(4, .int (sp_fc s j_p0 p2 p1 1)), (0, .ref (tv_ad c 0)), (1, .int p0), (2, .int p1), (3, .int p2)] [.int ((-10) - (sp_fc s j_p0 p2 p1 1))]
        refine tv_eqE (E' := (eX c (ts_s s 0 (sp_fc s j_p0 p2 p1 1)) r)) (congrArg (fun z => eX c z r) (by funext zz; rcases Classical.em (zz = 0) with hzz | h_0; (subst hzz; rfl); simp only [ts_s, ts_a, h_0, ↓reduceIte])) ?_
        show tv_V c 60 X (eX c (ts_s s 0 (sp_fc s j_p0 p2 p1 1)) r) 48 [(4, .int (sp_fc s j_p0 p2 p1 1)), (0, .ref (tv_ad c 0)), (1, .int p0), (2, .int p1), (3, .int p2)] [.int ((-10) - (sp_fc s j_p0 p2 p1 1))]
        refine tv_pop C dX7_cell_48 rfl ?_
        refine tv_ldc2 (v := (-9223372036854775808)) C wd_X7_cell_k246 dX7_cell_49 ?_
        exact hR _ _ _ _ dX7_cell_52 ⟨by rw [cell_eq hce]; simp only [c_2, ek_p0, c_4, ek_p2, c_6, ↓reduceIte], by rw [cell_eq hce]; simp only [c_2, ek_p0, c_4, ek_p2, c_6, ts_ss, ↓reduceIte]⟩
    · skip
      refine tv_ldc2 (v := (-9223372036854775808)) C wd_X7_cell_k246 dX7_cell_19 ?_
      exact hR _ _ _ _ dX7_cell_22 ⟨by rw [cell_eq hce]; simp only [c_2, ek_p0, eq_true c_4, ↓reduceIte], by rw [cell_eq hce]; simp only [c_2, ek_p0, eq_true c_4, ts_ss, ↓reduceIte]⟩
set_option maxHeartbeats 4000000 in
set_option maxRecDepth 100000 in
theorem kX7_sheet (c : tv_c) (s r : ts_T)  (p0 p1 p2 : Int32) (hI : iv s) : tv_Fi c 60 yX7_sheet wsX7_sheet { frames := 2, cells := 0, slots := 0, locals := 45 } [.ref (tv_ad c 0), .int p0, .int p1, .int p2] (eX c s r) ((sp_sheet s p0 p1 p2).1) (eX c (sp_sheet s p0 p1 p2).2 r) := by
  refine tv_metI (by decide +kernel) rfl rfl (Nat.le_of_ble_eq_true rfl) (fun X C hR => ?_)
  show tv_V c 60 X (eX c s r) 0 [(0, .ref (tv_ad c 0)), (1, .int p0), (2, .int p1), (3, .int p2)] []
  have hC := iv.hC hI
  obtain ⟨h, w, n, nk, nl, ny, nm, li, e2, e3, e9, hnw, hh, hw, hn, hz, hp, e7, hk, e8, hl, e4, hy, e5, hm, e6, hli, hcel, hkin, hban, hwei, hshe⟩ := id hI
  refine tv_aload_n C dX7_sheet_0 rfl 0 rfl ?_
  refine tv_iconst (v := 0) C dX7_sheet_1 (by decide) ?_
  refine tv_put (ci := 7) (Cn := RX7) (T := TX7) (Nf := 7) (ty := .int) (E' := (eX c (ts_s s 0 0) r)) C 0 (by decide) rfl rfl in_X7_sheet_X7 tyX7 tyX7_ok nmX7 6 (by decide) lk_X7_sheet_50 rfl (by decide +kernel) rfl rfl (Nat.le_of_ble_eq_true rfl) (eX_u_latestFault c s r 0) dX7_sheet_2 ?_
  refine tv_iload_n C dX7_sheet_5 rfl 1 rfl ?_
  refine tv_callis (As := [.int p0]) (rest := []) C (kX7_isSheet c (ts_s s 0 0) r  p0 ) gX7_sheet_X7_isSheet rfl yd_X7_isSheet ⟨rfl, rfl⟩ (by decide) rfl rfl (Nat.le_of_ble_eq_true rfl) dX7_sheet_6 (fun q_1 u_1 z_1 => ?_)
  obtain ⟨rfl, rfl⟩ := z_1
  show tv_V c 60 X (eX c (ts_s s 0 0) r) 9 [(0, .ref (tv_ad c 0)), (1, .int p0), (2, .int p1), (3, .int p2)] [.int (sp_in p0 0 3)]
  refine tv_if_ne C 14 dX7_sheet_9 (by decide) (fun c_2 => ?_) (fun c_2 => ?_)
  · skip
    obtain ⟨j_p0, hj_p0, ej_p0, ek_p0⟩ := in_in (b := 3) (by decide) c_2
    refine tv_iload_n C dX7_sheet_14 rfl 2 rfl ?_
    refine tv_callis (As := [.int p1]) (rest := []) C (kX7_isSort c (ts_s s 0 0) r  p1 ) gX7_sheet_X7_isSort rfl yd_X7_isSort ⟨rfl, rfl⟩ (by decide) rfl rfl (Nat.le_of_ble_eq_true rfl) dX7_sheet_15 (fun q_3 u_3 z_3 => ?_)
    obtain ⟨rfl, rfl⟩ := z_3
    show tv_V c 60 X (eX c (ts_s s 0 0) r) 18 [(0, .ref (tv_ad c 0)), (1, .int p0), (2, .int p1), (3, .int p2)] [.int (sp_in p1 0 2)]
    refine tv_if_eq C 27 dX7_sheet_18 (by decide) (fun c_4 => ?_) (fun c_4 => ?_)
    · skip
      refine tv_bipush (v := (-2)) C dX7_sheet_27 (by decide) ?_
      exact hR _ _ _ _ dX7_sheet_29 ⟨by first | (simp only [sp_sheet, c_2, ek_p0, eq_true c_4, if_true, ↓reduceIte]; done) | rfl | (simp [sp_sheet, c_2, ek_p0, eq_true c_4, if_true]; done) | (exfalso; clear hR C; simp_all; done), by first | (simp only [sp_sheet, c_2, ek_p0, eq_true c_4, if_true, ts_ss, ts_aa, ↓reduceIte]; done) | rfl | (simp [sp_sheet, c_2, ek_p0, eq_true c_4, if_true, ts_ss, ts_aa]; done) | (exfalso; clear hR C; simp_all; done)⟩
    · skip
      obtain ⟨j_p1, hj_p1, ej_p1, ek_p1⟩ := in_in (b := 2) (by decide) c_4
      refine tv_iload_n C dX7_sheet_21 rfl 3 rfl ?_
      refine tv_bipush (v := 40) C dX7_sheet_22 (by decide) ?_
      refine tv_icmp_le C 30 dX7_sheet_24 (by decide) (fun c_5 => ?_) (fun c_5 => ?_)
      · skip
        refine tv_iload_n C dX7_sheet_30 rfl 3 rfl ?_
        refine tv_if_ge C 40 dX7_sheet_31 (by decide) (fun c_6 => ?_) (fun c_6 => ?_)
        · skip
          refine tv_aload_n C dX7_sheet_40 rfl 0 rfl ?_
          refine tv_get (ci := 7) (Cn := RX7) (T := TX7) (Nf := 7) (v := .ref (tv_ad c 1)) C 0 (by decide) rfl rfl in_X7_sheet_X7 0 (by decide) lk_X7_sheet_13 rfl dX7_sheet_41 ?_
          refine tv_iload_n C dX7_sheet_44 rfl 1 rfl ?_
          refine tv_aald (Cn := RX5) (a := tv_ad c (16 + j_p0)) C 1 (by decide) rfl 2 rfl j_p0 ej_p0 (show j_p0 < 4 by omega) (by decide) rfl dX7_sheet_45 ?_
          refine tv_iload_n C dX7_sheet_46 rfl 2 rfl ?_
          refine tv_iload_n C dX7_sheet_47 rfl 3 rfl ?_
          refine tv_callv (As := [.int p1, .int p2]) (rest := []) (ci := 5) (cn := RX5) (T := TX5) (Nf := 4) C (16 + j_p0) (kX5_begin c (ts_s s 0 0) r j_p0 p1 p2 (show j_p0 < 4 by omega)) gX7_sheet_X5_begin rfl yd_X5_begin ⟨rfl, rfl⟩ (by decide) (by omega) (eX_at_s c (ts_s s 0 0) r (by omega)) rfl rfl rfl (Nat.le_of_ble_eq_true rfl) dX7_sheet_48 (fun u_7 z_7 => ?_)
          subst z_7
          show tv_V c 60 X (eX c (ts_a (ts_a (ts_a (ts_a (ts_s s 0 0) 18 (upd (s 18) j_p0 1)) 19 (upd (s 19) j_p0 p1)) 20 (upd (s 20) j_p0 p2)) 21 (ts_row (s 21) j_p0 (fun _ => 0))) r) 51 [(0, .ref (tv_ad c 0)), (1, .int p0), (2, .int p1), (3, .int p2)] []
          refine tv_iconst (v := 1) C dX7_sheet_51 (by decide) ?_
          exact hR _ _ _ _ dX7_sheet_52 ⟨by first | (simp only [sp_sheet, c_2, ek_p0, c_4, ek_p1, c_5, tn_d_le c_5, c_6, tn_d_le c_6, if_true, ↓reduceIte]; done) | rfl | (simp [sp_sheet, c_2, ek_p0, c_4, ek_p1, c_5, tn_d_le c_5, c_6, tn_d_le c_6, if_true]; done) | (exfalso; clear hR C; simp_all; done), by first | (simp only [sp_sheet, c_2, ek_p0, c_4, ek_p1, c_5, tn_d_le c_5, c_6, tn_d_le c_6, if_true, ts_ss, ts_aa, ↓reduceIte]; done) | rfl | (simp [sp_sheet, c_2, ek_p0, c_4, ek_p1, c_5, tn_d_le c_5, c_6, tn_d_le c_6, if_true, ts_ss, ts_aa]; done) | (exfalso; clear hR C; simp_all; done)⟩
        · skip
          refine tv_aload_n C dX7_sheet_34 rfl 0 rfl ?_
          refine tv_iconst (v := 4) C dX7_sheet_35 (by decide) ?_
          refine tv_calli (As := [.int 4]) (rest := []) (ci := 7) (cn := RX7) (T := TX7) (Nf := 7) C 0 (kX7_failed c (ts_s s 0 0) r  4 ) gX7_sheet_X7_failed rfl yd_X7_failed ⟨rfl, rfl⟩ (by decide) (by decide) rfl rfl rfl rfl (Nat.le_of_ble_eq_true rfl) dX7_sheet_36 (fun q_8 u_8 z_8 => ?_)
          obtain ⟨rfl, rfl⟩ := z_8
          show tv_V c 60 X (eX c (ts_s (ts_s s 0 0) 0 4) r) 39 [(0, .ref (tv_ad c 0)), (1, .int p0), (2, .int p1), (3, .int p2)] [.int ((-10) - 4)]
          refine tv_eqE (E' := (eX c (ts_s s 0 4) r)) (congrArg (fun z => eX c z r) (by funext zz; rcases Classical.em (zz = 0) with hzz | h_0; (subst hzz; rfl); simp only [ts_s, ts_a, h_0, ↓reduceIte])) ?_
          show tv_V c 60 X (eX c (ts_s s 0 4) r) 39 [(0, .ref (tv_ad c 0)), (1, .int p0), (2, .int p1), (3, .int p2)] [.int ((-10) - 4)]
          exact hR _ _ _ _ dX7_sheet_39 ⟨by first | (simp only [sp_sheet, c_2, ek_p0, c_4, ek_p1, c_5, tn_d_le c_5, c_6, tn_d_nle c_6, if_true, ↓reduceIte]; done) | rfl | (simp [sp_sheet, c_2, ek_p0, c_4, ek_p1, c_5, tn_d_le c_5, c_6, tn_d_nle c_6, if_true]; done) | (exfalso; clear hR C; simp_all; done), by first | (simp only [sp_sheet, c_2, ek_p0, c_4, ek_p1, c_5, tn_d_le c_5, c_6, tn_d_nle c_6, if_true, ts_ss, ts_aa, ↓reduceIte]; done) | rfl | (simp [sp_sheet, c_2, ek_p0, c_4, ek_p1, c_5, tn_d_le c_5, c_6, tn_d_nle c_6, if_true, ts_ss, ts_aa]; done) | (exfalso; clear hR C; simp_all; done)⟩
      · skip
        refine tv_bipush (v := (-2)) C dX7_sheet_27 (by decide) ?_
        exact hR _ _ _ _ dX7_sheet_29 ⟨by first | (simp only [sp_sheet, c_2, ek_p0, c_4, ek_p1, c_5, tn_d_nle c_5, if_true, ↓reduceIte]; done) | rfl | (simp [sp_sheet, c_2, ek_p0, c_4, ek_p1, c_5, tn_d_nle c_5, if_true]; done) | (exfalso; clear hR C; simp_all; done), by first | (simp only [sp_sheet, c_2, ek_p0, c_4, ek_p1, c_5, tn_d_nle c_5, if_true, ts_ss, ts_aa, ↓reduceIte]; done) | rfl | (simp [sp_sheet, c_2, ek_p0, c_4, ek_p1, c_5, tn_d_nle c_5, if_true, ts_ss, ts_aa]; done) | (exfalso; clear hR C; simp_all; done)⟩
  · skip
    refine tv_iconst (v := (-1)) C dX7_sheet_12 (by decide) ?_
    exact hR _ _ _ _ dX7_sheet_13 ⟨by first | (simp only [sp_sheet, eq_true c_2, if_true, ↓reduceIte]; done) | rfl | (simp [sp_sheet, eq_true c_2, if_true]; done) | (exfalso; clear hR C; simp_all; done), by first | (simp only [sp_sheet, eq_true c_2, if_true, ts_ss, ts_aa, ↓reduceIte]; done) | rfl | (simp [sp_sheet, eq_true c_2, if_true, ts_ss, ts_aa]; done) | (exfalso; clear hR C; simp_all; done)⟩
set_option maxHeartbeats 4000000 in
set_option maxRecDepth 100000 in
theorem kX7_isAsTold (c : tv_c) (s r : ts_T)  (k : Nat) (h : Nat) (a : Nat) (p0 p1 p2 p3 p4 : Int32) (e_p0 : p0 = nI k) (h_p0 : k < 6) (e_p3 : p3 = nI h) (h_p3 : h < 4) (e_p4 : p4 = nI a) (h_p4 : a < 38) (hv : ∀ b, b < 3 → tn_b (cp_v s r k b) 99) (hu : tn_b (p1 * p2) 720) (ha : tn_b p2 80) (hm : tn_b (s 5 0) 9) : tv_Fi c 60 yX7_isAsTold wsX7_isAsTold { frames := 2, cells := 0, slots := 0, locals := 51 } [.ref (tv_ad c 0), .int p0, .int p1, .int p2, .int p3, .int p4] (eX c s r) (sp_so s k p1 p2 (40 * h + a)) (eX c s r) := by
  refine tv_metZ (by decide +kernel) rfl rfl (Nat.le_of_ble_eq_true rfl) (fun X C hR => ?_)
  show tv_V c 60 X (eX c s r) 0 [(0, .ref (tv_ad c 0)), (1, .int p0), (2, .int p1), (3, .int p2), (4, .int p3), (5, .int p4)] []
  refine tv_aload_n C dX7_isAsTold_0 rfl 0 rfl ?_
  refine tv_get (ci := 7) (Cn := RX7) (T := TX7) (Nf := 7) (v := .ref (tv_ad c 1)) C 0 (by decide) rfl rfl in_X7_isAsTold_X7 0 (by decide) lk_X7_isAsTold_13 rfl dX7_isAsTold_1 ?_
  refine tv_iload C dX7_isAsTold_4 4 rfl ?_
  refine tv_aald (Cn := RX5) (a := tv_ad c (16 + h)) C 1 (by decide) rfl 2 rfl h e_p3 (show h < 4 by omega) (by decide) rfl dX7_isAsTold_6 ?_
  refine tv_get (ci := 5) (Cn := RX5) (T := TX5) (Nf := 4) (v := .ref (tv_ad c (20 + h))) C (16 + h) (by omega) (eX_at_s c s r (by omega)) rfl in_X7_isAsTold_X5 0 (by decide) lk_X7_isAsTold_254 rfl dX7_isAsTold_7 ?_
  refine tv_astore (lv' := [(6, .ref (tv_ad c (20 + h))), (0, .ref (tv_ad c 0)), (1, .int p0), (2, .int p1), (3, .int p2), (4, .int p3), (5, .int p4)]) C dX7_isAsTold_10 (by decide) rfl ?_
  refine tv_iconst (v := 0) C dX7_isAsTold_12 (by decide) ?_
  refine tv_istore (lv' := [(7, .int 0), (6, .ref (tv_ad c (20 + h))), (0, .ref (tv_ad c 0)), (1, .int p0), (2, .int p1), (3, .int p2), (4, .int p3), (5, .int p4)]) C dX7_isAsTold_13 (by decide) rfl ?_
  refine tv_iload C dX7_isAsTold_15 0 rfl ?_
  refine tv_iconst (v := 3) C dX7_isAsTold_17 (by decide) ?_
  refine tv_icmp_ge C 66 dX7_isAsTold_18 (by decide) (fun c_1 => absurd c_1 (by decide)) (fun c_1 => ?_)
  refine tv_aload_n C dX7_isAsTold_21 rfl 2 rfl ?_
  refine tv_get (ci := 7) (Cn := RX7) (T := TX7) (Nf := 7) (v := .ref (tv_ad c 2)) C 0 (by decide) rfl rfl in_X7_isAsTold_X7 1 (by decide) lk_X7_isAsTold_20 rfl dX7_isAsTold_22 ?_
  refine tv_get (ci := 6) (Cn := RX6) (T := TX6) (Nf := 11) (v := .ref (tv_ad c 4)) C 2 (by decide) rfl rfl in_X7_isAsTold_X6 1 (by decide) lk_X7_isAsTold_146 rfl dX7_isAsTold_25 ?_
  refine tv_iload_n C dX7_isAsTold_28 rfl 3 rfl ?_
  refine tv_aald (Cn := RX1) (a := tv_ad c (cp_p k)) C 4 (by decide) rfl 4 rfl k e_p0 (show k < 6 by omega) (by decide) (cp_ld (show k < 6 by omega)) dX7_isAsTold_29 ?_
  refine tv_iload C dX7_isAsTold_30 0 rfl ?_
  refine tv_iload_n C dX7_isAsTold_32 rfl 4 rfl ?_
  refine tv_iload_n C dX7_isAsTold_33 rfl 5 rfl ?_
  refine tv_imul C dX7_isAsTold_34 ?_
  refine tv_iload_n C dX7_isAsTold_35 rfl 5 rfl ?_
  refine tv_aload_n C dX7_isAsTold_36 rfl 2 rfl ?_
  refine tv_get (ci := 7) (Cn := RX7) (T := TX7) (Nf := 7) (v := .ref (tv_ad c 2)) C 0 (by decide) rfl rfl in_X7_isAsTold_X7 1 (by decide) lk_X7_isAsTold_20 rfl dX7_isAsTold_37 ?_
  refine tv_get (ci := 6) (Cn := RX6) (T := TX6) (Nf := 11) (v := .int (s 5 0)) C 2 (by decide) rfl rfl in_X7_isAsTold_X6 9 (by decide) lk_X7_isAsTold_116 rfl dX7_isAsTold_40 ?_
  refine tv_iconst (v := 0) C dX7_isAsTold_43 (by decide) ?_
  refine tv_calli (As := [.int 0, .int (p1 * p2), .int p2, .int (s 5 0), .int 0]) (rest := []) (ci := 1) (cn := RX1) (T := TX1) (Nf := 2) C (cp_p k) (kX1_comesBack c s r k 0 0 (p1 * p2) p2 (s 5 0) 0 (show k < 7 by omega) (tn_l 0) (by omega) (hv 0 (by omega)) (ls_b ⟨0, by omega, rfl⟩ hu ha hm)) gX7_isAsTold_X1_comesBack rfl yd_X1_comesBack ⟨rfl, rfl⟩ (by decide) (cp_lt (show k < 7 by omega)) (cp_at c s r (show k < 7 by omega)) rfl rfl rfl (Nat.le_of_ble_eq_true rfl) dX7_isAsTold_44 (fun q_2 u_2 z_2 => ?_)
  obtain ⟨rfl, rfl⟩ := z_2
  rw [cp_k6 h_p0, cp_v6 h_p0]
  refine tv_aload C dX7_isAsTold_47 1 rfl ?_
  refine tv_iload C dX7_isAsTold_49 7 rfl ?_
  refine tv_iload C dX7_isAsTold_51 0 rfl ?_
  refine tv_iadd C dX7_isAsTold_53 ?_
  refine tv_iald (v := (s 21 (40 * h + (a + 0)))) C (20 + h) (by omega) (eX_at_r c s r (by omega)) (a + 0) (tn_add e_p4 (tn_l 0)) (show (a + 0) < 40 by omega) (by decide) (if_pos (show (a + 0) < 40 by omega)) dX7_isAsTold_54 ?_
  refine tv_icmp_eq C 60 dX7_isAsTold_55 (by decide) (fun c_3 => ?_) (fun c_3 => ?_)
  · skip
    refine tv_iinc (v := 1) (lv' := [(7, .int 1), (6, .ref (tv_ad c (20 + h))), (0, .ref (tv_ad c 0)), (1, .int p0), (2, .int p1), (3, .int p2), (4, .int p3), (5, .int p4)]) C dX7_isAsTold_60 0 rfl (by decide) (by decide) rfl ?_
    refine tv_goto C 15 dX7_isAsTold_63 (by decide) ?_
    refine tv_iload C dX7_isAsTold_15 0 rfl ?_
    refine tv_iconst (v := 3) C dX7_isAsTold_17 (by decide) ?_
    refine tv_icmp_ge C 66 dX7_isAsTold_18 (by decide) (fun c_4 => absurd c_4 (by decide)) (fun c_4 => ?_)
    refine tv_aload_n C dX7_isAsTold_21 rfl 2 rfl ?_
    refine tv_get (ci := 7) (Cn := RX7) (T := TX7) (Nf := 7) (v := .ref (tv_ad c 2)) C 0 (by decide) rfl rfl in_X7_isAsTold_X7 1 (by decide) lk_X7_isAsTold_20 rfl dX7_isAsTold_22 ?_
    refine tv_get (ci := 6) (Cn := RX6) (T := TX6) (Nf := 11) (v := .ref (tv_ad c 4)) C 2 (by decide) rfl rfl in_X7_isAsTold_X6 1 (by decide) lk_X7_isAsTold_146 rfl dX7_isAsTold_25 ?_
    refine tv_iload_n C dX7_isAsTold_28 rfl 3 rfl ?_
    refine tv_aald (Cn := RX1) (a := tv_ad c (cp_p k)) C 4 (by decide) rfl 4 rfl k e_p0 (show k < 6 by omega) (by decide) (cp_ld (show k < 6 by omega)) dX7_isAsTold_29 ?_
    refine tv_iload C dX7_isAsTold_30 0 rfl ?_
    refine tv_iload_n C dX7_isAsTold_32 rfl 4 rfl ?_
    refine tv_iload_n C dX7_isAsTold_33 rfl 5 rfl ?_
    refine tv_imul C dX7_isAsTold_34 ?_
    refine tv_iload_n C dX7_isAsTold_35 rfl 5 rfl ?_
    refine tv_aload_n C dX7_isAsTold_36 rfl 2 rfl ?_
    refine tv_get (ci := 7) (Cn := RX7) (T := TX7) (Nf := 7) (v := .ref (tv_ad c 2)) C 0 (by decide) rfl rfl in_X7_isAsTold_X7 1 (by decide) lk_X7_isAsTold_20 rfl dX7_isAsTold_37 ?_
    refine tv_get (ci := 6) (Cn := RX6) (T := TX6) (Nf := 11) (v := .int (s 5 0)) C 2 (by decide) rfl rfl in_X7_isAsTold_X6 9 (by decide) lk_X7_isAsTold_116 rfl dX7_isAsTold_40 ?_
    refine tv_iconst (v := 0) C dX7_isAsTold_43 (by decide) ?_
    refine tv_calli (As := [.int 1, .int (p1 * p2), .int p2, .int (s 5 0), .int 0]) (rest := []) (ci := 1) (cn := RX1) (T := TX1) (Nf := 2) C (cp_p k) (kX1_comesBack c s r k 1 1 (p1 * p2) p2 (s 5 0) 0 (show k < 7 by omega) (tn_l 1) (by omega) (hv 1 (by omega)) (ls_b ⟨1, by omega, rfl⟩ hu ha hm)) gX7_isAsTold_X1_comesBack rfl yd_X1_comesBack ⟨rfl, rfl⟩ (by decide) (cp_lt (show k < 7 by omega)) (cp_at c s r (show k < 7 by omega)) rfl rfl rfl (Nat.le_of_ble_eq_true rfl) dX7_isAsTold_44 (fun q_5 u_5 z_5 => ?_)
    obtain ⟨rfl, rfl⟩ := z_5
    rw [cp_k6 h_p0, cp_v6 h_p0]
    refine tv_aload C dX7_isAsTold_47 1 rfl ?_
    refine tv_iload C dX7_isAsTold_49 7 rfl ?_
    refine tv_iload C dX7_isAsTold_51 0 rfl ?_
    refine tv_iadd C dX7_isAsTold_53 ?_
    refine tv_iald (v := (s 21 (40 * h + (a + 1)))) C (20 + h) (by omega) (eX_at_r c s r (by omega)) (a + 1) (tn_add e_p4 (tn_l 1)) (show (a + 1) < 40 by omega) (by decide) (if_pos (show (a + 1) < 40 by omega)) dX7_isAsTold_54 ?_
    refine tv_icmp_eq C 60 dX7_isAsTold_55 (by decide) (fun c_6 => ?_) (fun c_6 => ?_)
    · skip
      refine tv_iinc (v := 2) (lv' := [(7, .int 2), (6, .ref (tv_ad c (20 + h))), (0, .ref (tv_ad c 0)), (1, .int p0), (2, .int p1), (3, .int p2), (4, .int p3), (5, .int p4)]) C dX7_isAsTold_60 0 rfl (by decide) (by decide) rfl ?_
      refine tv_goto C 15 dX7_isAsTold_63 (by decide) ?_
      refine tv_iload C dX7_isAsTold_15 0 rfl ?_
      refine tv_iconst (v := 3) C dX7_isAsTold_17 (by decide) ?_
      refine tv_icmp_ge C 66 dX7_isAsTold_18 (by decide) (fun c_7 => absurd c_7 (by decide)) (fun c_7 => ?_)
      refine tv_aload_n C dX7_isAsTold_21 rfl 2 rfl ?_
      refine tv_get (ci := 7) (Cn := RX7) (T := TX7) (Nf := 7) (v := .ref (tv_ad c 2)) C 0 (by decide) rfl rfl in_X7_isAsTold_X7 1 (by decide) lk_X7_isAsTold_20 rfl dX7_isAsTold_22 ?_
      refine tv_get (ci := 6) (Cn := RX6) (T := TX6) (Nf := 11) (v := .ref (tv_ad c 4)) C 2 (by decide) rfl rfl in_X7_isAsTold_X6 1 (by decide) lk_X7_isAsTold_146 rfl dX7_isAsTold_25 ?_
      refine tv_iload_n C dX7_isAsTold_28 rfl 3 rfl ?_
      refine tv_aald (Cn := RX1) (a := tv_ad c (cp_p k)) C 4 (by decide) rfl 4 rfl k e_p0 (show k < 6 by omega) (by decide) (cp_ld (show k < 6 by omega)) dX7_isAsTold_29 ?_
      refine tv_iload C dX7_isAsTold_30 0 rfl ?_
      refine tv_iload_n C dX7_isAsTold_32 rfl 4 rfl ?_
      refine tv_iload_n C dX7_isAsTold_33 rfl 5 rfl ?_
      refine tv_imul C dX7_isAsTold_34 ?_
      refine tv_iload_n C dX7_isAsTold_35 rfl 5 rfl ?_
      refine tv_aload_n C dX7_isAsTold_36 rfl 2 rfl ?_
      refine tv_get (ci := 7) (Cn := RX7) (T := TX7) (Nf := 7) (v := .ref (tv_ad c 2)) C 0 (by decide) rfl rfl in_X7_isAsTold_X7 1 (by decide) lk_X7_isAsTold_20 rfl dX7_isAsTold_37 ?_
      refine tv_get (ci := 6) (Cn := RX6) (T := TX6) (Nf := 11) (v := .int (s 5 0)) C 2 (by decide) rfl rfl in_X7_isAsTold_X6 9 (by decide) lk_X7_isAsTold_116 rfl dX7_isAsTold_40 ?_
      refine tv_iconst (v := 0) C dX7_isAsTold_43 (by decide) ?_
      refine tv_calli (As := [.int 2, .int (p1 * p2), .int p2, .int (s 5 0), .int 0]) (rest := []) (ci := 1) (cn := RX1) (T := TX1) (Nf := 2) C (cp_p k) (kX1_comesBack c s r k 2 2 (p1 * p2) p2 (s 5 0) 0 (show k < 7 by omega) (tn_l 2) (by omega) (hv 2 (by omega)) (ls_b ⟨2, by omega, rfl⟩ hu ha hm)) gX7_isAsTold_X1_comesBack rfl yd_X1_comesBack ⟨rfl, rfl⟩ (by decide) (cp_lt (show k < 7 by omega)) (cp_at c s r (show k < 7 by omega)) rfl rfl rfl (Nat.le_of_ble_eq_true rfl) dX7_isAsTold_44 (fun q_8 u_8 z_8 => ?_)
      obtain ⟨rfl, rfl⟩ := z_8
      rw [cp_k6 h_p0, cp_v6 h_p0]
      refine tv_aload C dX7_isAsTold_47 1 rfl ?_
      refine tv_iload C dX7_isAsTold_49 7 rfl ?_
      refine tv_iload C dX7_isAsTold_51 0 rfl ?_
      refine tv_iadd C dX7_isAsTold_53 ?_
      refine tv_iald (v := (s 21 (40 * h + (a + 2)))) C (20 + h) (by omega) (eX_at_r c s r (by omega)) (a + 2) (tn_add e_p4 (tn_l 2)) (show (a + 2) < 40 by omega) (by decide) (if_pos (show (a + 2) < 40 by omega)) dX7_isAsTold_54 ?_
      refine tv_icmp_eq C 60 dX7_isAsTold_55 (by decide) (fun c_9 => ?_) (fun c_9 => ?_)
      · skip
        refine tv_iinc (v := 3) (lv' := [(7, .int 3), (6, .ref (tv_ad c (20 + h))), (0, .ref (tv_ad c 0)), (1, .int p0), (2, .int p1), (3, .int p2), (4, .int p3), (5, .int p4)]) C dX7_isAsTold_60 0 rfl (by decide) (by decide) rfl ?_
        refine tv_goto C 15 dX7_isAsTold_63 (by decide) ?_
        refine tv_iload C dX7_isAsTold_15 0 rfl ?_
        refine tv_iconst (v := 3) C dX7_isAsTold_17 (by decide) ?_
        refine tv_icmp_ge C 66 dX7_isAsTold_18 (by decide) (fun c_10 => ?_) (fun c_10 => absurd (by decide) c_10)
        refine tv_iconst (v := 1) C dX7_isAsTold_66 (by decide) ?_
        exact hR _ _ _ _ dX7_isAsTold_67 (by first | rfl | exact tn_nz (sp_in_z _ _ _) | exact tn_nz (sp_ix_z _ _)) ⟨by first | (simp only [sp_so, Nat.add_assoc, eq_true c_3, eq_true c_6, eq_true c_9, if_true, ↓reduceIte]; done) | rfl | (simp [sp_so, Nat.add_assoc, eq_true c_3, eq_true c_6, eq_true c_9, if_true]; done) | (exfalso; clear hR C; simp_all; done), by first | (simp only [sp_so, Nat.add_assoc, eq_true c_3, eq_true c_6, eq_true c_9, if_true, ts_ss, ts_aa, ↓reduceIte]; done) | rfl | (simp [sp_so, Nat.add_assoc, eq_true c_3, eq_true c_6, eq_true c_9, if_true, ts_ss, ts_aa]; done) | (exfalso; clear hR C; simp_all; done)⟩
      · skip
        refine tv_iconst (v := 0) C dX7_isAsTold_58 (by decide) ?_
        exact hR _ _ _ _ dX7_isAsTold_59 (by first | rfl | exact tn_nz (sp_in_z _ _ _) | exact tn_nz (sp_ix_z _ _)) ⟨by first | (simp only [sp_so, Nat.add_assoc, eq_true c_3, eq_true c_6, c_9, if_true, ↓reduceIte]; done) | rfl | (simp [sp_so, Nat.add_assoc, eq_true c_3, eq_true c_6, c_9, if_true]; done) | (exfalso; clear hR C; simp_all; done), by first | (simp only [sp_so, Nat.add_assoc, eq_true c_3, eq_true c_6, c_9, if_true, ts_ss, ts_aa, ↓reduceIte]; done) | rfl | (simp [sp_so, Nat.add_assoc, eq_true c_3, eq_true c_6, c_9, if_true, ts_ss, ts_aa]; done) | (exfalso; clear hR C; simp_all; done)⟩
    · skip
      refine tv_iconst (v := 0) C dX7_isAsTold_58 (by decide) ?_
      exact hR _ _ _ _ dX7_isAsTold_59 (by first | rfl | exact tn_nz (sp_in_z _ _ _) | exact tn_nz (sp_ix_z _ _)) ⟨by first | (simp only [sp_so, Nat.add_assoc, eq_true c_3, c_6, if_true, ↓reduceIte]; done) | rfl | (simp [sp_so, Nat.add_assoc, eq_true c_3, c_6, if_true]; done) | (exfalso; clear hR C; simp_all; done), by first | (simp only [sp_so, Nat.add_assoc, eq_true c_3, c_6, if_true, ts_ss, ts_aa, ↓reduceIte]; done) | rfl | (simp [sp_so, Nat.add_assoc, eq_true c_3, c_6, if_true, ts_ss, ts_aa]; done) | (exfalso; clear hR C; simp_all; done)⟩
  · skip
    refine tv_iconst (v := 0) C dX7_isAsTold_58 (by decide) ?_
    exact hR _ _ _ _ dX7_isAsTold_59 (by first | rfl | exact tn_nz (sp_in_z _ _ _) | exact tn_nz (sp_ix_z _ _)) ⟨by first | (simp only [sp_so, Nat.add_assoc, c_3, if_true, ↓reduceIte]; done) | rfl | (simp [sp_so, Nat.add_assoc, c_3, if_true]; done) | (exfalso; clear hR C; simp_all; done), by first | (simp only [sp_so, Nat.add_assoc, c_3, if_true, ts_ss, ts_aa, ↓reduceIte]; done) | rfl | (simp [sp_so, Nat.add_assoc, c_3, if_true, ts_ss, ts_aa]; done) | (exfalso; clear hR C; simp_all; done)⟩
set_option maxHeartbeats 4000000 in
set_option maxRecDepth 100000 in
theorem kX7_hung (c : tv_c) (s r : ts_T)  (p0 p1 p2 p3 p4 p5 : Int32) (hI : iv s) : tv_Fi c 60 yX7_hung wsX7_hung { frames := 3, cells := 0, slots := 0, locals := 78 } [.ref (tv_ad c 0), .int p0, .int p1, .int p2, .int p3, .int p4, .int p5] (eX c s r) ((sp_hung s p0 p1 p2 p3 p4 p5).1) (eX c (sp_hung s p0 p1 p2 p3 p4 p5).2 r) := by
  refine tv_metI (by decide +kernel) rfl rfl (Nat.le_of_ble_eq_true rfl) (fun X C hR => ?_)
  show tv_V c 60 X (eX c s r) 0 [(0, .ref (tv_ad c 0)), (1, .int p0), (2, .int p1), (3, .int p2), (4, .int p3), (5, .int p4), (6, .int p5)] []
  have hC := iv.hC hI
  obtain ⟨h, w, n, nk, nl, ny, nm, li, e2, e3, e9, hnw, hh, hw, hn, hz, hp, e7, hk, e8, hl, e4, hy, e5, hm, e6, hli, hcel, hkin, hban, hwei, hshe⟩ := id hI
  have ek4 := tk_e e4 (by omega)
  refine tv_aload_n C dX7_hung_0 rfl 0 rfl ?_
  refine tv_iconst (v := 0) C dX7_hung_1 (by decide) ?_
  refine tv_put (ci := 7) (Cn := RX7) (T := TX7) (Nf := 7) (ty := .int) (E' := (eX c (ts_s s 0 0) r)) C 0 (by decide) rfl rfl in_X7_hung_X7 tyX7 tyX7_ok nmX7 6 (by decide) lk_X7_hung_50 rfl (by decide +kernel) rfl rfl (Nat.le_of_ble_eq_true rfl) (eX_u_latestFault c s r 0) dX7_hung_2 ?_
  refine tv_aload_n C dX7_hung_5 rfl 0 rfl ?_
  refine tv_get (ci := 7) (Cn := RX7) (T := TX7) (Nf := 7) (v := .ref (tv_ad c 2)) C 0 (by decide) rfl rfl in_X7_hung_X7 1 (by decide) lk_X7_hung_20 rfl dX7_hung_6 ?_
  refine tv_iload_n C dX7_hung_9 rfl 1 rfl ?_
  refine tv_calli (As := [.int p0]) (rest := []) (ci := 6) (cn := RX6) (T := TX6) (Nf := 11) C 2 (kX6_hasCoat c (ts_s s 0 0) r  p0 ) gX7_hung_X6_hasCoat rfl yd_X6_hasCoat ⟨rfl, rfl⟩ (by decide) (by decide) rfl rfl rfl rfl (Nat.le_of_ble_eq_true rfl) dX7_hung_10 (fun q_1 u_1 z_1 => ?_)
  obtain ⟨rfl, rfl⟩ := z_1
  show tv_V c 60 X (eX c (ts_s s 0 0) r) 13 [(0, .ref (tv_ad c 0)), (1, .int p0), (2, .int p1), (3, .int p2), (4, .int p3), (5, .int p4), (6, .int p5)] [.int (sp_ix p0 (s 7 0))]
  refine tv_if_eq C 23 dX7_hung_13 (by decide) (fun c_2 => ?_) (fun c_2 => ?_)
  · skip
    refine tv_iconst (v := (-1)) C dX7_hung_23 (by decide) ?_
    exact hR _ _ _ _ dX7_hung_24 ⟨by first | (simp only [sp_hung, ek4, eq_true c_2, if_true, ↓reduceIte]; done) | rfl | (simp [sp_hung, ek4, eq_true c_2, if_true]; done) | (exfalso; clear hR C; simp_all; done), by first | (simp only [sp_hung, ek4, eq_true c_2, if_true, ts_ss, ts_aa, ↓reduceIte]; done) | rfl | (simp [sp_hung, ek4, eq_true c_2, if_true, ts_ss, ts_aa]; done) | (exfalso; clear hR C; simp_all; done)⟩
  · skip
    obtain ⟨j_p0, hj_p0, ej_p0, ek_p0⟩ := in_ix e7 (by omega) c_2
    refine tv_iload_n C dX7_hung_16 rfl 3 rfl ?_
    refine tv_callis (As := [.int p2]) (rest := []) C (kX7_isSheet c (ts_s s 0 0) r  p2 ) gX7_hung_X7_isSheet rfl yd_X7_isSheet ⟨rfl, rfl⟩ (by decide) rfl rfl (Nat.le_of_ble_eq_true rfl) dX7_hung_17 (fun q_3 u_3 z_3 => ?_)
    obtain ⟨rfl, rfl⟩ := z_3
    show tv_V c 60 X (eX c (ts_s s 0 0) r) 20 [(0, .ref (tv_ad c 0)), (1, .int p0), (2, .int p1), (3, .int p2), (4, .int p3), (5, .int p4), (6, .int p5)] [.int (sp_in p2 0 3)]
    refine tv_if_ne C 25 dX7_hung_20 (by decide) (fun c_4 => ?_) (fun c_4 => ?_)
    · skip
      obtain ⟨j_p2, hj_p2, ej_p2, ek_p2⟩ := in_in (b := 3) (by decide) c_4
      refine tv_iload_n C dX7_hung_25 rfl 2 rfl ?_
      refine tv_iconst (v := 0) C dX7_hung_26 (by decide) ?_
      refine tv_bipush (v := 9) C dX7_hung_27 (by decide) ?_
      refine tv_callis (As := [.int p1, .int 0, .int 9]) (rest := []) C (kX7_isWithin c (ts_s s 0 0) r  p1 0 9 ) gX7_hung_X7_isWithin rfl yd_X7_isWithin ⟨rfl, rfl⟩ (by decide) rfl rfl (Nat.le_of_ble_eq_true rfl) dX7_hung_29 (fun q_5 u_5 z_5 => ?_)
      obtain ⟨rfl, rfl⟩ := z_5
      show tv_V c 60 X (eX c (ts_s s 0 0) r) 32 [(0, .ref (tv_ad c 0)), (1, .int p0), (2, .int p1), (3, .int p2), (4, .int p3), (5, .int p4), (6, .int p5)] [.int (sp_in p1 0 9)]
      refine tv_if_eq C 53 dX7_hung_32 (by decide) (fun c_6 => ?_) (fun c_6 => ?_)
      · skip
        refine tv_bipush (v := (-2)) C dX7_hung_53 (by decide) ?_
        exact hR _ _ _ _ dX7_hung_55 ⟨by first | (simp only [sp_hung, ek4, c_2, ek_p0, c_4, ek_p2, eq_true c_6, if_true, ↓reduceIte]; done) | rfl | (simp [sp_hung, ek4, c_2, ek_p0, c_4, ek_p2, eq_true c_6, if_true]; done) | (exfalso; clear hR C; simp_all; done), by first | (simp only [sp_hung, ek4, c_2, ek_p0, c_4, ek_p2, eq_true c_6, if_true, ts_ss, ts_aa, ↓reduceIte]; done) | rfl | (simp [sp_hung, ek4, c_2, ek_p0, c_4, ek_p2, eq_true c_6, if_true, ts_ss, ts_aa]; done) | (exfalso; clear hR C; simp_all; done)⟩
      · skip
        obtain ⟨j_p1, hj_p1, ej_p1, ek_p1⟩ := in_in (b := 9) (by decide) c_6
        refine tv_iload C dX7_hung_35 6 rfl ?_
        refine tv_iconst (v := 0) C dX7_hung_37 (by decide) ?_
        refine tv_iconst (v := 2) C dX7_hung_38 (by decide) ?_
        refine tv_callis (As := [.int p5, .int 0, .int 2]) (rest := []) C (kX7_isWithin c (ts_s s 0 0) r  p5 0 2 ) gX7_hung_X7_isWithin rfl yd_X7_isWithin ⟨rfl, rfl⟩ (by decide) rfl rfl (Nat.le_of_ble_eq_true rfl) dX7_hung_39 (fun q_7 u_7 z_7 => ?_)
        obtain ⟨rfl, rfl⟩ := z_7
        show tv_V c 60 X (eX c (ts_s s 0 0) r) 42 [(0, .ref (tv_ad c 0)), (1, .int p0), (2, .int p1), (3, .int p2), (4, .int p3), (5, .int p4), (6, .int p5)] [.int (sp_in p5 0 2)]
        refine tv_if_eq C 53 dX7_hung_42 (by decide) (fun c_8 => ?_) (fun c_8 => ?_)
        · skip
          refine tv_bipush (v := (-2)) C dX7_hung_53 (by decide) ?_
          exact hR _ _ _ _ dX7_hung_55 ⟨by first | (simp only [sp_hung, ek4, c_2, ek_p0, c_4, ek_p2, c_6, ek_p1, eq_true c_8, if_true, ↓reduceIte]; done) | rfl | (simp [sp_hung, ek4, c_2, ek_p0, c_4, ek_p2, c_6, ek_p1, eq_true c_8, if_true]; done) | (exfalso; clear hR C; simp_all; done), by first | (simp only [sp_hung, ek4, c_2, ek_p0, c_4, ek_p2, c_6, ek_p1, eq_true c_8, if_true, ts_ss, ts_aa, ↓reduceIte]; done) | rfl | (simp [sp_hung, ek4, c_2, ek_p0, c_4, ek_p2, c_6, ek_p1, eq_true c_8, if_true, ts_ss, ts_aa]; done) | (exfalso; clear hR C; simp_all; done)⟩
        · skip
          obtain ⟨j_p5, hj_p5, ej_p5, ek_p5⟩ := in_in (b := 2) (by decide) c_8
          refine tv_iload C dX7_hung_45 4 rfl ?_
          refine tv_callis (As := [.int p3]) (rest := []) C (kX7_isSort c (ts_s s 0 0) r  p3 ) gX7_hung_X7_isSort rfl yd_X7_isSort ⟨rfl, rfl⟩ (by decide) rfl rfl (Nat.le_of_ble_eq_true rfl) dX7_hung_47 (fun q_9 u_9 z_9 => ?_)
          obtain ⟨rfl, rfl⟩ := z_9
          show tv_V c 60 X (eX c (ts_s s 0 0) r) 50 [(0, .ref (tv_ad c 0)), (1, .int p0), (2, .int p1), (3, .int p2), (4, .int p3), (5, .int p4), (6, .int p5)] [.int (sp_in p3 0 2)]
          refine tv_if_ne C 56 dX7_hung_50 (by decide) (fun c_10 => ?_) (fun c_10 => ?_)
          · skip
            obtain ⟨j_p3, hj_p3, ej_p3, ek_p3⟩ := in_in (b := 2) (by decide) c_10
            refine tv_aload_n C dX7_hung_56 rfl 0 rfl ?_
            refine tv_get (ci := 7) (Cn := RX7) (T := TX7) (Nf := 7) (v := .ref (tv_ad c 1)) C 0 (by decide) rfl rfl in_X7_hung_X7 0 (by decide) lk_X7_hung_13 rfl dX7_hung_57 ?_
            refine tv_iload_n C dX7_hung_60 rfl 3 rfl ?_
            refine tv_aald (Cn := RX5) (a := tv_ad c (16 + j_p2)) C 1 (by decide) rfl 2 rfl j_p2 ej_p2 (show j_p2 < 4 by omega) (by decide) rfl dX7_hung_61 ?_
            refine tv_iload C dX7_hung_62 4 rfl ?_
            refine tv_iload C dX7_hung_64 5 rfl ?_
            refine tv_iconst (v := 3) C dX7_hung_66 (by decide) ?_
            refine tv_calli (As := [.int p3, .int p4, .int 3]) (rest := []) (ci := 5) (cn := RX5) (T := TX5) (Nf := 4) C (16 + j_p2) (kX5_faultOfCells c (ts_s s 0 0) r j_p2 p3 p4 3 (show j_p2 < 4 by omega)) gX7_hung_X5_faultOfCells rfl yd_X5_faultOfCells ⟨rfl, rfl⟩ (by decide) (by omega) (eX_at_s c (ts_s s 0 0) r (by omega)) rfl rfl rfl (Nat.le_of_ble_eq_true rfl) dX7_hung_67 (fun q_11 u_11 z_11 => ?_)
            obtain ⟨rfl, rfl⟩ := z_11
            rw [fc_ag3]
            show tv_V c 60 X (eX c (ts_s s 0 0) r) 70 [(0, .ref (tv_ad c 0)), (1, .int p0), (2, .int p1), (3, .int p2), (4, .int p3), (5, .int p4), (6, .int p5)] [.int (sp_ag s j_p2 p3 p4 3)]
            refine tv_istore (lv' := [(7, .int (sp_ag s j_p2 p3 p4 3)), (0, .ref (tv_ad c 0)), (1, .int p0), (2, .int p1), (3, .int p2), (4, .int p3), (5, .int p4), (6, .int p5)]) C dX7_hung_70 (by decide) rfl ?_
            refine tv_iload C dX7_hung_72 0 rfl ?_
            refine tv_if_eq C 84 dX7_hung_74 (by decide) (fun c_12 => ?_) (fun c_12 => ?_)
            · skip
              obtain ⟨a, b3, L, ea, eb, eL, hL, hab, eka, ekb⟩ := sp_ag_z (hshe j_p2 (by omega)) c_12
              have hb3 : b3 = 3 := by rw [← ekb]; rfl
              refine tv_iconst (v := 0) C dX7_hung_84 (by decide) ?_
              refine tv_istore (lv' := [(8, .int 0), (7, .int (sp_ag s j_p2 p3 p4 3)), (0, .ref (tv_ad c 0)), (1, .int p0), (2, .int p1), (3, .int p2), (4, .int p3), (5, .int p4), (6, .int p5)]) C dX7_hung_85 (by decide) rfl ?_
              refine tv_bipush (v := (-9)) C dX7_hung_87 (by decide) ?_
              refine tv_istore (lv' := [(9, .int (-9)), (8, .int 0), (7, .int (sp_ag s j_p2 p3 p4 3)), (0, .ref (tv_ad c 0)), (1, .int p0), (2, .int p1), (3, .int p2), (4, .int p3), (5, .int p4), (6, .int p5)]) C dX7_hung_89 (by decide) rfl ?_
              refine tv_bipush (v := (-9)) C dX7_hung_91 (by decide) ?_
              refine tv_istore (lv' := [(10, .int (-9)), (9, .int (-9)), (8, .int 0), (7, .int (sp_ag s j_p2 p3 p4 3)), (0, .ref (tv_ad c 0)), (1, .int p0), (2, .int p1), (3, .int p2), (4, .int p3), (5, .int p4), (6, .int p5)]) C dX7_hung_93 (by decide) rfl ?_
              refine tv_iconst (v := 0) C dX7_hung_95 (by decide) ?_
              refine tv_istore (lv' := [(11, .int 0), (10, .int (-9)), (9, .int (-9)), (8, .int 0), (7, .int (sp_ag s j_p2 p3 p4 3)), (0, .ref (tv_ad c 0)), (1, .int p0), (2, .int p1), (3, .int p2), (4, .int p3), (5, .int p4), (6, .int p5)]) C dX7_hung_96 (by decide) rfl ?_
              have hL98 : ∀ (k_98 i : Nat) (x_98_8 : Int32) (x_98_9 : Int32) (x_98_10 : Int32) (x_98_11 : Int32), i + k_98 = (ny + 1) → x_98_8 = (sp_hn (fun y => sp_so s j_p0 p1 (nI y) (40 * j_p2 + a)) i) → x_98_9 = (sp_hl (fun y => sp_so s j_p0 p1 (nI y) (40 * j_p2 + a)) i) → x_98_10 = (sp_hm (fun y => sp_so s j_p0 p1 (nI y) (40 * j_p2 + a)) i) → x_98_11 = (nI i) → tv_V c 60 X (eX c (ts_s s 0 0) r) 98 [(0, .ref (tv_ad c 0)), (1, .int p0), (2, .int p1), (3, .int p2), (4, .int p3), (5, .int p4), (6, .int p5), (7, .int (sp_ag s j_p2 p3 p4 3)), (8, .int x_98_8), (9, .int x_98_9), (10, .int x_98_10), (11, .int x_98_11)] [] := by
                intro k_98
                induction k_98 with
                | zero =>
                  intro i x_98_8 x_98_9 x_98_10 x_98_11 hi98  ex_98_8 ex_98_9 ex_98_10 ex_98_11
                  subst ex_98_8
                  subst ex_98_9
                  subst ex_98_10
                  subst ex_98_11
                  have hN98 : i = (ny + 1) := by omega
                  refine tv_iload C dX7_hung_98 11 rfl ?_
                  refine tv_aload_n C dX7_hung_100 rfl 0 rfl ?_
                  refine tv_get (ci := 7) (Cn := RX7) (T := TX7) (Nf := 7) (v := .ref (tv_ad c 2)) C 0 (by decide) rfl rfl in_X7_hung_X7 1 (by decide) lk_X7_hung_20 rfl dX7_hung_101 ?_
                  refine tv_get (ci := 6) (Cn := RX6) (T := TX6) (Nf := 11) (v := .int (s 4 0)) C 2 (by decide) rfl rfl in_X7_hung_X6 8 (by decide) lk_X7_hung_122 rfl dX7_hung_104 ?_
                  refine tv_icmp_gt C 151 dX7_hung_107 (by decide) (fun c_13 => ?_) (fun c_13 => absurd (tn_lt e4 (rfl : nI i = nI i) (by omega) (by omega)) c_13)
                  refine tv_iload C dX7_hung_151 6 rfl ?_
                  refine tv_if_ne C 159 dX7_hung_153 (by decide) (fun c_14 => ?_) (fun c_14 => ?_)
                  · skip
                    refine tv_iload C dX7_hung_159 6 rfl ?_
                    refine tv_iconst (v := 1) C dX7_hung_161 (by decide) ?_
                    refine tv_icmp_ne C 170 dX7_hung_162 (by decide) (fun c_15 => ?_) (fun c_15 => ?_)
                    · skip
                      refine tv_iload C dX7_hung_170 10 rfl ?_
                      exact hR _ _ _ _ dX7_hung_172 ⟨by first | (simp only [sp_hung, ek4, c_2, ek_p0, c_4, ek_p2, c_6, ek_p1, c_8, ek_p5, c_10, ek_p3, eq_true c_12, eka, hN98, c_13, c_14, c_15, if_true, ↓reduceIte]; done) | rfl | (simp [sp_hung, ek4, c_2, ek_p0, c_4, ek_p2, c_6, ek_p1, c_8, ek_p5, c_10, ek_p3, eq_true c_12, eka, hN98, c_13, c_14, c_15, if_true]; done) | (exfalso; clear hR C; simp_all; done), by first | (simp only [sp_hung, ek4, c_2, ek_p0, c_4, ek_p2, c_6, ek_p1, c_8, ek_p5, c_10, ek_p3, eq_true c_12, eka, hN98, c_13, c_14, c_15, if_true, ts_ss, ts_aa, ↓reduceIte]; done) | rfl | (simp [sp_hung, ek4, c_2, ek_p0, c_4, ek_p2, c_6, ek_p1, c_8, ek_p5, c_10, ek_p3, eq_true c_12, eka, hN98, c_13, c_14, c_15, if_true, ts_ss, ts_aa]; done) | (exfalso; clear hR C; simp_all; done)⟩
                    · skip
                      refine tv_iload C dX7_hung_165 9 rfl ?_
                      refine tv_goto C 172 dX7_hung_167 (by decide) ?_
                      exact hR _ _ _ _ dX7_hung_172 ⟨by first | (simp only [sp_hung, ek4, c_2, ek_p0, c_4, ek_p2, c_6, ek_p1, c_8, ek_p5, c_10, ek_p3, eq_true c_12, eka, hN98, c_13, c_14, eq_true c_15, if_true, ↓reduceIte]; done) | rfl | (simp [sp_hung, ek4, c_2, ek_p0, c_4, ek_p2, c_6, ek_p1, c_8, ek_p5, c_10, ek_p3, eq_true c_12, eka, hN98, c_13, c_14, eq_true c_15, if_true]; done) | (exfalso; clear hR C; simp_all; done), by first | (simp only [sp_hung, ek4, c_2, ek_p0, c_4, ek_p2, c_6, ek_p1, c_8, ek_p5, c_10, ek_p3, eq_true c_12, eka, hN98, c_13, c_14, eq_true c_15, if_true, ts_ss, ts_aa, ↓reduceIte]; done) | rfl | (simp [sp_hung, ek4, c_2, ek_p0, c_4, ek_p2, c_6, ek_p1, c_8, ek_p5, c_10, ek_p3, eq_true c_12, eka, hN98, c_13, c_14, eq_true c_15, if_true, ts_ss, ts_aa]; done) | (exfalso; clear hR C; simp_all; done)⟩
                  · skip
                    refine tv_iload C dX7_hung_156 8 rfl ?_
                    exact hR _ _ _ _ dX7_hung_158 ⟨by first | (simp only [sp_hung, ek4, c_2, ek_p0, c_4, ek_p2, c_6, ek_p1, c_8, ek_p5, c_10, ek_p3, eq_true c_12, eka, hN98, c_13, eq_true c_14, if_true, ↓reduceIte]; done) | rfl | (simp [sp_hung, ek4, c_2, ek_p0, c_4, ek_p2, c_6, ek_p1, c_8, ek_p5, c_10, ek_p3, eq_true c_12, eka, hN98, c_13, eq_true c_14, if_true]; done) | (exfalso; clear hR C; simp_all; done), by first | (simp only [sp_hung, ek4, c_2, ek_p0, c_4, ek_p2, c_6, ek_p1, c_8, ek_p5, c_10, ek_p3, eq_true c_12, eka, hN98, c_13, eq_true c_14, if_true, ts_ss, ts_aa, ↓reduceIte]; done) | rfl | (simp [sp_hung, ek4, c_2, ek_p0, c_4, ek_p2, c_6, ek_p1, c_8, ek_p5, c_10, ek_p3, eq_true c_12, eka, hN98, c_13, eq_true c_14, if_true, ts_ss, ts_aa]; done) | (exfalso; clear hR C; simp_all; done)⟩
                | succ k_98 ih98 =>
                  intro i x_98_8 x_98_9 x_98_10 x_98_11 hi98  ex_98_8 ex_98_9 ex_98_10 ex_98_11
                  subst ex_98_8
                  subst ex_98_9
                  subst ex_98_10
                  subst ex_98_11
                  have hN98 : i < (ny + 1) := by omega
                  refine tv_iload C dX7_hung_98 11 rfl ?_
                  refine tv_aload_n C dX7_hung_100 rfl 0 rfl ?_
                  refine tv_get (ci := 7) (Cn := RX7) (T := TX7) (Nf := 7) (v := .ref (tv_ad c 2)) C 0 (by decide) rfl rfl in_X7_hung_X7 1 (by decide) lk_X7_hung_20 rfl dX7_hung_101 ?_
                  refine tv_get (ci := 6) (Cn := RX6) (T := TX6) (Nf := 11) (v := .int (s 4 0)) C 2 (by decide) rfl rfl in_X7_hung_X6 8 (by decide) lk_X7_hung_122 rfl dX7_hung_104 ?_
                  refine tv_icmp_gt C 151 dX7_hung_107 (by decide) (fun c_16 => absurd c_16 (tn_nlt e4 (rfl : nI i = nI i) (by omega) (by omega))) (fun c_16 => ?_)
                  refine tv_aload_n C dX7_hung_110 rfl 0 rfl ?_
                  refine tv_iload_n C dX7_hung_111 rfl 1 rfl ?_
                  refine tv_iload_n C dX7_hung_112 rfl 2 rfl ?_
                  refine tv_iload C dX7_hung_113 11 rfl ?_
                  refine tv_iload_n C dX7_hung_115 rfl 3 rfl ?_
                  refine tv_iload C dX7_hung_116 5 rfl ?_
                  refine tv_calli (As := [.int p0, .int p1, .int (nI i), .int p2, .int p4]) (rest := []) (ci := 7) (cn := RX7) (T := TX7) (Nf := 7) C 0 (kX7_isAsTold c (ts_s s 0 0) r j_p0 j_p2 a p0 p1 (nI i) p2 p4 ej_p0 (by omega) ej_p2 (by omega) ea (by omega) (fun b hb => by rw [cp_v6 (show j_p0 < 6 by omega)]; exact hban _ (by omega)) ((tn_b.mul (⟨j_p1, hj_p1, ej_p1⟩ : tn_b p1 9) (⟨i, by omega, rfl⟩ : tn_b (nI i) 40)).mono (by decide)) ⟨i, by omega, rfl⟩ ⟨nm, hm, e5⟩) gX7_hung_X7_isAsTold rfl yd_X7_isAsTold ⟨rfl, rfl⟩ (by decide) (by decide) rfl rfl rfl rfl (Nat.le_of_ble_eq_true rfl) dX7_hung_118 (fun q_17 u_17 z_17 => ?_)
                  obtain ⟨rfl, rfl⟩ := z_17
                  show tv_V c 60 X (eX c (ts_s s 0 0) r) 121 [(0, .ref (tv_ad c 0)), (1, .int p0), (2, .int p1), (3, .int p2), (4, .int p3), (5, .int p4), (6, .int p5), (7, .int (sp_ag s j_p2 p3 p4 3)), (8, .int (sp_hn (fun y => sp_so s j_p0 p1 (nI y) (40 * j_p2 + a)) i)), (9, .int (sp_hl (fun y => sp_so s j_p0 p1 (nI y) (40 * j_p2 + a)) i)), (10, .int (sp_hm (fun y => sp_so s j_p0 p1 (nI y) (40 * j_p2 + a)) i)), (11, .int (nI i))] [.int (sp_so s j_p0 p1 (nI i) (40 * j_p2 + a))]
                  refine tv_if_eq C 145 dX7_hung_121 (by decide) (fun c_18 => ?_) (fun c_18 => ?_)
                  · skip
                    refine tv_iinc (v := ((nI i) + 1)) (lv' := [(11, .int ((nI i) + 1)), (0, .ref (tv_ad c 0)), (1, .int p0), (2, .int p1), (3, .int p2), (4, .int p3), (5, .int p4), (6, .int p5), (7, .int (sp_ag s j_p2 p3 p4 3)), (8, .int (sp_hn (fun y => sp_so s j_p0 p1 (nI y) (40 * j_p2 + a)) i)), (9, .int (sp_hl (fun y => sp_so s j_p0 p1 (nI y) (40 * j_p2 + a)) i)), (10, .int (sp_hm (fun y => sp_so s j_p0 p1 (nI y) (40 * j_p2 + a)) i))]) C dX7_hung_145 11 rfl rfl (by decide) rfl ?_
                    refine tv_goto C 98 dX7_hung_148 (by decide) ?_
                    refine tv_lsub [1, 2, 3, 4, 5, 6, 7, 8, 9, 10, 11, 0] rfl ?_
                    exact ih98 (i + 1) _ _ _ _ (by omega)  (by simp only [sp_hn, ek4, c_2, ek_p0, c_4, ek_p2, c_6, ek_p1, c_8, ek_p5, c_10, ek_p3, eq_true c_12, eka, c_16, eq_true c_18, ↓reduceIte]) (by simp only [sp_hl, ek4, c_2, ek_p0, c_4, ek_p2, c_6, ek_p1, c_8, ek_p5, c_10, ek_p3, eq_true c_12, eka, c_16, eq_true c_18, ← (hn_hl (p := (fun y => sp_so s j_p0 p1 (nI y) (40 * j_p2 + a))) (show i ≤ 100 by omega)).1, ↓reduceIte]) (by simp only [sp_hm, ek4, c_2, ek_p0, c_4, ek_p2, c_6, ek_p1, c_8, ek_p5, c_10, ek_p3, eq_true c_12, eka, c_16, eq_true c_18, ↓reduceIte]) (by first | rfl | exact nI_1 _ | (simp only [sp_hung, ek4, c_2, ek_p0, c_4, ek_p2, c_6, ek_p1, c_8, ek_p5, c_10, ek_p3, eq_true c_12, eka, c_16, eq_true c_18, if_true, ↓reduceIte]; done) | (simp [sp_hung, ek4, c_2, ek_p0, c_4, ek_p2, c_6, ek_p1, c_8, ek_p5, c_10, ek_p3, eq_true c_12, eka, c_16, eq_true c_18, if_true]; done) | (exfalso; clear hR C; simp_all; done))
                  · skip
                    refine tv_iload C dX7_hung_124 8 rfl ?_
                    refine tv_if_ne C 134 dX7_hung_126 (by decide) (fun c_19 => ?_) (fun c_19 => ?_)
                    · skip
                      refine tv_iload C dX7_hung_134 9 rfl ?_
                      refine tv_istore (lv' := [(9, .int (sp_hl (fun y => sp_so s j_p0 p1 (nI y) (40 * j_p2 + a)) i)), (0, .ref (tv_ad c 0)), (1, .int p0), (2, .int p1), (3, .int p2), (4, .int p3), (5, .int p4), (6, .int p5), (7, .int (sp_ag s j_p2 p3 p4 3)), (8, .int (sp_hn (fun y => sp_so s j_p0 p1 (nI y) (40 * j_p2 + a)) i)), (10, .int (sp_hm (fun y => sp_so s j_p0 p1 (nI y) (40 * j_p2 + a)) i)), (11, .int (nI i))]) C dX7_hung_136 (by decide) rfl ?_
                      refine tv_iload C dX7_hung_138 11 rfl ?_
                      refine tv_istore (lv' := [(10, .int (nI i)), (9, .int (sp_hl (fun y => sp_so s j_p0 p1 (nI y) (40 * j_p2 + a)) i)), (0, .ref (tv_ad c 0)), (1, .int p0), (2, .int p1), (3, .int p2), (4, .int p3), (5, .int p4), (6, .int p5), (7, .int (sp_ag s j_p2 p3 p4 3)), (8, .int (sp_hn (fun y => sp_so s j_p0 p1 (nI y) (40 * j_p2 + a)) i)), (11, .int (nI i))]) C dX7_hung_140 (by decide) rfl ?_
                      refine tv_iinc (v := ((sp_hn (fun y => sp_so s j_p0 p1 (nI y) (40 * j_p2 + a)) i) + 1)) (lv' := [(8, .int ((sp_hn (fun y => sp_so s j_p0 p1 (nI y) (40 * j_p2 + a)) i) + 1)), (10, .int (nI i)), (9, .int (sp_hl (fun y => sp_so s j_p0 p1 (nI y) (40 * j_p2 + a)) i)), (0, .ref (tv_ad c 0)), (1, .int p0), (2, .int p1), (3, .int p2), (4, .int p3), (5, .int p4), (6, .int p5), (7, .int (sp_ag s j_p2 p3 p4 3)), (11, .int (nI i))]) C dX7_hung_142 10 rfl rfl (by decide) rfl ?_
                      refine tv_iinc (v := ((nI i) + 1)) (lv' := [(11, .int ((nI i) + 1)), (8, .int ((sp_hn (fun y => sp_so s j_p0 p1 (nI y) (40 * j_p2 + a)) i) + 1)), (10, .int (nI i)), (9, .int (sp_hl (fun y => sp_so s j_p0 p1 (nI y) (40 * j_p2 + a)) i)), (0, .ref (tv_ad c 0)), (1, .int p0), (2, .int p1), (3, .int p2), (4, .int p3), (5, .int p4), (6, .int p5), (7, .int (sp_ag s j_p2 p3 p4 3))]) C dX7_hung_145 11 rfl rfl (by decide) rfl ?_
                      refine tv_goto C 98 dX7_hung_148 (by decide) ?_
                      refine tv_lsub [4, 5, 6, 7, 8, 9, 10, 11, 1, 3, 2, 0] rfl ?_
                      exact ih98 (i + 1) _ _ _ _ (by omega)  (by simp only [sp_hn, ek4, c_2, ek_p0, c_4, ek_p2, c_6, ek_p1, c_8, ek_p5, c_10, ek_p3, eq_true c_12, eka, c_16, c_18, c_19, ↓reduceIte]) (by simp only [sp_hl, ek4, c_2, ek_p0, c_4, ek_p2, c_6, ek_p1, c_8, ek_p5, c_10, ek_p3, eq_true c_12, eka, c_16, c_18, c_19, ← (hn_hl (p := (fun y => sp_so s j_p0 p1 (nI y) (40 * j_p2 + a))) (show i ≤ 100 by omega)).1, ↓reduceIte]) (by simp only [sp_hm, ek4, c_2, ek_p0, c_4, ek_p2, c_6, ek_p1, c_8, ek_p5, c_10, ek_p3, eq_true c_12, eka, c_16, c_18, c_19, ↓reduceIte]) (by first | rfl | exact nI_1 _ | (simp only [sp_hung, ek4, c_2, ek_p0, c_4, ek_p2, c_6, ek_p1, c_8, ek_p5, c_10, ek_p3, eq_true c_12, eka, c_16, c_18, c_19, if_true, ↓reduceIte]; done) | (simp [sp_hung, ek4, c_2, ek_p0, c_4, ek_p2, c_6, ek_p1, c_8, ek_p5, c_10, ek_p3, eq_true c_12, eka, c_16, c_18, c_19, if_true]; done) | (exfalso; clear hR C; simp_all; done))
                    · skip
                      refine tv_iload C dX7_hung_129 11 rfl ?_
                      refine tv_goto C 136 dX7_hung_131 (by decide) ?_
                      refine tv_istore (lv' := [(9, .int (nI i)), (0, .ref (tv_ad c 0)), (1, .int p0), (2, .int p1), (3, .int p2), (4, .int p3), (5, .int p4), (6, .int p5), (7, .int (sp_ag s j_p2 p3 p4 3)), (8, .int (sp_hn (fun y => sp_so s j_p0 p1 (nI y) (40 * j_p2 + a)) i)), (10, .int (sp_hm (fun y => sp_so s j_p0 p1 (nI y) (40 * j_p2 + a)) i)), (11, .int (nI i))]) C dX7_hung_136 (by decide) rfl ?_
                      refine tv_iload C dX7_hung_138 11 rfl ?_
                      refine tv_istore (lv' := [(10, .int (nI i)), (9, .int (nI i)), (0, .ref (tv_ad c 0)), (1, .int p0), (2, .int p1), (3, .int p2), (4, .int p3), (5, .int p4), (6, .int p5), (7, .int (sp_ag s j_p2 p3 p4 3)), (8, .int (sp_hn (fun y => sp_so s j_p0 p1 (nI y) (40 * j_p2 + a)) i)), (11, .int (nI i))]) C dX7_hung_140 (by decide) rfl ?_
                      refine tv_iinc (v := ((sp_hn (fun y => sp_so s j_p0 p1 (nI y) (40 * j_p2 + a)) i) + 1)) (lv' := [(8, .int ((sp_hn (fun y => sp_so s j_p0 p1 (nI y) (40 * j_p2 + a)) i) + 1)), (10, .int (nI i)), (9, .int (nI i)), (0, .ref (tv_ad c 0)), (1, .int p0), (2, .int p1), (3, .int p2), (4, .int p3), (5, .int p4), (6, .int p5), (7, .int (sp_ag s j_p2 p3 p4 3)), (11, .int (nI i))]) C dX7_hung_142 10 rfl rfl (by decide) rfl ?_
                      refine tv_iinc (v := ((nI i) + 1)) (lv' := [(11, .int ((nI i) + 1)), (8, .int ((sp_hn (fun y => sp_so s j_p0 p1 (nI y) (40 * j_p2 + a)) i) + 1)), (10, .int (nI i)), (9, .int (nI i)), (0, .ref (tv_ad c 0)), (1, .int p0), (2, .int p1), (3, .int p2), (4, .int p3), (5, .int p4), (6, .int p5), (7, .int (sp_ag s j_p2 p3 p4 3))]) C dX7_hung_145 11 rfl rfl (by decide) rfl ?_
                      refine tv_goto C 98 dX7_hung_148 (by decide) ?_
                      refine tv_lsub [4, 5, 6, 7, 8, 9, 10, 11, 1, 3, 2, 0] rfl ?_
                      exact ih98 (i + 1) _ _ _ _ (by omega)  (by simp only [sp_hn, ek4, c_2, ek_p0, c_4, ek_p2, c_6, ek_p1, c_8, ek_p5, c_10, ek_p3, eq_true c_12, eka, c_16, c_18, eq_true c_19, ↓reduceIte]) (by simp only [sp_hl, ek4, c_2, ek_p0, c_4, ek_p2, c_6, ek_p1, c_8, ek_p5, c_10, ek_p3, eq_true c_12, eka, c_16, c_18, eq_true c_19, ← (hn_hl (p := (fun y => sp_so s j_p0 p1 (nI y) (40 * j_p2 + a))) (show i ≤ 100 by omega)).1, ↓reduceIte]) (by simp only [sp_hm, ek4, c_2, ek_p0, c_4, ek_p2, c_6, ek_p1, c_8, ek_p5, c_10, ek_p3, eq_true c_12, eka, c_16, c_18, eq_true c_19, ↓reduceIte]) (by first | rfl | exact nI_1 _ | (simp only [sp_hung, ek4, c_2, ek_p0, c_4, ek_p2, c_6, ek_p1, c_8, ek_p5, c_10, ek_p3, eq_true c_12, eka, c_16, c_18, eq_true c_19, if_true, ↓reduceIte]; done) | (simp [sp_hung, ek4, c_2, ek_p0, c_4, ek_p2, c_6, ek_p1, c_8, ek_p5, c_10, ek_p3, eq_true c_12, eka, c_16, c_18, eq_true c_19, if_true]; done) | (exfalso; clear hR C; simp_all; done))
              refine tv_lsub [5, 6, 7, 8, 9, 10, 11, 4, 3, 2, 1, 0] rfl ?_
              exact hL98 ((ny + 1) - 0) 0 _ _ _ _ (by omega)  (by first | (simp only [sp_hung, ek4, c_2, ek_p0, c_4, ek_p2, c_6, ek_p1, c_8, ek_p5, c_10, ek_p3, eq_true c_12, eka, if_true, ↓reduceIte]; done) | rfl | (simp [sp_hung, ek4, c_2, ek_p0, c_4, ek_p2, c_6, ek_p1, c_8, ek_p5, c_10, ek_p3, eq_true c_12, eka, if_true]; done) | (exfalso; clear hR C; simp_all; done)) (by first | (simp only [sp_hung, ek4, c_2, ek_p0, c_4, ek_p2, c_6, ek_p1, c_8, ek_p5, c_10, ek_p3, eq_true c_12, eka, if_true, ↓reduceIte]; done) | rfl | (simp [sp_hung, ek4, c_2, ek_p0, c_4, ek_p2, c_6, ek_p1, c_8, ek_p5, c_10, ek_p3, eq_true c_12, eka, if_true]; done) | (exfalso; clear hR C; simp_all; done)) (by first | (simp only [sp_hung, ek4, c_2, ek_p0, c_4, ek_p2, c_6, ek_p1, c_8, ek_p5, c_10, ek_p3, eq_true c_12, eka, if_true, ↓reduceIte]; done) | rfl | (simp [sp_hung, ek4, c_2, ek_p0, c_4, ek_p2, c_6, ek_p1, c_8, ek_p5, c_10, ek_p3, eq_true c_12, eka, if_true]; done) | (exfalso; clear hR C; simp_all; done)) (by first | (simp only [sp_hung, ek4, c_2, ek_p0, c_4, ek_p2, c_6, ek_p1, c_8, ek_p5, c_10, ek_p3, eq_true c_12, eka, if_true, ↓reduceIte]; done) | rfl | (simp [sp_hung, ek4, c_2, ek_p0, c_4, ek_p2, c_6, ek_p1, c_8, ek_p5, c_10, ek_p3, eq_true c_12, eka, if_true]; done) | (exfalso; clear hR C; simp_all; done))
            · skip
              refine tv_aload_n C dX7_hung_77 rfl 1 rfl ?_
              refine tv_iload C dX7_hung_78 0 rfl ?_
              refine tv_calli (As := [.int (sp_ag s j_p2 p3 p4 3)]) (rest := []) (ci := 7) (cn := RX7) (T := TX7) (Nf := 7) C 0 (kX7_failed c (ts_s s 0 0) r  (sp_ag s j_p2 p3 p4 3) ) gX7_hung_X7_failed rfl yd_X7_failed ⟨rfl, rfl⟩ (by decide) (by decide) rfl rfl rfl rfl (Nat.le_of_ble_eq_true rfl) dX7_hung_80 (fun q_20 u_20 z_20 => ?_)
              obtain ⟨rfl, rfl⟩ := z_20
              show tv_V c 60 X (eX c (ts_s (ts_s s 0 0) 0 (sp_ag s j_p2 p3 p4 3)) r) 83 [(7, .int (sp_ag s j_p2 p3 p4 3)), (0, .ref (tv_ad c 0)), (1, .int p0), (2, .int p1), (3, .int p2), (4, .int p3), (5, .int p4), (6, .int p5)] [.int ((-10) - (sp_ag s j_p2 p3 p4 3))]
              refine tv_eqE (E' := (eX c (ts_s s 0 (sp_ag s j_p2 p3 p4 3)) r)) (congrArg (fun z => eX c z r) (by funext zz; rcases Classical.em (zz = 0) with hzz | h_0; (subst hzz; rfl); simp only [ts_s, ts_a, h_0, ↓reduceIte])) ?_
              show tv_V c 60 X (eX c (ts_s s 0 (sp_ag s j_p2 p3 p4 3)) r) 83 [(7, .int (sp_ag s j_p2 p3 p4 3)), (0, .ref (tv_ad c 0)), (1, .int p0), (2, .int p1), (3, .int p2), (4, .int p3), (5, .int p4), (6, .int p5)] [.int ((-10) - (sp_ag s j_p2 p3 p4 3))]
              exact hR _ _ _ _ dX7_hung_83 ⟨by first | (simp only [sp_hung, ek4, c_2, ek_p0, c_4, ek_p2, c_6, ek_p1, c_8, ek_p5, c_10, ek_p3, c_12, if_true, ↓reduceIte]; done) | rfl | (simp [sp_hung, ek4, c_2, ek_p0, c_4, ek_p2, c_6, ek_p1, c_8, ek_p5, c_10, ek_p3, c_12, if_true]; done) | (exfalso; clear hR C; simp_all; done), by first | (simp only [sp_hung, ek4, c_2, ek_p0, c_4, ek_p2, c_6, ek_p1, c_8, ek_p5, c_10, ek_p3, c_12, if_true, ts_ss, ts_aa, ↓reduceIte]; done) | rfl | (simp [sp_hung, ek4, c_2, ek_p0, c_4, ek_p2, c_6, ek_p1, c_8, ek_p5, c_10, ek_p3, c_12, if_true, ts_ss, ts_aa]; done) | (exfalso; clear hR C; simp_all; done)⟩
          · skip
            refine tv_bipush (v := (-2)) C dX7_hung_53 (by decide) ?_
            exact hR _ _ _ _ dX7_hung_55 ⟨by first | (simp only [sp_hung, ek4, c_2, ek_p0, c_4, ek_p2, c_6, ek_p1, c_8, ek_p5, eq_true c_10, if_true, ↓reduceIte]; done) | rfl | (simp [sp_hung, ek4, c_2, ek_p0, c_4, ek_p2, c_6, ek_p1, c_8, ek_p5, eq_true c_10, if_true]; done) | (exfalso; clear hR C; simp_all; done), by first | (simp only [sp_hung, ek4, c_2, ek_p0, c_4, ek_p2, c_6, ek_p1, c_8, ek_p5, eq_true c_10, if_true, ts_ss, ts_aa, ↓reduceIte]; done) | rfl | (simp [sp_hung, ek4, c_2, ek_p0, c_4, ek_p2, c_6, ek_p1, c_8, ek_p5, eq_true c_10, if_true, ts_ss, ts_aa]; done) | (exfalso; clear hR C; simp_all; done)⟩
    · skip
      refine tv_iconst (v := (-1)) C dX7_hung_23 (by decide) ?_
      exact hR _ _ _ _ dX7_hung_24 ⟨by first | (simp only [sp_hung, ek4, c_2, ek_p0, eq_true c_4, if_true, ↓reduceIte]; done) | rfl | (simp [sp_hung, ek4, c_2, ek_p0, eq_true c_4, if_true]; done) | (exfalso; clear hR C; simp_all; done), by first | (simp only [sp_hung, ek4, c_2, ek_p0, eq_true c_4, if_true, ts_ss, ts_aa, ↓reduceIte]; done) | rfl | (simp [sp_hung, ek4, c_2, ek_p0, eq_true c_4, if_true, ts_ss, ts_aa]; done) | (exfalso; clear hR C; simp_all; done)⟩
set_option maxHeartbeats 4000000 in
set_option maxRecDepth 100000 in
theorem kX7_old (c : tv_c) (s r : ts_T)  (p0 p1 p2 p3 p4 : Int32) (hI : iv s) : tv_Fl c 60 yX7_old wsX7_old { frames := 3, cells := 0, slots := 0, locals := 78 } [.ref (tv_ad c 0), .int p0, .int p1, .int p2, .int p3, .int p4] (eX c s r) ((sp_old s p0 p1 p2 p3 p4).1) (eX c (sp_old s p0 p1 p2 p3 p4).2 r) := by
  refine tv_metL (by decide +kernel) rfl rfl (Nat.le_of_ble_eq_true rfl) (fun X C hR => ?_)
  show tv_V c 60 X (eX c s r) 0 [(0, .ref (tv_ad c 0)), (1, .int p0), (2, .int p1), (3, .int p2), (4, .int p3), (5, .int p4)] []
  have hC := iv.hC hI
  obtain ⟨h, w, n, nk, nl, ny, nm, li, e2, e3, e9, hnw, hh, hw, hn, hz, hp, e7, hk, e8, hl, e4, hy, e5, hm, e6, hli, hcel, hkin, hban, hwei, hshe⟩ := id hI
  refine tv_aload_n C dX7_old_0 rfl 0 rfl ?_
  refine tv_iconst (v := 0) C dX7_old_1 (by decide) ?_
  refine tv_put (ci := 7) (Cn := RX7) (T := TX7) (Nf := 7) (ty := .int) (E' := (eX c (ts_s s 0 0) r)) C 0 (by decide) rfl rfl in_X7_old_X7 tyX7 tyX7_ok nmX7 6 (by decide) lk_X7_old_50 rfl (by decide +kernel) rfl rfl (Nat.le_of_ble_eq_true rfl) (eX_u_latestFault c s r 0) dX7_old_2 ?_
  refine tv_aload_n C dX7_old_5 rfl 0 rfl ?_
  refine tv_get (ci := 7) (Cn := RX7) (T := TX7) (Nf := 7) (v := .ref (tv_ad c 2)) C 0 (by decide) rfl rfl in_X7_old_X7 1 (by decide) lk_X7_old_20 rfl dX7_old_6 ?_
  refine tv_iload_n C dX7_old_9 rfl 1 rfl ?_
  refine tv_calli (As := [.int p0]) (rest := []) (ci := 6) (cn := RX6) (T := TX6) (Nf := 11) C 2 (kX6_hasCoat c (ts_s s 0 0) r  p0 ) gX7_old_X6_hasCoat rfl yd_X6_hasCoat ⟨rfl, rfl⟩ (by decide) (by decide) rfl rfl rfl rfl (Nat.le_of_ble_eq_true rfl) dX7_old_10 (fun q_1 u_1 z_1 => ?_)
  obtain ⟨rfl, rfl⟩ := z_1
  show tv_V c 60 X (eX c (ts_s s 0 0) r) 13 [(0, .ref (tv_ad c 0)), (1, .int p0), (2, .int p1), (3, .int p2), (4, .int p3), (5, .int p4)] [.int (sp_ix p0 (s 7 0))]
  refine tv_if_eq C 41 dX7_old_13 (by decide) (fun c_2 => ?_) (fun c_2 => ?_)
  · skip
    refine tv_ldc2 (v := (-9223372036854775808)) C wd_X7_old_k246 dX7_old_41 ?_
    exact hR _ _ _ _ dX7_old_44 ⟨by first | (simp only [sp_old, eq_true c_2, if_true, ↓reduceIte]; done) | rfl | (simp [sp_old, eq_true c_2, if_true]; done) | (exfalso; clear hR C; simp_all; done), by first | (simp only [sp_old, eq_true c_2, if_true, ts_ss, ts_aa, ↓reduceIte]; done) | rfl | (simp [sp_old, eq_true c_2, if_true, ts_ss, ts_aa]; done) | (exfalso; clear hR C; simp_all; done)⟩
  · skip
    obtain ⟨j_p0, hj_p0, ej_p0, ek_p0⟩ := in_ix e7 (by omega) c_2
    refine tv_iload_n C dX7_old_16 rfl 3 rfl ?_
    refine tv_callis (As := [.int p2]) (rest := []) C (kX7_isSheet c (ts_s s 0 0) r  p2 ) gX7_old_X7_isSheet rfl yd_X7_isSheet ⟨rfl, rfl⟩ (by decide) rfl rfl (Nat.le_of_ble_eq_true rfl) dX7_old_17 (fun q_3 u_3 z_3 => ?_)
    obtain ⟨rfl, rfl⟩ := z_3
    show tv_V c 60 X (eX c (ts_s s 0 0) r) 20 [(0, .ref (tv_ad c 0)), (1, .int p0), (2, .int p1), (3, .int p2), (4, .int p3), (5, .int p4)] [.int (sp_in p2 0 3)]
    refine tv_if_eq C 41 dX7_old_20 (by decide) (fun c_4 => ?_) (fun c_4 => ?_)
    · skip
      refine tv_ldc2 (v := (-9223372036854775808)) C wd_X7_old_k246 dX7_old_41 ?_
      exact hR _ _ _ _ dX7_old_44 ⟨by first | (simp only [sp_old, c_2, ek_p0, eq_true c_4, if_true, ↓reduceIte]; done) | rfl | (simp [sp_old, c_2, ek_p0, eq_true c_4, if_true]; done) | (exfalso; clear hR C; simp_all; done), by first | (simp only [sp_old, c_2, ek_p0, eq_true c_4, if_true, ts_ss, ts_aa, ↓reduceIte]; done) | rfl | (simp [sp_old, c_2, ek_p0, eq_true c_4, if_true, ts_ss, ts_aa]; done) | (exfalso; clear hR C; simp_all; done)⟩
    · skip
      obtain ⟨j_p2, hj_p2, ej_p2, ek_p2⟩ := in_in (b := 3) (by decide) c_4
      refine tv_iload_n C dX7_old_23 rfl 2 rfl ?_
      refine tv_iconst (v := 0) C dX7_old_24 (by decide) ?_
      refine tv_bipush (v := 9) C dX7_old_25 (by decide) ?_
      refine tv_callis (As := [.int p1, .int 0, .int 9]) (rest := []) C (kX7_isWithin c (ts_s s 0 0) r  p1 0 9 ) gX7_old_X7_isWithin rfl yd_X7_isWithin ⟨rfl, rfl⟩ (by decide) rfl rfl (Nat.le_of_ble_eq_true rfl) dX7_old_27 (fun q_5 u_5 z_5 => ?_)
      obtain ⟨rfl, rfl⟩ := z_5
      show tv_V c 60 X (eX c (ts_s s 0 0) r) 30 [(0, .ref (tv_ad c 0)), (1, .int p0), (2, .int p1), (3, .int p2), (4, .int p3), (5, .int p4)] [.int (sp_in p1 0 9)]
      refine tv_if_eq C 41 dX7_old_30 (by decide) (fun c_6 => ?_) (fun c_6 => ?_)
      · skip
        refine tv_ldc2 (v := (-9223372036854775808)) C wd_X7_old_k246 dX7_old_41 ?_
        exact hR _ _ _ _ dX7_old_44 ⟨by first | (simp only [sp_old, c_2, ek_p0, c_4, ek_p2, eq_true c_6, if_true, ↓reduceIte]; done) | rfl | (simp [sp_old, c_2, ek_p0, c_4, ek_p2, eq_true c_6, if_true]; done) | (exfalso; clear hR C; simp_all; done), by first | (simp only [sp_old, c_2, ek_p0, c_4, ek_p2, eq_true c_6, if_true, ts_ss, ts_aa, ↓reduceIte]; done) | rfl | (simp [sp_old, c_2, ek_p0, c_4, ek_p2, eq_true c_6, if_true, ts_ss, ts_aa]; done) | (exfalso; clear hR C; simp_all; done)⟩
      · skip
        obtain ⟨j_p1, hj_p1, ej_p1, ek_p1⟩ := in_in (b := 9) (by decide) c_6
        refine tv_iload C dX7_old_33 4 rfl ?_
        refine tv_callis (As := [.int p3]) (rest := []) C (kX7_isSort c (ts_s s 0 0) r  p3 ) gX7_old_X7_isSort rfl yd_X7_isSort ⟨rfl, rfl⟩ (by decide) rfl rfl (Nat.le_of_ble_eq_true rfl) dX7_old_35 (fun q_7 u_7 z_7 => ?_)
        obtain ⟨rfl, rfl⟩ := z_7
        show tv_V c 60 X (eX c (ts_s s 0 0) r) 38 [(0, .ref (tv_ad c 0)), (1, .int p0), (2, .int p1), (3, .int p2), (4, .int p3), (5, .int p4)] [.int (sp_in p3 0 2)]
        refine tv_if_ne C 45 dX7_old_38 (by decide) (fun c_8 => ?_) (fun c_8 => ?_)
        · skip
          obtain ⟨j_p3, hj_p3, ej_p3, ek_p3⟩ := in_in (b := 2) (by decide) c_8
          refine tv_aload_n C dX7_old_45 rfl 0 rfl ?_
          refine tv_get (ci := 7) (Cn := RX7) (T := TX7) (Nf := 7) (v := .ref (tv_ad c 1)) C 0 (by decide) rfl rfl in_X7_old_X7 0 (by decide) lk_X7_old_13 rfl dX7_old_46 ?_
          refine tv_iload_n C dX7_old_49 rfl 3 rfl ?_
          refine tv_aald (Cn := RX5) (a := tv_ad c (16 + j_p2)) C 1 (by decide) rfl 2 rfl j_p2 ej_p2 (show j_p2 < 4 by omega) (by decide) rfl dX7_old_50 ?_
          refine tv_iload C dX7_old_51 4 rfl ?_
          refine tv_iload C dX7_old_53 5 rfl ?_
          refine tv_iconst (v := 3) C dX7_old_55 (by decide) ?_
          refine tv_calli (As := [.int p3, .int p4, .int 3]) (rest := []) (ci := 5) (cn := RX5) (T := TX5) (Nf := 4) C (16 + j_p2) (kX5_faultOfCells c (ts_s s 0 0) r j_p2 p3 p4 3 (show j_p2 < 4 by omega)) gX7_old_X5_faultOfCells rfl yd_X5_faultOfCells ⟨rfl, rfl⟩ (by decide) (by omega) (eX_at_s c (ts_s s 0 0) r (by omega)) rfl rfl rfl (Nat.le_of_ble_eq_true rfl) dX7_old_56 (fun q_9 u_9 z_9 => ?_)
          obtain ⟨rfl, rfl⟩ := z_9
          rw [fc_ag3]
          show tv_V c 60 X (eX c (ts_s s 0 0) r) 59 [(0, .ref (tv_ad c 0)), (1, .int p0), (2, .int p1), (3, .int p2), (4, .int p3), (5, .int p4)] [.int (sp_ag s j_p2 p3 p4 3)]
          refine tv_istore (lv' := [(6, .int (sp_ag s j_p2 p3 p4 3)), (0, .ref (tv_ad c 0)), (1, .int p0), (2, .int p1), (3, .int p2), (4, .int p3), (5, .int p4)]) C dX7_old_59 (by decide) rfl ?_
          refine tv_iload C dX7_old_61 0 rfl ?_
          refine tv_if_eq C 77 dX7_old_63 (by decide) (fun c_10 => ?_) (fun c_10 => ?_)
          · skip
            obtain ⟨a, b3, L, ea, eb, eL, hL, hab, eka, ekb⟩ := sp_ag_z (hshe j_p2 (by omega)) c_10
            have hb3 : b3 = 3 := by rw [← ekb]; rfl
            refine tv_lconst (v := 0) C dX7_old_77 (by decide) ?_
            refine tv_lstore (lv' := [(7, .long 0), (6, .int (sp_ag s j_p2 p3 p4 3)), (0, .ref (tv_ad c 0)), (1, .int p0), (2, .int p1), (3, .int p2), (4, .int p3), (5, .int p4)]) C dX7_old_78 (by decide) rfl ?_
            refine tv_iconst (v := 0) C dX7_old_80 (by decide) ?_
            refine tv_istore (lv' := [(9, .int 0), (7, .long 0), (6, .int (sp_ag s j_p2 p3 p4 3)), (0, .ref (tv_ad c 0)), (1, .int p0), (2, .int p1), (3, .int p2), (4, .int p3), (5, .int p4)]) C dX7_old_81 (by decide) rfl ?_
            have hL83 : ∀ (k_83 i : Nat) (x_83_7 : Int64) (x_83_9 : Int32), i + k_83 = 41 → x_83_7 = (sp_od (fun y => sp_so s j_p0 p1 (nI y) (40 * j_p2 + a)) i) → x_83_9 = (nI i) → tv_V c 60 X (eX c (ts_s s 0 0) r) 83 [(0, .ref (tv_ad c 0)), (1, .int p0), (2, .int p1), (3, .int p2), (4, .int p3), (5, .int p4), (6, .int (sp_ag s j_p2 p3 p4 3)), (7, .long x_83_7), (9, .int x_83_9)] [] := by
              intro k_83
              induction k_83 with
              | zero =>
                intro i x_83_7 x_83_9 hi83  ex_83_7 ex_83_9
                subst ex_83_7
                subst ex_83_9
                have hN83 : i = 41 := by omega
                refine tv_iload C dX7_old_83 8 rfl ?_
                refine tv_bipush (v := 40) C dX7_old_85 (by decide) ?_
                refine tv_icmp_gt C 119 dX7_old_87 (by decide) (fun c_11 => ?_) (fun c_11 => absurd (tn_lt (tn_l 40) (rfl : nI i = nI i) (by omega) (by omega)) c_11)
                refine tv_lload C dX7_old_119 7 rfl ?_
                exact hR _ _ _ _ dX7_old_121 ⟨by first | (simp only [sp_old, c_2, ek_p0, c_4, ek_p2, c_6, ek_p1, c_8, ek_p3, eq_true c_10, eka, hN83, c_11, if_true, ↓reduceIte]; done) | rfl | (simp [sp_old, c_2, ek_p0, c_4, ek_p2, c_6, ek_p1, c_8, ek_p3, eq_true c_10, eka, hN83, c_11, if_true]; done) | (exfalso; clear hR C; simp_all; done), by first | (simp only [sp_old, c_2, ek_p0, c_4, ek_p2, c_6, ek_p1, c_8, ek_p3, eq_true c_10, eka, hN83, c_11, if_true, ts_ss, ts_aa, ↓reduceIte]; done) | rfl | (simp [sp_old, c_2, ek_p0, c_4, ek_p2, c_6, ek_p1, c_8, ek_p3, eq_true c_10, eka, hN83, c_11, if_true, ts_ss, ts_aa]; done) | (exfalso; clear hR C; simp_all; done)⟩
              | succ k_83 ih83 =>
                intro i x_83_7 x_83_9 hi83  ex_83_7 ex_83_9
                subst ex_83_7
                subst ex_83_9
                have hN83 : i < 41 := by omega
                refine tv_iload C dX7_old_83 8 rfl ?_
                refine tv_bipush (v := 40) C dX7_old_85 (by decide) ?_
                refine tv_icmp_gt C 119 dX7_old_87 (by decide) (fun c_12 => absurd c_12 (tn_nlt (tn_l 40) (rfl : nI i = nI i) (by omega) (by omega))) (fun c_12 => ?_)
                refine tv_aload_n C dX7_old_90 rfl 0 rfl ?_
                refine tv_iload_n C dX7_old_91 rfl 1 rfl ?_
                refine tv_iload_n C dX7_old_92 rfl 2 rfl ?_
                refine tv_iload C dX7_old_93 8 rfl ?_
                refine tv_iload_n C dX7_old_95 rfl 3 rfl ?_
                refine tv_iload C dX7_old_96 5 rfl ?_
                refine tv_calli (As := [.int p0, .int p1, .int (nI i), .int p2, .int p4]) (rest := []) (ci := 7) (cn := RX7) (T := TX7) (Nf := 7) C 0 (kX7_isAsTold c (ts_s s 0 0) r j_p0 j_p2 a p0 p1 (nI i) p2 p4 ej_p0 (by omega) ej_p2 (by omega) ea (by omega) (fun b hb => by rw [cp_v6 (show j_p0 < 6 by omega)]; exact hban _ (by omega)) ((tn_b.mul (⟨j_p1, hj_p1, ej_p1⟩ : tn_b p1 9) (⟨i, by omega, rfl⟩ : tn_b (nI i) 40)).mono (by decide)) ⟨i, by omega, rfl⟩ ⟨nm, hm, e5⟩) gX7_old_X7_isAsTold rfl yd_X7_isAsTold ⟨rfl, rfl⟩ (by decide) (by decide) rfl rfl rfl rfl (Nat.le_of_ble_eq_true rfl) dX7_old_98 (fun q_13 u_13 z_13 => ?_)
                obtain ⟨rfl, rfl⟩ := z_13
                show tv_V c 60 X (eX c (ts_s s 0 0) r) 101 [(0, .ref (tv_ad c 0)), (1, .int p0), (2, .int p1), (3, .int p2), (4, .int p3), (5, .int p4), (6, .int (sp_ag s j_p2 p3 p4 3)), (7, .long (sp_od (fun y => sp_so s j_p0 p1 (nI y) (40 * j_p2 + a)) i)), (9, .int (nI i))] [.int (sp_so s j_p0 p1 (nI i) (40 * j_p2 + a))]
                refine tv_if_eq C 113 dX7_old_101 (by decide) (fun c_14 => ?_) (fun c_14 => ?_)
                · skip
                  refine tv_iinc (v := ((nI i) + 1)) (lv' := [(9, .int ((nI i) + 1)), (0, .ref (tv_ad c 0)), (1, .int p0), (2, .int p1), (3, .int p2), (4, .int p3), (5, .int p4), (6, .int (sp_ag s j_p2 p3 p4 3)), (7, .long (sp_od (fun y => sp_so s j_p0 p1 (nI y) (40 * j_p2 + a)) i))]) C dX7_old_113 8 rfl rfl (by decide) rfl ?_
                  refine tv_goto C 83 dX7_old_116 (by decide) ?_
                  refine tv_lsub [1, 2, 3, 4, 5, 6, 7, 8, 0] rfl ?_
                  exact ih83 (i + 1) _ _ (by omega)  (by simp only [sp_od, c_2, ek_p0, c_4, ek_p2, c_6, ek_p1, c_8, ek_p3, eq_true c_10, eka, c_12, eq_true c_14, ↓reduceIte]) (by first | rfl | exact nI_1 _ | (simp only [sp_old, c_2, ek_p0, c_4, ek_p2, c_6, ek_p1, c_8, ek_p3, eq_true c_10, eka, c_12, eq_true c_14, if_true, ↓reduceIte]; done) | (simp [sp_old, c_2, ek_p0, c_4, ek_p2, c_6, ek_p1, c_8, ek_p3, eq_true c_10, eka, c_12, eq_true c_14, if_true]; done) | (exfalso; clear hR C; simp_all; done))
                · skip
                  refine tv_lload C dX7_old_104 7 rfl ?_
                  refine tv_lconst (v := 1) C dX7_old_106 (by decide) ?_
                  refine tv_iload C dX7_old_107 8 rfl ?_
                  refine tv_lshl C dX7_old_109 ?_
                  refine tv_lor C dX7_old_110 ?_
                  refine tv_lstore (lv' := [(7, .long ((sp_od (fun y => sp_so s j_p0 p1 (nI y) (40 * j_p2 + a)) i) ||| ((1 : Int64) <<< ((nI i).toInt64 &&& 63)))), (0, .ref (tv_ad c 0)), (1, .int p0), (2, .int p1), (3, .int p2), (4, .int p3), (5, .int p4), (6, .int (sp_ag s j_p2 p3 p4 3)), (9, .int (nI i))]) C dX7_old_111 (by decide) rfl ?_
                  refine tv_iinc (v := ((nI i) + 1)) (lv' := [(9, .int ((nI i) + 1)), (7, .long ((sp_od (fun y => sp_so s j_p0 p1 (nI y) (40 * j_p2 + a)) i) ||| ((1 : Int64) <<< ((nI i).toInt64 &&& 63)))), (0, .ref (tv_ad c 0)), (1, .int p0), (2, .int p1), (3, .int p2), (4, .int p3), (5, .int p4), (6, .int (sp_ag s j_p2 p3 p4 3))]) C dX7_old_113 8 rfl rfl (by decide) rfl ?_
                  refine tv_goto C 83 dX7_old_116 (by decide) ?_
                  refine tv_lsub [2, 3, 4, 5, 6, 7, 8, 1, 0] rfl ?_
                  exact ih83 (i + 1) _ _ (by omega)  (by simp only [sp_od, c_2, ek_p0, c_4, ek_p2, c_6, ek_p1, c_8, ek_p3, eq_true c_10, eka, c_12, c_14, ↓reduceIte]) (by first | rfl | exact nI_1 _ | (simp only [sp_old, c_2, ek_p0, c_4, ek_p2, c_6, ek_p1, c_8, ek_p3, eq_true c_10, eka, c_12, c_14, if_true, ↓reduceIte]; done) | (simp [sp_old, c_2, ek_p0, c_4, ek_p2, c_6, ek_p1, c_8, ek_p3, eq_true c_10, eka, c_12, c_14, if_true]; done) | (exfalso; clear hR C; simp_all; done))
            refine tv_lsub [3, 4, 5, 6, 7, 8, 2, 1, 0] rfl ?_
            exact hL83 (41 - 0) 0 _ _ (by omega)  (by first | (simp only [sp_old, c_2, ek_p0, c_4, ek_p2, c_6, ek_p1, c_8, ek_p3, eq_true c_10, eka, if_true, ↓reduceIte]; done) | rfl | (simp [sp_old, c_2, ek_p0, c_4, ek_p2, c_6, ek_p1, c_8, ek_p3, eq_true c_10, eka, if_true]; done) | (exfalso; clear hR C; simp_all; done)) (by first | (simp only [sp_old, c_2, ek_p0, c_4, ek_p2, c_6, ek_p1, c_8, ek_p3, eq_true c_10, eka, if_true, ↓reduceIte]; done) | rfl | (simp [sp_old, c_2, ek_p0, c_4, ek_p2, c_6, ek_p1, c_8, ek_p3, eq_true c_10, eka, if_true]; done) | (exfalso; clear hR C; simp_all; done))
          · skip
            refine tv_aload_n C dX7_old_66 rfl 1 rfl ?_
            refine tv_iload C dX7_old_67 0 rfl ?_
            refine tv_calli (As := [.int (sp_ag s j_p2 p3 p4 3)]) (rest := []) (ci := 7) (cn := RX7) (T := TX7) (Nf := 7) C 0 (kX7_failed c (ts_s s 0 0) r  (sp_ag s j_p2 p3 p4 3) ) gX7_old_X7_failed rfl yd_X7_failed ⟨rfl, rfl⟩ (by decide) (by decide) rfl rfl rfl rfl (Nat.le_of_ble_eq_true rfl) dX7_old_69 (fun q_15 u_15 z_15 => ?_)
            obtain ⟨rfl, rfl⟩ := z_15
            show tv_V c 60 X (eX c (ts_s (ts_s s 0 0) 0 (sp_ag s j_p2 p3 p4 3)) r) 72 [(6, .int (sp_ag s j_p2 p3 p4 3)), (0, .ref (tv_ad c 0)), (1, .int p0), (2, .int p1), (3, .int p2), (4, .int p3), (5, .int p4)] [.int ((-10) - (sp_ag s j_p2 p3 p4 3))]
            refine tv_eqE (E' := (eX c (ts_s s 0 (sp_ag s j_p2 p3 p4 3)) r)) (congrArg (fun z => eX c z r) (by funext zz; rcases Classical.em (zz = 0) with hzz | h_0; (subst hzz; rfl); simp only [ts_s, ts_a, h_0, ↓reduceIte])) ?_
            show tv_V c 60 X (eX c (ts_s s 0 (sp_ag s j_p2 p3 p4 3)) r) 72 [(6, .int (sp_ag s j_p2 p3 p4 3)), (0, .ref (tv_ad c 0)), (1, .int p0), (2, .int p1), (3, .int p2), (4, .int p3), (5, .int p4)] [.int ((-10) - (sp_ag s j_p2 p3 p4 3))]
            refine tv_pop C dX7_old_72 rfl ?_
            refine tv_ldc2 (v := (-9223372036854775808)) C wd_X7_old_k246 dX7_old_73 ?_
            exact hR _ _ _ _ dX7_old_76 ⟨by first | (simp only [sp_old, c_2, ek_p0, c_4, ek_p2, c_6, ek_p1, c_8, ek_p3, c_10, if_true, ↓reduceIte]; done) | rfl | (simp [sp_old, c_2, ek_p0, c_4, ek_p2, c_6, ek_p1, c_8, ek_p3, c_10, if_true]; done) | (exfalso; clear hR C; simp_all; done), by first | (simp only [sp_old, c_2, ek_p0, c_4, ek_p2, c_6, ek_p1, c_8, ek_p3, c_10, if_true, ts_ss, ts_aa, ↓reduceIte]; done) | rfl | (simp [sp_old, c_2, ek_p0, c_4, ek_p2, c_6, ek_p1, c_8, ek_p3, c_10, if_true, ts_ss, ts_aa]; done) | (exfalso; clear hR C; simp_all; done)⟩
        · skip
          refine tv_ldc2 (v := (-9223372036854775808)) C wd_X7_old_k246 dX7_old_41 ?_
          exact hR _ _ _ _ dX7_old_44 ⟨by first | (simp only [sp_old, c_2, ek_p0, c_4, ek_p2, c_6, ek_p1, eq_true c_8, if_true, ↓reduceIte]; done) | rfl | (simp [sp_old, c_2, ek_p0, c_4, ek_p2, c_6, ek_p1, eq_true c_8, if_true]; done) | (exfalso; clear hR C; simp_all; done), by first | (simp only [sp_old, c_2, ek_p0, c_4, ek_p2, c_6, ek_p1, eq_true c_8, if_true, ts_ss, ts_aa, ↓reduceIte]; done) | rfl | (simp [sp_old, c_2, ek_p0, c_4, ek_p2, c_6, ek_p1, eq_true c_8, if_true, ts_ss, ts_aa]; done) | (exfalso; clear hR C; simp_all; done)⟩
set_option maxHeartbeats 4000000 in
set_option maxRecDepth 100000 in
theorem kX7_traitors (c : tv_c) (s r : ts_T)  (p0 p1 p2 : Int32) (hI : iv s) : tv_Fi c 60 yX7_traitors wsX7_traitors { frames := 5, cells := 0, slots := 0, locals := 125 } [.ref (tv_ad c 0), .int p0, .int p1, .int p2] (eX c s r) (sp_traitors s p0 p1 p2) (eX c s r) := by
  refine tv_metI (by decide +kernel) rfl rfl (Nat.le_of_ble_eq_true rfl) (fun X C hR => ?_)
  show tv_V c 60 X (eX c s r) 0 [(0, .ref (tv_ad c 0)), (1, .int p0), (2, .int p1), (3, .int p2)] []
  have hC := iv.hC hI
  obtain ⟨h, w, n, nk, nl, ny, nm, li, e2, e3, e9, hnw, hh, hw, hn, hz, hp, e7, hk, e8, hl, e4, hy, e5, hm, e6, hli, hcel, hkin, hban, hwei, hshe⟩ := id hI
  have ek7 := tk_e e7 (by omega)
  refine tv_aload_n C dX7_traitors_0 rfl 0 rfl ?_
  refine tv_get (ci := 7) (Cn := RX7) (T := TX7) (Nf := 7) (v := .ref (tv_ad c 2)) C 0 (by decide) rfl rfl in_X7_traitors_X7 1 (by decide) lk_X7_traitors_20 rfl dX7_traitors_1 ?_
  refine tv_iload_n C dX7_traitors_4 rfl 1 rfl ?_
  refine tv_calli (As := [.int p0]) (rest := []) (ci := 6) (cn := RX6) (T := TX6) (Nf := 11) C 2 (kX6_hasLight c s r  p0 ) gX7_traitors_X6_hasLight rfl yd_X6_hasLight ⟨rfl, rfl⟩ (by decide) (by decide) rfl rfl rfl rfl (Nat.le_of_ble_eq_true rfl) dX7_traitors_5 (fun q_1 u_1 z_1 => ?_)
  obtain ⟨rfl, rfl⟩ := z_1
  refine tv_if_eq C 27 dX7_traitors_8 (by decide) (fun c_2 => ?_) (fun c_2 => ?_)
  · skip
    refine tv_iconst (v := (-1)) C dX7_traitors_27 (by decide) ?_
    exact hR _ _ _ _ dX7_traitors_28 ⟨by first | (simp only [sp_traitors, ek7, eq_true c_2, if_true, ↓reduceIte]; done) | rfl | (simp [sp_traitors, ek7, eq_true c_2, if_true]; done) | (exfalso; clear hR C; simp_all; done), by first | (simp only [sp_traitors, ek7, eq_true c_2, if_true, ts_ss, ts_aa, ↓reduceIte]; done) | rfl | (simp [sp_traitors, ek7, eq_true c_2, if_true, ts_ss, ts_aa]; done) | (exfalso; clear hR C; simp_all; done)⟩
  · skip
    obtain ⟨j_p0, hj_p0, ej_p0, ek_p0⟩ := in_ix e8 (by omega) c_2
    refine tv_aload_n C dX7_traitors_11 rfl 0 rfl ?_
    refine tv_get (ci := 7) (Cn := RX7) (T := TX7) (Nf := 7) (v := .ref (tv_ad c 2)) C 0 (by decide) rfl rfl in_X7_traitors_X7 1 (by decide) lk_X7_traitors_20 rfl dX7_traitors_12 ?_
    refine tv_iload_n C dX7_traitors_15 rfl 2 rfl ?_
    refine tv_calli (As := [.int p1]) (rest := []) (ci := 6) (cn := RX6) (T := TX6) (Nf := 11) C 2 (kX6_hasLight c s r  p1 ) gX7_traitors_X6_hasLight rfl yd_X6_hasLight ⟨rfl, rfl⟩ (by decide) (by decide) rfl rfl rfl rfl (Nat.le_of_ble_eq_true rfl) dX7_traitors_16 (fun q_3 u_3 z_3 => ?_)
    obtain ⟨rfl, rfl⟩ := z_3
    refine tv_if_eq C 27 dX7_traitors_19 (by decide) (fun c_4 => ?_) (fun c_4 => ?_)
    · skip
      refine tv_iconst (v := (-1)) C dX7_traitors_27 (by decide) ?_
      exact hR _ _ _ _ dX7_traitors_28 ⟨by first | (simp only [sp_traitors, ek7, c_2, ek_p0, eq_true c_4, if_true, ↓reduceIte]; done) | rfl | (simp [sp_traitors, ek7, c_2, ek_p0, eq_true c_4, if_true]; done) | (exfalso; clear hR C; simp_all; done), by first | (simp only [sp_traitors, ek7, c_2, ek_p0, eq_true c_4, if_true, ts_ss, ts_aa, ↓reduceIte]; done) | rfl | (simp [sp_traitors, ek7, c_2, ek_p0, eq_true c_4, if_true, ts_ss, ts_aa]; done) | (exfalso; clear hR C; simp_all; done)⟩
    · skip
      obtain ⟨j_p1, hj_p1, ej_p1, ek_p1⟩ := in_ix e8 (by omega) c_4
      refine tv_iload_n C dX7_traitors_22 rfl 3 rfl ?_
      refine tv_iconst (v := (-1)) C dX7_traitors_23 (by decide) ?_
      refine tv_icmp_ge C 29 dX7_traitors_24 (by decide) (fun c_5 => ?_) (fun c_5 => ?_)
      · skip
        refine tv_iconst (v := 0) C dX7_traitors_29 (by decide) ?_
        refine tv_istore (lv' := [(4, .int 0), (0, .ref (tv_ad c 0)), (1, .int p0), (2, .int p1), (3, .int p2)]) C dX7_traitors_30 (by decide) rfl ?_
        refine tv_iconst (v := 0) C dX7_traitors_32 (by decide) ?_
        refine tv_istore (lv' := [(5, .int 0), (4, .int 0), (0, .ref (tv_ad c 0)), (1, .int p0), (2, .int p1), (3, .int p2)]) C dX7_traitors_33 (by decide) rfl ?_
        have hL35 : ∀ (k_35 i : Nat) (x_35_4 : Int32) (x_35_5 : Int32), i + k_35 = nk → (sp_to s j_p0 j_p1 p2 nk nk 0 0 = sp_to s j_p0 j_p1 p2 nk (nk - i) i x_35_4) → x_35_5 = (nI i) → tv_V c 60 X (eX c s r) 35 [(0, .ref (tv_ad c 0)), (1, .int p0), (2, .int p1), (3, .int p2), (4, .int x_35_4), (5, .int x_35_5)] [] := by
          intro k_35
          induction k_35 with
          | zero =>
            intro i x_35_4 x_35_5 hi35 q1 ex_35_5
            subst ex_35_5
            have hN35 : i = nk := by omega
            refine tv_iload C dX7_traitors_35 5 rfl ?_
            refine tv_aload_n C dX7_traitors_37 rfl 0 rfl ?_
            refine tv_get (ci := 7) (Cn := RX7) (T := TX7) (Nf := 7) (v := .ref (tv_ad c 2)) C 0 (by decide) rfl rfl in_X7_traitors_X7 1 (by decide) lk_X7_traitors_20 rfl dX7_traitors_38 ?_
            refine tv_get (ci := 6) (Cn := RX6) (T := TX6) (Nf := 11) (v := .int (s 7 0)) C 2 (by decide) rfl rfl in_X7_traitors_X6 6 (by decide) lk_X7_traitors_136 rfl dX7_traitors_41 ?_
            refine tv_icmp_ge C 111 dX7_traitors_44 (by decide) (fun c_6 => ?_) (fun c_6 => absurd (tn_le e7 (rfl : nI i = nI i) (by omega) (by omega)) c_6)
            refine tv_iload_n C dX7_traitors_111 rfl 3 rfl ?_
            refine tv_iconst (v := (-1)) C dX7_traitors_112 (by decide) ?_
            refine tv_icmp_ne C 121 dX7_traitors_113 (by decide) (fun c_7 => ?_) (fun c_7 => ?_)
            · skip
              refine tv_bipush (v := (-9)) C dX7_traitors_121 (by decide) ?_
              exact hR _ _ _ _ dX7_traitors_123 ⟨by rw [hN35, Nat.sub_self] at q1; simp only [sp_traitors, ek7, c_2, ek_p0, c_4, ek_p1, c_5, tn_d_le c_5, c_6, c_7, ↓reduceIte, q1, sp_to], by first | (simp only [sp_traitors, ek7, c_2, ek_p0, c_4, ek_p1, c_5, tn_d_le c_5, q1, c_6, c_7, if_true, ts_ss, ts_aa, ↓reduceIte]; done) | rfl | (simp [sp_traitors, ek7, c_2, ek_p0, c_4, ek_p1, c_5, tn_d_le c_5, q1, c_6, c_7, if_true, ts_ss, ts_aa]; done) | (exfalso; clear hR C; simp_all; done)⟩
            · skip
              refine tv_iload C dX7_traitors_116 4 rfl ?_
              refine tv_goto C 123 dX7_traitors_118 (by decide) ?_
              exact hR _ _ _ _ dX7_traitors_123 ⟨by rw [hN35, Nat.sub_self] at q1; simp only [sp_traitors, ek7, c_2, ek_p0, c_4, ek_p1, c_5, tn_d_le c_5, c_6, eq_true c_7, ↓reduceIte, q1, sp_to], by first | (simp only [sp_traitors, ek7, c_2, ek_p0, c_4, ek_p1, c_5, tn_d_le c_5, q1, c_6, eq_true c_7, if_true, ts_ss, ts_aa, ↓reduceIte]; done) | rfl | (simp [sp_traitors, ek7, c_2, ek_p0, c_4, ek_p1, c_5, tn_d_le c_5, q1, c_6, eq_true c_7, if_true, ts_ss, ts_aa]; done) | (exfalso; clear hR C; simp_all; done)⟩
          | succ k_35 ih35 =>
            intro i x_35_4 x_35_5 hi35 q1 ex_35_5
            subst ex_35_5
            have hN35 : i < nk := by omega
            refine tv_iload C dX7_traitors_35 5 rfl ?_
            refine tv_aload_n C dX7_traitors_37 rfl 0 rfl ?_
            refine tv_get (ci := 7) (Cn := RX7) (T := TX7) (Nf := 7) (v := .ref (tv_ad c 2)) C 0 (by decide) rfl rfl in_X7_traitors_X7 1 (by decide) lk_X7_traitors_20 rfl dX7_traitors_38 ?_
            refine tv_get (ci := 6) (Cn := RX6) (T := TX6) (Nf := 11) (v := .int (s 7 0)) C 2 (by decide) rfl rfl in_X7_traitors_X6 6 (by decide) lk_X7_traitors_136 rfl dX7_traitors_41 ?_
            refine tv_icmp_ge C 111 dX7_traitors_44 (by decide) (fun c_8 => absurd c_8 (tn_nle e7 (rfl : nI i = nI i) (by omega) (by omega))) (fun c_8 => ?_)
            refine tv_iload C dX7_traitors_47 5 rfl ?_
            refine tv_iconst (v := 1) C dX7_traitors_49 (by decide) ?_
            refine tv_iadd C dX7_traitors_50 ?_
            refine tv_istore (lv' := [(6, .int ((nI i) + 1)), (0, .ref (tv_ad c 0)), (1, .int p0), (2, .int p1), (3, .int p2), (4, .int x_35_4), (5, .int (nI i))]) C dX7_traitors_51 (by decide) rfl ?_
            have hL53 : ∀ (k_53 m : Nat) (x_53_4 : Int32) (x_53_6 : Int32), m + k_53 = nk → (sp_to s j_p0 j_p1 p2 nk nk 0 0 = (match sp_ti s j_p0 j_p1 p2 i (nk - m) m x_53_4 with | .inl v => .inl v | .inr y => sp_to s j_p0 j_p1 p2 nk (nk - (i + 1)) (i + 1) y)) → x_53_6 = (nI m) → tv_V c 60 X (eX c s r) 53 [(0, .ref (tv_ad c 0)), (1, .int p0), (2, .int p1), (3, .int p2), (4, .int x_53_4), (5, .int (nI i)), (6, .int x_53_6)] [] := by
              intro k_53
              induction k_53 with
              | zero =>
                intro m x_53_4 x_53_6 hi53 q2 ex_53_6
                subst ex_53_6
                have hN53 : m = nk := by omega
                refine tv_iload C dX7_traitors_53 6 rfl ?_
                refine tv_aload_n C dX7_traitors_55 rfl 0 rfl ?_
                refine tv_get (ci := 7) (Cn := RX7) (T := TX7) (Nf := 7) (v := .ref (tv_ad c 2)) C 0 (by decide) rfl rfl in_X7_traitors_X7 1 (by decide) lk_X7_traitors_20 rfl dX7_traitors_56 ?_
                refine tv_get (ci := 6) (Cn := RX6) (T := TX6) (Nf := 11) (v := .int (s 7 0)) C 2 (by decide) rfl rfl in_X7_traitors_X6 6 (by decide) lk_X7_traitors_136 rfl dX7_traitors_59 ?_
                refine tv_icmp_ge C 105 dX7_traitors_62 (by decide) (fun c_9 => ?_) (fun c_9 => absurd (tn_le e7 (rfl : nI m = nI m) (by omega) (by omega)) c_9)
                refine tv_iinc (v := ((nI i) + 1)) (lv' := [(5, .int ((nI i) + 1)), (0, .ref (tv_ad c 0)), (1, .int p0), (2, .int p1), (3, .int p2), (4, .int x_53_4), (6, .int (nI m))]) C dX7_traitors_105 5 rfl rfl (by decide) rfl ?_
                refine tv_goto C 35 dX7_traitors_108 (by decide) ?_
                refine tv_lsub [1, 2, 3, 4, 5, 0] rfl ?_
                exact ih35 (i + 1) x_53_4 _ (by omega) (by rw [q2, hN53, Nat.sub_self]; rfl) (by first | rfl | exact nI_1 _ | (simp only [sp_traitors, ek7, c_2, ek_p0, c_4, ek_p1, c_5, tn_d_le c_5, q1, c_8, q2, c_9, if_true, ↓reduceIte]; done) | (simp [sp_traitors, ek7, c_2, ek_p0, c_4, ek_p1, c_5, tn_d_le c_5, q1, c_8, q2, c_9, if_true]; done) | (exfalso; clear hR C; simp_all; done))
              | succ k_53 ih53 =>
                intro m x_53_4 x_53_6 hi53 q2 ex_53_6
                subst ex_53_6
                have hN53 : m < nk := by omega
                refine tv_iload C dX7_traitors_53 6 rfl ?_
                refine tv_aload_n C dX7_traitors_55 rfl 0 rfl ?_
                refine tv_get (ci := 7) (Cn := RX7) (T := TX7) (Nf := 7) (v := .ref (tv_ad c 2)) C 0 (by decide) rfl rfl in_X7_traitors_X7 1 (by decide) lk_X7_traitors_20 rfl dX7_traitors_56 ?_
                refine tv_get (ci := 6) (Cn := RX6) (T := TX6) (Nf := 11) (v := .int (s 7 0)) C 2 (by decide) rfl rfl in_X7_traitors_X6 6 (by decide) lk_X7_traitors_136 rfl dX7_traitors_59 ?_
                refine tv_icmp_ge C 105 dX7_traitors_62 (by decide) (fun c_10 => absurd c_10 (tn_nle e7 (rfl : nI m = nI m) (by omega) (by omega))) (fun c_10 => ?_)
                refine tv_aload_n C dX7_traitors_65 rfl 0 rfl ?_
                refine tv_get (ci := 7) (Cn := RX7) (T := TX7) (Nf := 7) (v := .ref (tv_ad c 2)) C 0 (by decide) rfl rfl in_X7_traitors_X7 1 (by decide) lk_X7_traitors_20 rfl dX7_traitors_66 ?_
                refine tv_iload C dX7_traitors_69 5 rfl ?_
                refine tv_iload C dX7_traitors_71 6 rfl ?_
                refine tv_iload_n C dX7_traitors_73 rfl 1 rfl ?_
                refine tv_iload_n C dX7_traitors_74 rfl 2 rfl ?_
                refine tv_calli (As := [.int (nI i), .int (nI m), .int p0, .int p1]) (rest := []) (ci := 6) (cn := RX6) (T := TX6) (Nf := 11) C 2 (kX6_areTraitors c s r i m j_p0 j_p1 (nI i) (nI m) p0 p1 (rfl : nI i = nI i) (by omega) (rfl : nI m = nI m) (by omega) ej_p0 (by omega) ej_p1 (by omega) hban ⟨nm, hm, e5⟩) gX7_traitors_X6_areTraitors rfl yd_X6_areTraitors ⟨rfl, rfl⟩ (by decide) (by decide) rfl rfl rfl rfl (Nat.le_of_ble_eq_true rfl) dX7_traitors_75 (fun q_11 u_11 z_11 => ?_)
                obtain ⟨rfl, rfl⟩ := z_11
                refine tv_if_eq C 99 dX7_traitors_78 (by decide) (fun c_12 => ?_) (fun c_12 => ?_)
                · skip
                  have mc_12 : ¬ sp_tp s j_p0 j_p1 i m = true := tn_i0 c_12
                  refine tv_iinc (v := ((nI m) + 1)) (lv' := [(6, .int ((nI m) + 1)), (0, .ref (tv_ad c 0)), (1, .int p0), (2, .int p1), (3, .int p2), (4, .int x_53_4), (5, .int (nI i))]) C dX7_traitors_99 6 rfl rfl (by decide) rfl ?_
                  refine tv_goto C 53 dX7_traitors_102 (by decide) ?_
                  refine tv_lsub [1, 2, 3, 4, 5, 6, 0] rfl ?_
                  exact ih53 (m + 1) x_53_4 _ (by omega) (by rw [q2, show nk - m = (nk - (m + 1)) + 1 by omega]; simp only [sp_ti, c_10, eq_true c_12, mc_12, Bool.false_eq_true, ↓reduceIte]) (by first | rfl | exact nI_1 _ | (simp only [sp_traitors, ek7, c_2, ek_p0, c_4, ek_p1, c_5, tn_d_le c_5, q1, c_8, q2, c_10, eq_true c_12, mc_12, if_true, ↓reduceIte]; done) | (simp [sp_traitors, ek7, c_2, ek_p0, c_4, ek_p1, c_5, tn_d_le c_5, q1, c_8, q2, c_10, eq_true c_12, mc_12, if_true]; done) | (exfalso; clear hR C; simp_all; done))
                · skip
                  have mc_12 : sp_tp s j_p0 j_p1 i m = true := tn_i1 c_12
                  refine tv_iload C dX7_traitors_81 4 rfl ?_
                  refine tv_iload_n C dX7_traitors_83 rfl 3 rfl ?_
                  refine tv_icmp_ne C 96 dX7_traitors_84 (by decide) (fun c_13 => ?_) (fun c_13 => ?_)
                  · skip
                    refine tv_iinc (v := (x_53_4 + 1)) (lv' := [(4, .int (x_53_4 + 1)), (0, .ref (tv_ad c 0)), (1, .int p0), (2, .int p1), (3, .int p2), (5, .int (nI i)), (6, .int (nI m))]) C dX7_traitors_96 4 rfl rfl (by decide) rfl ?_
                    refine tv_iinc (v := ((nI m) + 1)) (lv' := [(6, .int ((nI m) + 1)), (4, .int (x_53_4 + 1)), (0, .ref (tv_ad c 0)), (1, .int p0), (2, .int p1), (3, .int p2), (5, .int (nI i))]) C dX7_traitors_99 6 rfl rfl (by decide) rfl ?_
                    refine tv_goto C 53 dX7_traitors_102 (by decide) ?_
                    refine tv_lsub [2, 3, 4, 5, 1, 6, 0] rfl ?_
                    exact ih53 (m + 1) (x_53_4 + 1) _ (by omega) (by rw [q2, show nk - m = (nk - (m + 1)) + 1 by omega]; simp only [sp_ti, c_10, c_12, eq_true mc_12, c_13, Bool.false_eq_true, ↓reduceIte]) (by first | rfl | exact nI_1 _ | (simp only [sp_traitors, ek7, c_2, ek_p0, c_4, ek_p1, c_5, tn_d_le c_5, q1, c_8, q2, c_10, c_12, eq_true mc_12, c_13, if_true, ↓reduceIte]; done) | (simp [sp_traitors, ek7, c_2, ek_p0, c_4, ek_p1, c_5, tn_d_le c_5, q1, c_8, q2, c_10, c_12, eq_true mc_12, c_13, if_true]; done) | (exfalso; clear hR C; simp_all; done))
                  · skip
                    refine tv_bipush (v := 10) C dX7_traitors_87 (by decide) ?_
                    refine tv_iload C dX7_traitors_89 5 rfl ?_
                    refine tv_imul C dX7_traitors_91 ?_
                    refine tv_iload C dX7_traitors_92 6 rfl ?_
                    refine tv_iadd C dX7_traitors_94 ?_
                    exact hR _ _ _ _ dX7_traitors_95 ⟨by rw [show nk - m = (nk - (m + 1)) + 1 by omega] at q2; simp only [sp_ti, c_10, c_12, eq_true mc_12, eq_true c_13, ↓reduceIte] at q2; simp only [sp_traitors, ek7, c_2, ek_p0, c_4, ek_p1, c_5, tn_d_le c_5, q2, ↓reduceIte], by first | (simp only [sp_traitors, ek7, c_2, ek_p0, c_4, ek_p1, c_5, tn_d_le c_5, q1, c_8, q2, c_10, c_12, eq_true mc_12, eq_true c_13, if_true, ts_ss, ts_aa, ↓reduceIte]; done) | rfl | (simp [sp_traitors, ek7, c_2, ek_p0, c_4, ek_p1, c_5, tn_d_le c_5, q1, c_8, q2, c_10, c_12, eq_true mc_12, eq_true c_13, if_true, ts_ss, ts_aa]; done) | (exfalso; clear hR C; simp_all; done)⟩
            refine tv_lsub [1, 2, 3, 4, 5, 6, 0] rfl ?_
            exact hL53 (nk - (i + 1)) (i + 1) x_35_4 _ (by omega) (by rw [q1, show nk - i = (nk - (i + 1)) + 1 by omega]; rfl) (by exact nI_1 _)
        refine tv_lsub [2, 3, 4, 5, 1, 0] rfl ?_
        exact hL35 (nk - 0) 0 0 _ (by omega) (by rfl) (by first | (simp only [sp_traitors, ek7, c_2, ek_p0, c_4, ek_p1, c_5, tn_d_le c_5, if_true, ↓reduceIte]; done) | rfl | (simp [sp_traitors, ek7, c_2, ek_p0, c_4, ek_p1, c_5, tn_d_le c_5, if_true]; done) | (exfalso; clear hR C; simp_all; done))
      · skip
        refine tv_iconst (v := (-1)) C dX7_traitors_27 (by decide) ?_
        exact hR _ _ _ _ dX7_traitors_28 ⟨by first | (simp only [sp_traitors, ek7, c_2, ek_p0, c_4, ek_p1, c_5, tn_d_nle c_5, if_true, ↓reduceIte]; done) | rfl | (simp [sp_traitors, ek7, c_2, ek_p0, c_4, ek_p1, c_5, tn_d_nle c_5, if_true]; done) | (exfalso; clear hR C; simp_all; done), by first | (simp only [sp_traitors, ek7, c_2, ek_p0, c_4, ek_p1, c_5, tn_d_nle c_5, if_true, ts_ss, ts_aa, ↓reduceIte]; done) | rfl | (simp [sp_traitors, ek7, c_2, ek_p0, c_4, ek_p1, c_5, tn_d_nle c_5, if_true, ts_ss, ts_aa]; done) | (exfalso; clear hR C; simp_all; done)⟩
