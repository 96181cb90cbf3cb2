set_option maxRecDepth 20000 in
theorem wd_X5_fits_ini7 : Cond.initialized yX7_isWithin.cls ∈ wsX5_fits := by decide +kernel
set_option maxRecDepth 20000 in
theorem wd_X5_fits_sta7 : Cond.static yX7_isWithin ∈ wsX5_fits := by decide +kernel
set_option maxRecDepth 20000 in
theorem in_X5_firstWrongInRows_X5 : ∀ w ∈ u_ws RX5 TX5 4, w ∈ wsX5_firstWrongInRows := by decide +kernel
set_option maxRecDepth 20000 in
theorem lk_X5_firstWrongInRows_9 : Cond.fieldLink RX5 9 (TX5 0).1 (TX5 0).2.1 (TX5 0).2.2.1 ∈ wsX5_firstWrongInRows := by decide +kernel
theorem yd_X5_fits : yX5_fits.cls = RX5 ∧ yX5_fits.cls ≠ "java/lang/invoke/MethodHandle" ∧ yX5_fits.cls ≠ "java/lang/invoke/VarHandle" ∧ (parseMethodDescriptor yX5_fits.desc).map (fun d => d.parameters.length) = some 2 := by decide +kernel
set_option maxRecDepth 20000 in
theorem in_X5_firstWrongCode_X5 : ∀ w ∈ u_ws RX5 TX5 4, w ∈ wsX5_firstWrongCode := by decide +kernel
set_option maxRecDepth 20000 in
theorem lk_X5_firstWrongCode_9 : Cond.fieldLink RX5 9 (TX5 0).1 (TX5 0).2.1 (TX5 0).2.2.1 ∈ wsX5_firstWrongCode := by decide +kernel
set_option maxRecDepth 20000 in
theorem wd_X5_firstWrongCode_ini7 : Cond.initialized yX7_isWithin.cls ∈ wsX5_firstWrongCode := by decide +kernel
set_option maxRecDepth 20000 in
theorem wd_X5_firstWrongCode_sta7 : Cond.static yX7_isWithin ∈ wsX5_firstWrongCode := by decide +kernel
theorem yd_X5_firstWrongInRows : yX5_firstWrongInRows.cls = RX5 ∧ yX5_firstWrongInRows.cls ≠ "java/lang/invoke/MethodHandle" ∧ yX5_firstWrongInRows.cls ≠ "java/lang/invoke/VarHandle" ∧ (parseMethodDescriptor yX5_firstWrongInRows.desc).map (fun d => d.parameters.length) = some 4 := by decide +kernel
set_option maxHeartbeats 4000000 in
set_option maxRecDepth 100000 in
theorem kX5_fits (c : tv_c) (s r : ts_T)  (p0 p1 : Int32)  : tv_Fi c 60 yX5_fits wsX5_fits { frames := 1, cells := 0, slots := 0, locals := 22 } [.int p0, .int p1] (eX c s r) (sp_ft p0 p1) (eX c s r) := by
  refine tv_metZ (by decide +kernel) rfl rfl (Nat.le_of_ble_eq_true rfl) (fun X C hR => ?_)
  show tv_V c 60 X (eX c s r) 0 [(0, .int p0), (1, .int p1)] []
  refine tv_iload_n C dX5_fits_0 rfl 1 rfl ?_
  refine tv_if_ge C 18 dX5_fits_1 (by decide) (fun c_1 => ?_) (fun c_1 => ?_)
  · skip
    refine tv_iload_n C dX5_fits_18 rfl 0 rfl ?_
    refine tv_bipush (v := 48) C dX5_fits_19 (by decide) ?_
    refine tv_bipush (v := 57) C dX5_fits_21 (by decide) ?_
    refine tv_callisN (As := [.int p0, .int 48, .int 57]) (rest := []) (host := RX7) C (kX7_isWithin c s r  p0 48 57 ) ggX5_fits_X7_isWithin rfl (fun q => q.2) wd_X5_fits_ini7 wd_X5_fits_sta7 yd_X7_isWithin.2 ⟨rfl, rfl⟩ (by decide) rfl rfl (Nat.le_of_ble_eq_true rfl) dX5_fits_23 (fun q_2 u_2 z_2 => ?_)
    obtain ⟨rfl, rfl⟩ := z_2
    exact hR _ _ _ _ dX5_fits_26 (by first | rfl | exact tn_nz (sp_in_z _ _ _) | exact tn_nz (sp_ix_z _ _)) ⟨by first | (simp only [sp_ft, c_1, tn_d_le c_1, if_true, ↓reduceIte]; done) | rfl | (simp [sp_ft, c_1, tn_d_le c_1, if_true]; done) | (exfalso; clear hR C; simp_all; done), by first | (simp only [sp_ft, c_1, tn_d_le c_1, if_true, ts_ss, ts_aa, ↓reduceIte]; done) | rfl | (simp [sp_ft, c_1, tn_d_le c_1, if_true, ts_ss, ts_aa]; done) | (exfalso; clear hR C; simp_all; done)⟩
  · skip
    refine tv_iload_n C dX5_fits_4 rfl 0 rfl ?_
    refine tv_bipush (v := 59) C dX5_fits_5 (by decide) ?_
    refine tv_icmp_ne C 14 dX5_fits_7 (by decide) (fun c_3 => ?_) (fun c_3 => ?_)
    · skip
      refine tv_iconst (v := 0) C dX5_fits_14 (by decide) ?_
      refine tv_goto C 26 dX5_fits_15 (by decide) ?_
      exact hR _ _ _ _ dX5_fits_26 (by first | rfl | exact tn_nz (sp_in_z _ _ _) | exact tn_nz (sp_ix_z _ _)) ⟨by first | (simp only [sp_ft, c_1, tn_d_nle c_1, c_3, if_true, ↓reduceIte]; done) | rfl | (simp [sp_ft, c_1, tn_d_nle c_1, c_3, if_true]; done) | (exfalso; clear hR C; simp_all; done), by first | (simp only [sp_ft, c_1, tn_d_nle c_1, c_3, if_true, ts_ss, ts_aa, ↓reduceIte]; done) | rfl | (simp [sp_ft, c_1, tn_d_nle c_1, c_3, if_true, ts_ss, ts_aa]; done) | (exfalso; clear hR C; simp_all; done)⟩
    · skip
      refine tv_iconst (v := 1) C dX5_fits_10 (by decide) ?_
      refine tv_goto C 26 dX5_fits_11 (by decide) ?_
      exact hR _ _ _ _ dX5_fits_26 (by first | rfl | exact tn_nz (sp_in_z _ _ _) | exact tn_nz (sp_ix_z _ _)) ⟨by first | (simp only [sp_ft, c_1, tn_d_nle c_1, eq_true c_3, if_true, ↓reduceIte]; done) | rfl | (simp [sp_ft, c_1, tn_d_nle c_1, eq_true c_3, if_true]; done) | (exfalso; clear hR C; simp_all; done), by first | (simp only [sp_ft, c_1, tn_d_nle c_1, eq_true c_3, if_true, ts_ss, ts_aa, ↓reduceIte]; done) | rfl | (simp [sp_ft, c_1, tn_d_nle c_1, eq_true c_3, if_true, ts_ss, ts_aa]; done) | (exfalso; clear hR C; simp_all; done)⟩
set_option maxHeartbeats 4000000 in
set_option maxRecDepth 100000 in
theorem kX5_firstWrongInRows (c : tv_c) (s r : ts_T) (k : Nat)  (a : Nat) (N : Nat) (h : Nat) (w : Nat) (p0 p1 p2 p3 : Int32) (hk : k < 4) (e_p0 : p0 = nI a) (h_p0 : a < 41) (e_p1 : p1 = nI N) (h_p1 : N < 41) (e_p2 : p2 = nI h) (h_p2 : h < 5) (e_p3 : p3 = nI w) (h_p3 : w < 7) (haN : a + N ≤ 40) : tv_Fi c 60 yX5_firstWrongInRows wsX5_firstWrongInRows { frames := 2, cells := 0, slots := 0, locals := 43 } [.ref (tv_ad c (16 + k)), .int p0, .int p1, .int p2, .int p3] (eX c s r) (fw_i (fw_r (fun q => s 21 (40 * k + a + q)) N h w)) (eX c s r) := by
  refine tv_metI (by decide +kernel) rfl rfl (Nat.le_of_ble_eq_true rfl) (fun X C hR => ?_)
  show tv_V c 60 X (eX c s r) 0 [(0, .ref (tv_ad c (16 + k))), (1, .int p0), (2, .int p1), (3, .int p2), (4, .int p3)] []
  refine tv_iconst (v := 3) C dX5_firstWrongInRows_0 (by decide) ?_
  refine tv_istore (lv' := [(5, .int 3), (0, .ref (tv_ad c (16 + k))), (1, .int p0), (2, .int p1), (3, .int p2), (4, .int p3)]) C dX5_firstWrongInRows_1 (by decide) rfl ?_
  refine tv_iconst (v := 0) C dX5_firstWrongInRows_3 (by decide) ?_
  refine tv_istore (lv' := [(6, .int 0), (5, .int 3), (0, .ref (tv_ad c (16 + k))), (1, .int p0), (2, .int p1), (3, .int p2), (4, .int p3)]) C dX5_firstWrongInRows_4 (by decide) rfl ?_
  have hL6 : ∀ (k_6 i : Nat) (x_6_5 : Int32) (x_6_6 : Int32), i + k_6 = h → (∀ q, q < i * (w + 1) → fw_ok (fun q => s 21 (40 * k + a + q)) N w q = true) → x_6_5 = (nI (3 + (i * (w + 1)))) → x_6_6 = (nI i) → tv_V c 60 X (eX c s r) 6 [(0, .ref (tv_ad c (16 + k))), (1, .int p0), (2, .int p1), (3, .int p2), (4, .int p3), (5, .int x_6_5), (6, .int x_6_6)] [] := by
    intro k_6
    induction k_6 with
    | zero =>
      intro i x_6_5 x_6_6 hi6 q0 ex_6_5 ex_6_6
      subst ex_6_5
      subst ex_6_6
      have hN6 : i = h := by omega
      have hB : i * (w + 1) ≤ 4 * 7 := Nat.mul_le_mul (by omega) (by omega)
      refine tv_iload C dX5_firstWrongInRows_6 6 rfl ?_
      refine tv_iload_n C dX5_firstWrongInRows_8 rfl 3 rfl ?_
      refine tv_icmp_ge C 63 dX5_firstWrongInRows_9 (by decide) (fun c_1 => ?_) (fun c_1 => absurd (tn_le e_p2 (rfl : nI i = nI i) (by omega) (by omega)) c_1)
      refine tv_iload C dX5_firstWrongInRows_63 5 rfl ?_
      refine tv_iload_n C dX5_firstWrongInRows_65 rfl 2 rfl ?_
      refine tv_icmp_ge C 74 dX5_firstWrongInRows_66 (by decide) (fun c_2 => ?_) (fun c_2 => ?_)
      · skip
        have nc_2 : N ≤ (3 + (i * (w + 1))) := (tn_geI (rfl : nI (3 + (i * (w + 1))) = nI (3 + (i * (w + 1)))) e_p1 (by omega) (by omega)).mp c_2
        refine tv_iconst (v := (-1)) C dX5_firstWrongInRows_74 (by decide) ?_
        exact hR _ _ _ _ dX5_firstWrongInRows_75 ⟨by (subst hN6; rw [fw_r_end q0]; first | (rw [if_pos (by omega)]; rfl) | (rw [if_neg (by omega)]; rfl)), by first | (simp only [q0, c_1, c_2, nc_2, tn_d_le c_2, if_true, ts_ss, ts_aa, ↓reduceIte]; done) | rfl | (simp [q0, c_1, c_2, nc_2, tn_d_le c_2, if_true, ts_ss, ts_aa]; done) | (exfalso; clear hR C; simp_all; done)⟩
      · skip
        have nc_2 : ¬ N ≤ (3 + (i * (w + 1))) := tn_nf (tn_geI (rfl : nI (3 + (i * (w + 1))) = nI (3 + (i * (w + 1)))) e_p1 (by omega) (by omega)) c_2
        refine tv_iload C dX5_firstWrongInRows_69 5 rfl ?_
        refine tv_goto C 75 dX5_firstWrongInRows_71 (by decide) ?_
        exact hR _ _ _ _ dX5_firstWrongInRows_75 ⟨by (subst hN6; rw [fw_r_end q0]; first | (rw [if_pos (by omega)]; rfl) | (rw [if_neg (by omega)]; rfl)), by first | (simp only [q0, c_1, c_2, nc_2, tn_d_nle c_2, if_true, ts_ss, ts_aa, ↓reduceIte]; done) | rfl | (simp [q0, c_1, c_2, nc_2, tn_d_nle c_2, if_true, ts_ss, ts_aa]; done) | (exfalso; clear hR C; simp_all; done)⟩
    | succ k_6 ih6 =>
      intro i x_6_5 x_6_6 hi6 q0 ex_6_5 ex_6_6
      subst ex_6_5
      subst ex_6_6
      have hN6 : i < h := by omega
      have hB : i * (w + 1) ≤ 4 * 7 := Nat.mul_le_mul (by omega) (by omega)
      have hS : (i + 1) * (w + 1) ≤ h * (w + 1) := Nat.mul_le_mul_right _ hN6
      rw [Nat.succ_mul] at hS
      refine tv_iload C dX5_firstWrongInRows_6 6 rfl ?_
      refine tv_iload_n C dX5_firstWrongInRows_8 rfl 3 rfl ?_
      refine tv_icmp_ge C 63 dX5_firstWrongInRows_9 (by decide) (fun c_3 => absurd c_3 (tn_nle e_p2 (rfl : nI i = nI i) (by omega) (by omega))) (fun c_3 => ?_)
      refine tv_iconst (v := (-1)) C dX5_firstWrongInRows_12 (by decide) ?_
      refine tv_istore (lv' := [(7, .int (-1)), (0, .ref (tv_ad c (16 + k))), (1, .int p0), (2, .int p1), (3, .int p2), (4, .int p3), (5, .int (nI (3 + (i * (w + 1))))), (6, .int (nI i))]) C dX5_firstWrongInRows_13 (by decide) rfl ?_
      have hL15 : ∀ (k_15 m : Nat) (x_15_5 : Int32) (x_15_7 : Int32), m + k_15 = (w + 1) → (∀ q, q < i * (w + 1) + m → fw_ok (fun q => s 21 (40 * k + a + q)) N w q = true) → x_15_5 = (nI (3 + (i * (w + 1) + m))) → x_15_7 = ((nI m) - 1) → tv_V c 60 X (eX c s r) 15 [(0, .ref (tv_ad c (16 + k))), (1, .int p0), (2, .int p1), (3, .int p2), (4, .int p3), (5, .int x_15_5), (6, .int (nI i)), (7, .int x_15_7)] [] := by
        intro k_15
        induction k_15 with
        | zero =>
          intro m x_15_5 x_15_7 hi15 q1 ex_15_5 ex_15_7
          subst ex_15_5
          subst ex_15_7
          have hN15 : m = (w + 1) := by omega
          refine tv_iload C dX5_firstWrongInRows_15 7 rfl ?_
          refine tv_iload C dX5_firstWrongInRows_17 4 rfl ?_
          refine tv_icmp_ge C 57 dX5_firstWrongInRows_19 (by decide) (fun c_4 => ?_) (fun c_4 => absurd (cl_e e_p3 hN15 (by omega)) c_4)
          refine tv_iinc (v := ((nI i) + 1)) (lv' := [(6, .int ((nI i) + 1)), (0, .ref (tv_ad c (16 + k))), (1, .int p0), (2, .int p1), (3, .int p2), (4, .int p3), (5, .int (nI (3 + (i * (w + 1) + m)))), (7, .int ((nI m) - 1))]) C dX5_firstWrongInRows_57 6 rfl rfl (by decide) rfl ?_
          refine tv_goto C 6 dX5_firstWrongInRows_60 (by decide) ?_
          refine tv_lsub [1, 2, 3, 4, 5, 6, 0] rfl ?_
          exact ih6 (i + 1) _ _ (by omega) (by rw [Nat.succ_mul]; intro q hq; exact q1 q (by omega)) (by rw [Nat.succ_mul, hN15]) (by first | rfl | exact nI_1 _ | (simp only [q0, c_3, q1, c_4, if_true, ↓reduceIte]; done) | (simp [q0, c_3, q1, c_4, if_true]; done) | (exfalso; clear hR C; simp_all; done))
        | succ k_15 ih15 =>
          intro m x_15_5 x_15_7 hi15 q1 ex_15_5 ex_15_7
          subst ex_15_5
          subst ex_15_7
          have hN15 : m < (w + 1) := by omega
          have hqT : i * (w + 1) + m < h * (w + 1) := by omega
          refine tv_iload C dX5_firstWrongInRows_15 7 rfl ?_
          refine tv_iload C dX5_firstWrongInRows_17 4 rfl ?_
          refine tv_icmp_ge C 57 dX5_firstWrongInRows_19 (by decide) (fun c_5 => absurd c_5 (cl_s e_p3 hN15 (by omega))) (fun c_5 => ?_)
          refine tv_iload C dX5_firstWrongInRows_22 5 rfl ?_
          refine tv_iload_n C dX5_firstWrongInRows_24 rfl 2 rfl ?_
          refine tv_icmp_ge C 45 dX5_firstWrongInRows_25 (by decide) (fun c_6 => ?_) (fun c_6 => ?_)
          · skip
            have nc_6 : N ≤ (3 + (i * (w + 1) + m)) := (tn_geI (rfl : nI (3 + (i * (w + 1) + m)) = nI (3 + (i * (w + 1) + m))) e_p1 (by omega) (by omega)).mp c_6
            refine tv_iload C dX5_firstWrongInRows_45 5 rfl ?_
            exact hR _ _ _ _ dX5_firstWrongInRows_47 ⟨by first | (rw [fw_r_at q1 (ok_f1 (by omega)) hqT]; rfl) | (rw [fw_r_at q1 (ok_f2 ((ft_fit (f := (fun q => s 21 (40 * k + a + q))) (w := w) (i := i) (m := m) (by omega) (by omega)).mp (by rw [Nat.add_assoc]; assumption))) hqT]; rfl), by first | (simp only [q0, c_3, q1, c_5, c_6, nc_6, tn_d_le c_6, if_true, ts_ss, ts_aa, ↓reduceIte]; done) | rfl | (simp [q0, c_3, q1, c_5, c_6, nc_6, tn_d_le c_6, if_true, ts_ss, ts_aa]; done) | (exfalso; clear hR C; simp_all; done)⟩
          · skip
            have nc_6 : ¬ N ≤ (3 + (i * (w + 1) + m)) := tn_nf (tn_geI (rfl : nI (3 + (i * (w + 1) + m)) = nI (3 + (i * (w + 1) + m))) e_p1 (by omega) (by omega)) c_6
            refine tv_aload_n C dX5_firstWrongInRows_28 rfl 0 rfl ?_
            refine tv_get (ci := 5) (Cn := RX5) (T := TX5) (Nf := 4) (v := .ref (tv_ad c (20 + k))) C (16 + k) (by omega) (eX_at_s c s r (by omega)) rfl in_X5_firstWrongInRows_X5 0 (by decide) lk_X5_firstWrongInRows_9 rfl dX5_firstWrongInRows_29 ?_
            refine tv_iload_n C dX5_firstWrongInRows_32 rfl 1 rfl ?_
            refine tv_iload C dX5_firstWrongInRows_33 5 rfl ?_
            refine tv_iadd C dX5_firstWrongInRows_35 ?_
            refine tv_iald (v := (s 21 (40 * k + (a + (3 + (i * (w + 1) + m)))))) C (20 + k) (by omega) (eX_at_r c s r (by omega)) (a + (3 + (i * (w + 1) + m))) (tn_add e_p0 (rfl : nI (3 + (i * (w + 1) + m)) = nI (3 + (i * (w + 1) + m)))) (show (a + (3 + (i * (w + 1) + m))) < 40 by omega) (by decide) (if_pos (show (a + (3 + (i * (w + 1) + m))) < 40 by omega)) dX5_firstWrongInRows_36 ?_
            refine tv_iload C dX5_firstWrongInRows_37 7 rfl ?_
            refine tv_callis (As := [.int (s 21 (40 * k + (a + (3 + (i * (w + 1) + m))))), .int ((nI m) - 1)]) (rest := []) C (kX5_fits c s r  (s 21 (40 * k + (a + (3 + (i * (w + 1) + m))))) ((nI m) - 1) ) gX5_firstWrongInRows_X5_fits rfl yd_X5_fits ⟨rfl, rfl⟩ (by decide) rfl rfl (Nat.le_of_ble_eq_true rfl) dX5_firstWrongInRows_39 (fun q_7 u_7 z_7 => ?_)
            obtain ⟨rfl, rfl⟩ := z_7
            refine tv_if_ne C 48 dX5_firstWrongInRows_42 (by decide) (fun c_8 => ?_) (fun c_8 => ?_)
            · skip
              refine tv_iinc (v := ((nI (3 + (i * (w + 1) + m))) + 1)) (lv' := [(5, .int ((nI (3 + (i * (w + 1) + m))) + 1)), (0, .ref (tv_ad c (16 + k))), (1, .int p0), (2, .int p1), (3, .int p2), (4, .int p3), (6, .int (nI i)), (7, .int ((nI m) - 1))]) C dX5_firstWrongInRows_48 5 rfl rfl (by decide) rfl ?_
              refine tv_iinc (v := (((nI m) - 1) + 1)) (lv' := [(7, .int (((nI m) - 1) + 1)), (5, .int ((nI (3 + (i * (w + 1) + m))) + 1)), (0, .ref (tv_ad c (16 + k))), (1, .int p0), (2, .int p1), (3, .int p2), (4, .int p3), (6, .int (nI i))]) C dX5_firstWrongInRows_51 7 rfl rfl (by decide) rfl ?_
              refine tv_goto C 15 dX5_firstWrongInRows_54 (by decide) ?_
              refine tv_lsub [2, 3, 4, 5, 6, 1, 7, 0] rfl ?_
              exact ih15 (m + 1) _ _ (by omega) (by exact ok_s q1 (ok_t (q := i * (w + 1) + m) (by omega) (fun z => absurd ((ft_fit (f := (fun q => s 21 (40 * k + a + q))) (w := w) (i := i) (m := m) (by omega) (by omega)).mpr z) (by rw [Nat.add_assoc]; assumption)))) (by exact nI_1 _) (by exact cl_n _)
            · skip
              refine tv_iload C dX5_firstWrongInRows_45 5 rfl ?_
              exact hR _ _ _ _ dX5_firstWrongInRows_47 ⟨by first | (rw [fw_r_at q1 (ok_f1 (by omega)) hqT]; rfl) | (rw [fw_r_at q1 (ok_f2 ((ft_fit (f := (fun q => s 21 (40 * k + a + q))) (w := w) (i := i) (m := m) (by omega) (by omega)).mp (by rw [Nat.add_assoc]; assumption))) hqT]; rfl), by first | (simp only [q0, c_3, q1, c_5, c_6, nc_6, tn_d_nle c_6, eq_true c_8, if_true, ts_ss, ts_aa, ↓reduceIte]; done) | rfl | (simp [q0, c_3, q1, c_5, c_6, nc_6, tn_d_nle c_6, eq_true c_8, if_true, ts_ss, ts_aa]; done) | (exfalso; clear hR C; simp_all; done)⟩
      refine tv_lsub [1, 2, 3, 4, 5, 6, 7, 0] rfl ?_
      exact hL15 ((w + 1) - 0) 0 _ _ (by omega) (by exact q0) (by rfl) (by rfl)
  refine tv_lsub [2, 3, 4, 5, 6, 1, 0] rfl ?_
  exact hL6 (h - 0) 0 _ _ (by omega) (by intro q hq; exact absurd hq (by omega)) (by rw [Nat.zero_mul]; rfl) (by first | (simp only [if_true, ↓reduceIte]; done) | rfl | (simp [if_true]; done) | (exfalso; clear hR C; simp_all; done))
set_option maxHeartbeats 4000000 in
set_option maxRecDepth 100000 in
theorem kX5_firstWrongCode (c : tv_c) (s r : ts_T) (k : Nat)  (a : Nat) (N : Nat) (p0 p1 : Int32) (hk : k < 4) (e_p0 : p0 = nI a) (h_p0 : a < 41) (e_p1 : p1 = nI N) (h_p1 : N < 41) (hab : a + N ≤ 40) : tv_Fi c 60 yX5_firstWrongCode wsX5_firstWrongCode { frames := 3, cells := 0, slots := 0, locals := 70 } [.ref (tv_ad c (16 + k)), .int p0, .int p1] (eX c s r) (fw_i (fw (fun q => s 21 (40 * k + a + q)) N)) (eX c s r) := by
  refine tv_metI (by decide +kernel) rfl rfl (Nat.le_of_ble_eq_true rfl) (fun X C hR => ?_)
  show tv_V c 60 X (eX c s r) 0 [(0, .ref (tv_ad c (16 + k))), (1, .int p0), (2, .int p1)] []
  refine tv_iload_n C dX5_firstWrongCode_0 rfl 2 rfl ?_
  refine tv_iconst (v := 1) C dX5_firstWrongCode_1 (by decide) ?_
  refine tv_icmp_lt C 16 dX5_firstWrongCode_2 (by decide) (fun c_1 => ?_) (fun c_1 => ?_)
  · skip
    have nc_1 : N < 1 := (tn_ltI e_p1 (tn_l 1) (by omega) (by omega)).mp c_1
    refine tv_iconst (v := 0) C dX5_firstWrongCode_16 (by decide) ?_
    exact hR _ _ _ _ dX5_firstWrongCode_17 ⟨by simp only [fw, Nat.add_zero, c_1, nc_1, tn_d_lt c_1, ↓reduceIte]; rfl, by first | (simp only [c_1, nc_1, tn_d_lt c_1, if_true, ts_ss, ts_aa, ↓reduceIte]; done) | rfl | (simp [c_1, nc_1, tn_d_lt c_1, if_true, ts_ss, ts_aa]; done) | (exfalso; clear hR C; simp_all; done)⟩
  · skip
    have nc_1 : ¬ N < 1 := tn_nf (tn_ltI e_p1 (tn_l 1) (by omega) (by omega)) c_1
    refine tv_aload_n C dX5_firstWrongCode_5 rfl 0 rfl ?_
    refine tv_get (ci := 5) (Cn := RX5) (T := TX5) (Nf := 4) (v := .ref (tv_ad c (20 + k))) C (16 + k) (by omega) (eX_at_s c s r (by omega)) rfl in_X5_firstWrongCode_X5 0 (by decide) lk_X5_firstWrongCode_9 rfl dX5_firstWrongCode_6 ?_
    refine tv_iload_n C dX5_firstWrongCode_9 rfl 1 rfl ?_
    refine tv_iald (v := (s 21 (40 * k + a))) C (20 + k) (by omega) (eX_at_r c s r (by omega)) a e_p0 (show a < 40 by omega) (by decide) (if_pos (show a < 40 by omega)) dX5_firstWrongCode_10 ?_
    refine tv_bipush (v := 119) C dX5_firstWrongCode_11 (by decide) ?_
    refine tv_icmp_eq C 18 dX5_firstWrongCode_13 (by decide) (fun c_2 => ?_) (fun c_2 => ?_)
    · skip
      refine tv_iload_n C dX5_firstWrongCode_18 rfl 2 rfl ?_
      refine tv_iconst (v := 2) C dX5_firstWrongCode_19 (by decide) ?_
      refine tv_icmp_lt C 41 dX5_firstWrongCode_20 (by decide) (fun c_3 => ?_) (fun c_3 => ?_)
      · skip
        have nc_3 : N < 2 := (tn_ltI e_p1 (tn_l 2) (by omega) (by omega)).mp c_3
        refine tv_iconst (v := 1) C dX5_firstWrongCode_41 (by decide) ?_
        exact hR _ _ _ _ dX5_firstWrongCode_42 ⟨by simp only [fw, Nat.add_zero, Nat.add_assoc, c_1, nc_1, tn_d_nlt c_1, eq_true c_2, c_3, nc_3, tn_d_lt c_3, ↓reduceIte]; rfl, by first | (simp only [c_1, nc_1, tn_d_nlt c_1, eq_true c_2, c_3, nc_3, tn_d_lt c_3, if_true, ts_ss, ts_aa, ↓reduceIte]; done) | rfl | (simp [c_1, nc_1, tn_d_nlt c_1, eq_true c_2, c_3, nc_3, tn_d_lt c_3, if_true, ts_ss, ts_aa]; done) | (exfalso; clear hR C; simp_all; done)⟩
      · skip
        have nc_3 : ¬ N < 2 := tn_nf (tn_ltI e_p1 (tn_l 2) (by omega) (by omega)) c_3
        refine tv_aload_n C dX5_firstWrongCode_23 rfl 0 rfl ?_
        refine tv_get (ci := 5) (Cn := RX5) (T := TX5) (Nf := 4) (v := .ref (tv_ad c (20 + k))) C (16 + k) (by omega) (eX_at_s c s r (by omega)) rfl in_X5_firstWrongCode_X5 0 (by decide) lk_X5_firstWrongCode_9 rfl dX5_firstWrongCode_24 ?_
        refine tv_iload_n C dX5_firstWrongCode_27 rfl 1 rfl ?_
        refine tv_iconst (v := 1) C dX5_firstWrongCode_28 (by decide) ?_
        refine tv_iadd C dX5_firstWrongCode_29 ?_
        refine tv_iald (v := (s 21 (40 * k + (a + 1)))) C (20 + k) (by omega) (eX_at_r c s r (by omega)) (a + 1) (tn_add e_p0 (tn_l 1)) (show (a + 1) < 40 by omega) (by decide) (if_pos (show (a + 1) < 40 by omega)) dX5_firstWrongCode_30 ?_
        refine tv_bipush (v := 49) C dX5_firstWrongCode_31 (by decide) ?_
        refine tv_bipush (v := 52) C dX5_firstWrongCode_33 (by decide) ?_
        refine tv_callisN (As := [.int (s 21 (40 * k + (a + 1))), .int 49, .int 52]) (rest := []) (host := RX7) C (kX7_isWithin c s r  (s 21 (40 * k + (a + 1))) 49 52 ) ggX5_firstWrongCode_X7_isWithin rfl (fun q => q.2) wd_X5_firstWrongCode_ini7 wd_X5_firstWrongCode_sta7 yd_X7_isWithin.2 ⟨rfl, rfl⟩ (by decide) rfl rfl (Nat.le_of_ble_eq_true rfl) dX5_firstWrongCode_35 (fun q_4 u_4 z_4 => ?_)
        obtain ⟨rfl, rfl⟩ := z_4
        refine tv_if_ne C 43 dX5_firstWrongCode_38 (by decide) (fun c_5 => ?_) (fun c_5 => ?_)
        · skip
          obtain ⟨dh, g1, g2, eh, ekh, -⟩ := dig (a := 49) (b := 52) (by assumption) (by decide) (by decide) (by decide)
          refine tv_iload_n C dX5_firstWrongCode_43 rfl 2 rfl ?_
          refine tv_iconst (v := 3) C dX5_firstWrongCode_44 (by decide) ?_
          refine tv_icmp_lt C 66 dX5_firstWrongCode_45 (by decide) (fun c_6 => ?_) (fun c_6 => ?_)
          · skip
            have nc_6 : N < 3 := (tn_ltI e_p1 (tn_l 3) (by omega) (by omega)).mp c_6
            refine tv_iconst (v := 2) C dX5_firstWrongCode_66 (by decide) ?_
            exact hR _ _ _ _ dX5_firstWrongCode_67 ⟨by simp only [fw, Nat.add_zero, Nat.add_assoc, c_1, nc_1, tn_d_nlt c_1, eq_true c_2, c_3, nc_3, tn_d_nlt c_3, c_5, c_6, nc_6, tn_d_lt c_6, ↓reduceIte]; rfl, by first | (simp only [c_1, nc_1, tn_d_nlt c_1, eq_true c_2, c_3, nc_3, tn_d_nlt c_3, c_5, c_6, nc_6, tn_d_lt c_6, if_true, ts_ss, ts_aa, ↓reduceIte]; done) | rfl | (simp [c_1, nc_1, tn_d_nlt c_1, eq_true c_2, c_3, nc_3, tn_d_nlt c_3, c_5, c_6, nc_6, tn_d_lt c_6, if_true, ts_ss, ts_aa]; done) | (exfalso; clear hR C; simp_all; done)⟩
          · skip
            have nc_6 : ¬ N < 3 := tn_nf (tn_ltI e_p1 (tn_l 3) (by omega) (by omega)) c_6
            refine tv_aload_n C dX5_firstWrongCode_48 rfl 0 rfl ?_
            refine tv_get (ci := 5) (Cn := RX5) (T := TX5) (Nf := 4) (v := .ref (tv_ad c (20 + k))) C (16 + k) (by omega) (eX_at_s c s r (by omega)) rfl in_X5_firstWrongCode_X5 0 (by decide) lk_X5_firstWrongCode_9 rfl dX5_firstWrongCode_49 ?_
            refine tv_iload_n C dX5_firstWrongCode_52 rfl 1 rfl ?_
            refine tv_iconst (v := 2) C dX5_firstWrongCode_53 (by decide) ?_
            refine tv_iadd C dX5_firstWrongCode_54 ?_
            refine tv_iald (v := (s 21 (40 * k + (a + 2)))) C (20 + k) (by omega) (eX_at_r c s r (by omega)) (a + 2) (tn_add e_p0 (tn_l 2)) (show (a + 2) < 40 by omega) (by decide) (if_pos (show (a + 2) < 40 by omega)) dX5_firstWrongCode_55 ?_
            refine tv_bipush (v := 50) C dX5_firstWrongCode_56 (by decide) ?_
            refine tv_bipush (v := 54) C dX5_firstWrongCode_58 (by decide) ?_
            refine tv_callisN (As := [.int (s 21 (40 * k + (a + 2))), .int 50, .int 54]) (rest := []) (host := RX7) C (kX7_isWithin c s r  (s 21 (40 * k + (a + 2))) 50 54 ) ggX5_firstWrongCode_X7_isWithin rfl (fun q => q.2) wd_X5_firstWrongCode_ini7 wd_X5_firstWrongCode_sta7 yd_X7_isWithin.2 ⟨rfl, rfl⟩ (by decide) rfl rfl (Nat.le_of_ble_eq_true rfl) dX5_firstWrongCode_60 (fun q_7 u_7 z_7 => ?_)
            obtain ⟨rfl, rfl⟩ := z_7
            refine tv_if_ne C 68 dX5_firstWrongCode_63 (by decide) (fun c_8 => ?_) (fun c_8 => ?_)
            · skip
              obtain ⟨dw, g3, g4, ew, ekw, -⟩ := dig (a := 50) (b := 54) (by assumption) (by decide) (by decide) (by decide)
              refine tv_aload_n C dX5_firstWrongCode_68 rfl 0 rfl ?_
              refine tv_iload_n C dX5_firstWrongCode_69 rfl 1 rfl ?_
              refine tv_iload_n C dX5_firstWrongCode_70 rfl 2 rfl ?_
              refine tv_aload_n C dX5_firstWrongCode_71 rfl 0 rfl ?_
              refine tv_get (ci := 5) (Cn := RX5) (T := TX5) (Nf := 4) (v := .ref (tv_ad c (20 + k))) C (16 + k) (by omega) (eX_at_s c s r (by omega)) rfl in_X5_firstWrongCode_X5 0 (by decide) lk_X5_firstWrongCode_9 rfl dX5_firstWrongCode_72 ?_
              refine tv_iload_n C dX5_firstWrongCode_75 rfl 1 rfl ?_
              refine tv_iconst (v := 1) C dX5_firstWrongCode_76 (by decide) ?_
              refine tv_iadd C dX5_firstWrongCode_77 ?_
              refine tv_iald (v := (s 21 (40 * k + (a + 1)))) C (20 + k) (by omega) (eX_at_r c s r (by omega)) (a + 1) (tn_add e_p0 (tn_l 1)) (show (a + 1) < 40 by omega) (by decide) (if_pos (show (a + 1) < 40 by omega)) dX5_firstWrongCode_78 ?_
              refine tv_bipush (v := 48) C dX5_firstWrongCode_79 (by decide) ?_
              refine tv_isub C dX5_firstWrongCode_81 ?_
              refine tv_aload_n C dX5_firstWrongCode_82 rfl 0 rfl ?_
              refine tv_get (ci := 5) (Cn := RX5) (T := TX5) (Nf := 4) (v := .ref (tv_ad c (20 + k))) C (16 + k) (by omega) (eX_at_s c s r (by omega)) rfl in_X5_firstWrongCode_X5 0 (by decide) lk_X5_firstWrongCode_9 rfl dX5_firstWrongCode_83 ?_
              refine tv_iload_n C dX5_firstWrongCode_86 rfl 1 rfl ?_
              refine tv_iconst (v := 2) C dX5_firstWrongCode_87 (by decide) ?_
              refine tv_iadd C dX5_firstWrongCode_88 ?_
              refine tv_iald (v := (s 21 (40 * k + (a + 2)))) C (20 + k) (by omega) (eX_at_r c s r (by omega)) (a + 2) (tn_add e_p0 (tn_l 2)) (show (a + 2) < 40 by omega) (by decide) (if_pos (show (a + 2) < 40 by omega)) dX5_firstWrongCode_89 ?_
              refine tv_bipush (v := 48) C dX5_firstWrongCode_90 (by decide) ?_
              refine tv_isub C dX5_firstWrongCode_92 ?_
              refine tv_calli (As := [.int p0, .int p1, .int ((s 21 (40 * k + (a + 1))) - 48), .int ((s 21 (40 * k + (a + 2))) - 48)]) (rest := []) (ci := 5) (cn := RX5) (T := TX5) (Nf := 4) C (16 + k) (kX5_firstWrongInRows c s r k a N dh dw p0 p1 ((s 21 (40 * k + (a + 1))) - 48) ((s 21 (40 * k + (a + 2))) - 48) (show k < 4 by omega) e_p0 (by omega) e_p1 (by omega) eh (by omega) ew (by omega) hab) gX5_firstWrongCode_X5_firstWrongInRows rfl yd_X5_firstWrongInRows ⟨rfl, rfl⟩ (by decide) (by omega) (eX_at_s c s r (by omega)) rfl rfl rfl (Nat.le_of_ble_eq_true rfl) dX5_firstWrongCode_93 (fun q_9 u_9 z_9 => ?_)
              obtain ⟨rfl, rfl⟩ := z_9
              exact hR _ _ _ _ dX5_firstWrongCode_96 ⟨by simp only [fw, Nat.add_zero, Nat.add_assoc, c_1, nc_1, tn_d_nlt c_1, eq_true c_2, c_3, nc_3, tn_d_nlt c_3, c_5, c_6, nc_6, tn_d_nlt c_6, c_8, ↓reduceIte, ekh, ekw], by first | (simp only [c_1, nc_1, tn_d_nlt c_1, eq_true c_2, c_3, nc_3, tn_d_nlt c_3, c_5, c_6, nc_6, tn_d_nlt c_6, c_8, if_true, ts_ss, ts_aa, ↓reduceIte]; done) | rfl | (simp [c_1, nc_1, tn_d_nlt c_1, eq_true c_2, c_3, nc_3, tn_d_nlt c_3, c_5, c_6, nc_6, tn_d_nlt c_6, c_8, if_true, ts_ss, ts_aa]; done) | (exfalso; clear hR C; simp_all; done)⟩
            · skip
              refine tv_iconst (v := 2) C dX5_firstWrongCode_66 (by decide) ?_
              exact hR _ _ _ _ dX5_firstWrongCode_67 ⟨by simp only [fw, Nat.add_zero, Nat.add_assoc, c_1, nc_1, tn_d_nlt c_1, eq_true c_2, c_3, nc_3, tn_d_nlt c_3, c_5, c_6, nc_6, tn_d_nlt c_6, eq_true c_8, ↓reduceIte]; rfl, by first | (simp only [c_1, nc_1, tn_d_nlt c_1, eq_true c_2, c_3, nc_3, tn_d_nlt c_3, c_5, c_6, nc_6, tn_d_nlt c_6, eq_true c_8, if_true, ts_ss, ts_aa, ↓reduceIte]; done) | rfl | (simp [c_1, nc_1, tn_d_nlt c_1, eq_true c_2, c_3, nc_3, tn_d_nlt c_3, c_5, c_6, nc_6, tn_d_nlt c_6, eq_true c_8, if_true, ts_ss, ts_aa]; done) | (exfalso; clear hR C; simp_all; done)⟩
        · skip
          refine tv_iconst (v := 1) C dX5_firstWrongCode_41 (by decide) ?_
          exact hR _ _ _ _ dX5_firstWrongCode_42 ⟨by simp only [fw, Nat.add_zero, Nat.add_assoc, c_1, nc_1, tn_d_nlt c_1, eq_true c_2, c_3, nc_3, tn_d_nlt c_3, eq_true c_5, ↓reduceIte]; rfl, by first | (simp only [c_1, nc_1, tn_d_nlt c_1, eq_true c_2, c_3, nc_3, tn_d_nlt c_3, eq_true c_5, if_true, ts_ss, ts_aa, ↓reduceIte]; done) | rfl | (simp [c_1, nc_1, tn_d_nlt c_1, eq_true c_2, c_3, nc_3, tn_d_nlt c_3, eq_true c_5, if_true, ts_ss, ts_aa]; done) | (exfalso; clear hR C; simp_all; done)⟩
    · skip
      refine tv_iconst (v := 0) C dX5_firstWrongCode_16 (by decide) ?_
      exact hR _ _ _ _ dX5_firstWrongCode_17 ⟨by simp only [fw, Nat.add_zero, c_1, nc_1, tn_d_nlt c_1, c_2, ↓reduceIte]; rfl, by first | (simp only [c_1, nc_1, tn_d_nlt c_1, c_2, if_true, ts_ss, ts_aa, ↓reduceIte]; done) | rfl | (simp [c_1, nc_1, tn_d_nlt c_1, c_2, if_true, ts_ss, ts_aa]; done) | (exfalso; clear hR C; simp_all; done)⟩
