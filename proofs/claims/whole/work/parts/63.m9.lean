set_option maxRecDepth 20000 in
theorem in_X8_digit_X8 : ∀ w ∈ u_ws RX8 TX8 35, w ∈ wsX8_digit := by decide +kernel
set_option maxRecDepth 20000 in
theorem lk_X8_digit_85 : Cond.fieldLink RX8 85 (TX8 15).1 (TX8 15).2.1 (TX8 15).2.2.1 ∈ wsX8_digit := by decide +kernel
set_option maxRecDepth 20000 in
theorem lk_X8_digit_16 : Cond.fieldLink RX8 16 (TX8 4).1 (TX8 4).2.1 (TX8 4).2.2.1 ∈ wsX8_digit := by decide +kernel
set_option maxHeartbeats 1000000 in
set_option maxRecDepth 100000 in
theorem kX8_digit (c : tv_c) (s r : ts_T) (a : Nat) (e : Nat) (p0 p1 p2 : Int32) (e_p0 : p0 = nI e) (h_p0 : e < 161) (ea : r 0 0 = nI a) (ha : a ≤ 160) : tv_Fi c 19 yX8_digit wsX8_digit { frames := 1, cells := 0, slots := 0, locals := 22 } [.ref (tv_ad c 0), .int p0, .int p1, .int p2] (eM c s r) (sp_dv s a e p1 p2) (eM c s (sp_dr s r a e p1 p2)) := by
  refine tv_metI (by decide +kernel) rfl rfl (Nat.le_of_ble_eq_true rfl) (fun X C hR => ?_)
  show tv_V c 19 X (eM c s r) 0 [(0, .ref (tv_ad c 0)), (1, .int p0), (2, .int p1), (3, .int p2)] []
  refine tv_aload_n C dX8_digit_0 rfl 0 rfl ?_
  refine tv_get (ci := 8) (Cn := RX8) (T := TX8) (Nf := 35) (v := .int (r 0 0)) C 0 (by decide) rfl rfl in_X8_digit_X8 15 (by decide) lk_X8_digit_85 rfl dX8_digit_1 ?_
  refine tv_iload_n C dX8_digit_4 rfl 1 rfl ?_
  refine tv_icmp_ge C 31 dX8_digit_5 (by decide) (fun c_1 => ?_) (fun c_1 => ?_)
  · skip
    have nc_1 : e ≤ a := (tn_geI ea e_p0 (by omega) (by omega)).mp c_1
    refine tv_bipush (v := (-9)) C dX8_digit_31 (by decide) ?_
    exact hR _ _ _ _ dX8_digit_33 ⟨by first | (simp only [sp_dv, sp_dr, c_1, nc_1, tn_d_le c_1, if_true, ↓reduceIte]; done) | rfl | (simp [sp_dv, sp_dr, c_1, nc_1, tn_d_le c_1, if_true]; done) | (exfalso; clear hR C; simp_all; done), by first | (simp only [sp_dv, sp_dr, c_1, nc_1, tn_d_le c_1, if_true, ts_ss, ts_aa, ↓reduceIte]; done) | rfl | (simp [sp_dv, sp_dr, c_1, nc_1, tn_d_le c_1, if_true, ts_ss, ts_aa]; done) | (exfalso; clear hR C; simp_all; done)⟩
  · skip
    have nc_1 : ¬ e ≤ a := tn_nf (tn_geI ea e_p0 (by omega) (by omega)) c_1
    refine tv_aload_n C dX8_digit_8 rfl 0 rfl ?_
    refine tv_get (ci := 8) (Cn := RX8) (T := TX8) (Nf := 35) (v := .ref (tv_ad c 3)) C 0 (by decide) rfl rfl in_X8_digit_X8 4 (by decide) lk_X8_digit_16 rfl dX8_digit_9 ?_
    refine tv_aload_n C dX8_digit_12 rfl 0 rfl ?_
    refine tv_get (ci := 8) (Cn := RX8) (T := TX8) (Nf := 35) (v := .int (r 0 0)) C 0 (by decide) rfl rfl in_X8_digit_X8 15 (by decide) lk_X8_digit_85 rfl dX8_digit_13 ?_
    refine tv_iald (f := (s 21)) (v := (s 21 a)) C 3 (by decide) rfl a ea (show a < 160 by omega) (by decide) rfl dX8_digit_16 ?_
    refine tv_bipush (v := 48) C dX8_digit_17 (by decide) ?_
    refine tv_iload_n C dX8_digit_19 rfl 2 rfl ?_
    refine tv_iadd C dX8_digit_20 ?_
    refine tv_bipush (v := 48) C dX8_digit_21 (by decide) ?_
    refine tv_iload_n C dX8_digit_23 rfl 3 rfl ?_
    refine tv_iadd C dX8_digit_24 ?_
    refine tv_callis (As := [.int (s 21 a), .int (48 + p1), .int (48 + p2)]) (rest := []) C (kX8_within c s r  (s 21 a) (48 + p1) (48 + p2) ) gX8_digit_X8_within rfl yd_X8_within ⟨rfl, rfl⟩ (by decide) rfl rfl (Nat.le_of_ble_eq_true rfl) dX8_digit_25 (fun q_2 u_2 z_2 => ?_)
    obtain ⟨rfl, rfl⟩ := z_2
    refine tv_if_ne C 34 dX8_digit_28 (by decide) (fun c_3 => ?_) (fun c_3 => ?_)
    · skip
      refine tv_aload_n C dX8_digit_34 rfl 0 rfl ?_
      refine tv_dup C dX8_digit_35 rfl ?_
      refine tv_get (ci := 8) (Cn := RX8) (T := TX8) (Nf := 35) (v := .int (r 0 0)) C 0 (by decide) rfl rfl in_X8_digit_X8 15 (by decide) lk_X8_digit_85 rfl dX8_digit_36 ?_
      refine tv_iconst (v := 1) C dX8_digit_39 (by decide) ?_
      refine tv_iadd C dX8_digit_40 ?_
      refine tv_put (ci := 8) (Cn := RX8) (T := TX8) (Nf := 35) (ty := .int) (E' := (eM c s (ts_s r 0 ((r 0 0) + 1)))) C 0 (by decide) rfl rfl in_X8_digit_X8 tyX8 tyX8_ok nmX8 15 (by decide) lk_X8_digit_85 rfl (by decide +kernel) rfl rfl (Nat.le_of_ble_eq_true rfl) (eM_u_at c s r ((r 0 0) + 1)) dX8_digit_41 ?_
      refine tv_aload_n C dX8_digit_44 rfl 0 rfl ?_
      refine tv_get (ci := 8) (Cn := RX8) (T := TX8) (Nf := 35) (v := .ref (tv_ad c 3)) C 0 (by decide) rfl rfl in_X8_digit_X8 4 (by decide) lk_X8_digit_16 rfl dX8_digit_45 ?_
      refine tv_aload_n C dX8_digit_48 rfl 0 rfl ?_
      refine tv_get (ci := 8) (Cn := RX8) (T := TX8) (Nf := 35) (v := .int ((r 0 0) + 1)) C 0 (by decide) rfl rfl in_X8_digit_X8 15 (by decide) lk_X8_digit_85 rfl dX8_digit_49 ?_
      refine tv_iconst (v := 1) C dX8_digit_52 (by decide) ?_
      refine tv_isub C dX8_digit_53 ?_
      refine tv_iald (f := (s 21)) (v := (s 21 ((a + 1) - 1))) C 3 (by decide) rfl ((a + 1) - 1) (tn_sub (tn_add ea (tn_l 1)) (tn_l 1) (by omega)) (show ((a + 1) - 1) < 160 by omega) (by decide) rfl dX8_digit_54 ?_
      refine tv_bipush (v := 48) C dX8_digit_55 (by decide) ?_
      refine tv_isub C dX8_digit_57 ?_
      exact hR _ _ _ _ dX8_digit_58 ⟨by first | (simp only [sp_dv, sp_dr, c_1, nc_1, tn_d_nle c_1, c_3, if_true, ↓reduceIte]; done) | rfl | (simp [sp_dv, sp_dr, c_1, nc_1, tn_d_nle c_1, c_3, if_true]; done) | (exfalso; clear hR C; simp_all; done), by first | (simp only [sp_dv, sp_dr, c_1, nc_1, tn_d_nle c_1, c_3, if_true, ts_ss, ts_aa, ↓reduceIte]; done) | rfl | (simp [sp_dv, sp_dr, c_1, nc_1, tn_d_nle c_1, c_3, if_true, ts_ss, ts_aa]; done) | (exfalso; clear hR C; simp_all; done)⟩
    · skip
      refine tv_bipush (v := (-9)) C dX8_digit_31 (by decide) ?_
      exact hR _ _ _ _ dX8_digit_33 ⟨by first | (simp only [sp_dv, sp_dr, c_1, nc_1, tn_d_nle c_1, eq_true c_3, if_true, ↓reduceIte]; done) | rfl | (simp [sp_dv, sp_dr, c_1, nc_1, tn_d_nle c_1, eq_true c_3, if_true]; done) | (exfalso; clear hR C; simp_all; done), by first | (simp only [sp_dv, sp_dr, c_1, nc_1, tn_d_nle c_1, eq_true c_3, if_true, ts_ss, ts_aa, ↓reduceIte]; done) | rfl | (simp [sp_dv, sp_dr, c_1, nc_1, tn_d_nle c_1, eq_true c_3, if_true, ts_ss, ts_aa]; done) | (exfalso; clear hR C; simp_all; done)⟩
