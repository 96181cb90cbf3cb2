theorem tn_30 : ¬ (3 : Int32) = 0 := by decide
theorem tn_40 : ¬ (4 : Int32) = 0 := by decide
set_option maxRecDepth 20000 in
theorem in_X6_makeAnew_X5 : ∀ w ∈ u_ws RX5 TX5 4, w ∈ wsX6_makeAnew := by decide +kernel
set_option maxRecDepth 20000 in
theorem lk_X6_makeAnew_29 : Cond.fieldLink RX6 29 (TX5 0).1 (TX5 0).2.1 (TX5 0).2.2.1 ∈ wsX6_makeAnew := by decide +kernel
set_option maxRecDepth 20000 in
theorem in_X6_makeAnew_X6 : ∀ w ∈ u_ws RX6 TX6 11, w ∈ wsX6_makeAnew := by decide +kernel
set_option maxRecDepth 20000 in
theorem lk_X6_makeAnew_34 : Cond.fieldLink RX6 34 (TX6 3).1 (TX6 3).2.1 (TX6 3).2.2.1 ∈ wsX6_makeAnew := by decide +kernel
set_option maxRecDepth 20000 in
theorem lk_X6_makeAnew_38 : Cond.fieldLink RX6 38 (TX6 4).1 (TX6 4).2.1 (TX6 4).2.2.1 ∈ wsX6_makeAnew := by decide +kernel
set_option maxRecDepth 20000 in
theorem lk_X6_makeAnew_41 : Cond.fieldLink RX6 41 (TX6 5).1 (TX6 5).2.1 (TX6 5).2.2.1 ∈ wsX6_makeAnew := by decide +kernel
set_option maxRecDepth 20000 in
theorem lk_X6_makeAnew_48 : Cond.fieldLink RX6 48 (TX6 8).1 (TX6 8).2.1 (TX6 8).2.2.1 ∈ wsX6_makeAnew := by decide +kernel
set_option maxRecDepth 20000 in
theorem lk_X6_makeAnew_51 : Cond.fieldLink RX6 51 (TX6 9).1 (TX6 9).2.1 (TX6 9).2.2.1 ∈ wsX6_makeAnew := by decide +kernel
set_option maxRecDepth 20000 in
theorem lk_X6_makeAnew_54 : Cond.fieldLink RX6 54 (TX6 10).1 (TX6 10).2.1 (TX6 10).2.2.1 ∈ wsX6_makeAnew := by decide +kernel
set_option maxRecDepth 20000 in
theorem lk_X6_makeAnew_57 : Cond.fieldLink RX6 57 (TX6 7).1 (TX6 7).2.1 (TX6 7).2.2.1 ∈ wsX6_makeAnew := by decide +kernel
set_option maxRecDepth 20000 in
theorem lk_X6_makeAnew_60 : Cond.fieldLink RX6 60 (TX6 6).1 (TX6 6).2.1 (TX6 6).2.2.1 ∈ wsX6_makeAnew := by decide +kernel
set_option maxRecDepth 20000 in
theorem lk_X6_makeAnew_11 : Cond.fieldLink RX6 11 (TX6 0).1 (TX6 0).2.1 (TX6 0).2.2.1 ∈ wsX6_makeAnew := by decide +kernel
theorem yd_X0_begin : yX0_begin.cls = RX0 ∧ yX0_begin.cls ≠ "java/lang/invoke/MethodHandle" ∧ yX0_begin.cls ≠ "java/lang/invoke/VarHandle" ∧ (parseMethodDescriptor yX0_begin.desc).map (fun d => d.parameters.length) = some 1 := by decide +kernel
set_option maxRecDepth 20000 in
theorem in_X7_wall_X7 : ∀ w ∈ u_ws RX7 TX7 7, w ∈ wsX7_wall := by decide +kernel
set_option maxRecDepth 20000 in
theorem lk_X7_wall_50 : Cond.fieldLink RX7 50 (TX7 6).1 (TX7 6).2.1 (TX7 6).2.2.1 ∈ wsX7_wall := by decide +kernel
set_option maxRecDepth 20000 in
theorem lk_X7_wall_13 : Cond.fieldLink RX7 13 (TX7 0).1 (TX7 0).2.1 (TX7 0).2.2.1 ∈ wsX7_wall := by decide +kernel
theorem yd_X5_firstWrongCode : yX5_firstWrongCode.cls = RX5 ∧ yX5_firstWrongCode.cls ≠ "java/lang/invoke/MethodHandle" ∧ yX5_firstWrongCode.cls ≠ "java/lang/invoke/VarHandle" ∧ (parseMethodDescriptor yX5_firstWrongCode.desc).map (fun d => d.parameters.length) = some 2 := by decide +kernel
set_option maxRecDepth 20000 in
theorem lk_X7_wall_20 : Cond.fieldLink RX7 20 (TX7 1).1 (TX7 1).2.1 (TX7 1).2.2.1 ∈ wsX7_wall := by decide +kernel
theorem yd_X6_makeAnew : yX6_makeAnew.cls = RX6 ∧ yX6_makeAnew.cls ≠ "java/lang/invoke/MethodHandle" ∧ yX6_makeAnew.cls ≠ "java/lang/invoke/VarHandle" ∧ (parseMethodDescriptor yX6_makeAnew.desc).map (fun d => d.parameters.length) = some 2 := by decide +kernel
set_option maxRecDepth 20000 in
theorem in_X7_wall_X6 : ∀ w ∈ u_ws RX6 TX6 11, w ∈ wsX7_wall := by decide +kernel
set_option maxRecDepth 20000 in
theorem lk_X7_wall_80 : Cond.fieldLink RX7 80 (TX6 5).1 (TX6 5).2.1 (TX6 5).2.2.1 ∈ wsX7_wall := by decide +kernel
set_option maxHeartbeats 1000000 in
set_option maxRecDepth 100000 in
theorem kX6_makeAnew (c : tv_c) (s r : ts_T) (k : Nat) (h w : Nat) (a : Nat) (p1 : Int32) (hk : k < 4) (e_p1 : p1 = nI a) (h_p1 : a < 41) (ha1 : 1 ≤ h) (hh4 : h ≤ 4) (hw2 : 2 ≤ w) (hw6 : w ≤ 6) (eh : s 21 (40 * k + (a + 1)) - 48 = nI h) (ew : s 21 (40 * k + (a + 2)) - 48 = nI w) (hT : a + (3 + h * (w + 1)) ≤ 40) : tv_Fv c 60 yX6_makeAnew wsX6_makeAnew { frames := 2, cells := 0, slots := 0, locals := 42 } [.ref (tv_ad c 2), .ref (tv_ad c (16 + k)), .int p1] (eX c s r) (eX c (wl_s s (fun q => s 21 (40 * k + a + q)) h w) r) := by
  refine tv_metV (by decide +kernel) rfl rfl (Nat.le_of_ble_eq_true rfl) (fun X C hR => ?_)
  show tv_V c 60 X (eX c s r) 0 [(0, .ref (tv_ad c 2)), (1, .ref (tv_ad c (16 + k))), (2, .int p1)] []
  have hTT : h * (w + 1) = h * w + h := Nat.mul_succ h w
  have hhw : 1 * 2 ≤ h * w := Nat.mul_le_mul ha1 hw2
  have hhw4 : h * w ≤ 4 * 6 := Nat.mul_le_mul hh4 hw6
  refine tv_aload_n C dX6_makeAnew_0 rfl 0 rfl ?_
  refine tv_aload_n C dX6_makeAnew_1 rfl 1 rfl ?_
  refine tv_get (ci := 5) (Cn := RX5) (T := TX5) (Nf := 4) (v := .ref (tv_ad c (20 + k))) C (16 + k) (by omega) (eX_at_s c s r (by omega)) rfl in_X6_makeAnew_X5 0 (by decide) lk_X6_makeAnew_29 rfl dX6_makeAnew_2 ?_
  refine tv_iload_n C dX6_makeAnew_5 rfl 2 rfl ?_
  refine tv_iconst (v := 1) C dX6_makeAnew_6 (by decide) ?_
  refine tv_iadd C dX6_makeAnew_7 ?_
  refine tv_iald (v := (s 21 (40 * k + (a + 1)))) C (20 + k) (by omega) (eX_at_r c s r (by omega)) (a + 1) (tn_add e_p1 (tn_l 1)) (show (a + 1) < 40 by omega) (by decide) (if_pos (show (a + 1) < 40 by omega)) dX6_makeAnew_8 ?_
  refine tv_bipush (v := 48) C dX6_makeAnew_9 (by decide) ?_
  refine tv_isub C dX6_makeAnew_11 ?_
  rw [show s 21 (40 * k + (a + 1)) - 48 = nI h from eh]
  refine tv_put (ci := 6) (Cn := RX6) (T := TX6) (Nf := 11) (ty := .int) (E' := (eX c (ts_s s 2 (nI h)) r)) C 2 (by decide) rfl rfl in_X6_makeAnew_X6 tyX6 tyX6_ok nmX6 3 (by decide) lk_X6_makeAnew_34 rfl (by decide +kernel) rfl rfl (Nat.le_of_ble_eq_true rfl) (eX_u_high c s r (nI h)) dX6_makeAnew_12 ?_
  refine tv_aload_n C dX6_makeAnew_15 rfl 0 rfl ?_
  refine tv_aload_n C dX6_makeAnew_16 rfl 1 rfl ?_
  refine tv_get (ci := 5) (Cn := RX5) (T := TX5) (Nf := 4) (v := .ref (tv_ad c (20 + k))) C (16 + k) (by omega) (eX_at_s c (ts_s s 2 (nI h)) r (by omega)) rfl in_X6_makeAnew_X5 0 (by decide) lk_X6_makeAnew_29 rfl dX6_makeAnew_17 ?_
  refine tv_iload_n C dX6_makeAnew_20 rfl 2 rfl ?_
  refine tv_iconst (v := 2) C dX6_makeAnew_21 (by decide) ?_
  refine tv_iadd C dX6_makeAnew_22 ?_
  refine tv_iald (v := (s 21 (40 * k + (a + 2)))) C (20 + k) (by omega) (eX_at_r c (ts_s s 2 (nI h)) r (by omega)) (a + 2) (tn_add e_p1 (tn_l 2)) (show (a + 2) < 40 by omega) (by decide) (if_pos (show (a + 2) < 40 by omega)) dX6_makeAnew_23 ?_
  refine tv_bipush (v := 48) C dX6_makeAnew_24 (by decide) ?_
  refine tv_isub C dX6_makeAnew_26 ?_
  rw [show s 21 (40 * k + (a + 2)) - 48 = nI w from ew]
  refine tv_put (ci := 6) (Cn := RX6) (T := TX6) (Nf := 11) (ty := .int) (E' := (eX c (ts_s (ts_s s 2 (nI h)) 3 (nI w)) r)) C 2 (by decide) rfl rfl in_X6_makeAnew_X6 tyX6 tyX6_ok nmX6 4 (by decide) lk_X6_makeAnew_38 rfl (by decide +kernel) rfl rfl (Nat.le_of_ble_eq_true rfl) (eX_u_wide c (ts_s s 2 (nI h)) r (nI w)) dX6_makeAnew_27 ?_
  refine tv_aload_n C dX6_makeAnew_30 rfl 0 rfl ?_
  refine tv_aload_n C dX6_makeAnew_31 rfl 0 rfl ?_
  refine tv_get (ci := 6) (Cn := RX6) (T := TX6) (Nf := 11) (v := .int (nI h)) C 2 (by decide) rfl rfl in_X6_makeAnew_X6 3 (by decide) lk_X6_makeAnew_34 rfl dX6_makeAnew_32 ?_
  refine tv_aload_n C dX6_makeAnew_35 rfl 0 rfl ?_
  refine tv_get (ci := 6) (Cn := RX6) (T := TX6) (Nf := 11) (v := .int (nI w)) C 2 (by decide) rfl rfl in_X6_makeAnew_X6 4 (by decide) lk_X6_makeAnew_38 rfl dX6_makeAnew_36 ?_
  refine tv_imul C dX6_makeAnew_39 ?_
  rw [pk_mul]
  refine tv_put (ci := 6) (Cn := RX6) (T := TX6) (Nf := 11) (ty := .int) (E' := (eX c (ts_s (ts_s (ts_s s 2 (nI h)) 3 (nI w)) 9 (nI (h * w))) r)) C 2 (by decide) rfl rfl in_X6_makeAnew_X6 tyX6 tyX6_ok nmX6 5 (by decide) lk_X6_makeAnew_41 rfl (by decide +kernel) rfl rfl (Nat.le_of_ble_eq_true rfl) (eX_u_count c (ts_s (ts_s s 2 (nI h)) 3 (nI w)) r (nI (h * w))) dX6_makeAnew_40 ?_
  refine tv_iload_n C dX6_makeAnew_43 rfl 2 rfl ?_
  refine tv_iconst (v := 3) C dX6_makeAnew_44 (by decide) ?_
  refine tv_iadd C dX6_makeAnew_45 ?_
  refine tv_istore_n (lv' := [(3, .int (p1 + 3)), (0, .ref (tv_ad c 2)), (1, .ref (tv_ad c (16 + k))), (2, .int p1)]) C dX6_makeAnew_46 rfl (by decide) rfl ?_
  refine tv_iconst (v := 0) C dX6_makeAnew_47 (by decide) ?_
  refine tv_istore (lv' := [(4, .int 0), (3, .int (p1 + 3)), (0, .ref (tv_ad c 2)), (1, .ref (tv_ad c (16 + k))), (2, .int p1)]) C dX6_makeAnew_48 (by decide) rfl ?_
  have hL50 : ∀ (k_50 i : Nat) (x_50_3 : Int32) (x_50_4 : Int32) (w_50 : Nat → va_E), i + k_50 = h → x_50_3 = (nI (a + (3 + i * (w + 1)))) → x_50_4 = (nI i) → w_50 = (eX c (ts_a (ts_a (ts_a (ts_a (ts_a (ts_s (ts_s (ts_s s 2 (nI h)) 3 (nI w)) 9 (nI (h * w))) 10 (ts_f (fw_sun (fun q => s 21 (40 * k + a + q)) w) (s 10) (i * w))) 14 (ts_f (fun _ => 0) (s 14) (i * w))) 11 (ts_f (fun _ => 0) (s 11) (i * w))) 12 (ts_f (fun _ => 0) (s 12) (i * w))) 13 (ts_f (fun _ => 0) (s 13) (i * w))) r) → tv_V c 60 X w_50 50 [(0, .ref (tv_ad c 2)), (1, .ref (tv_ad c (16 + k))), (2, .int p1), (3, .int x_50_3), (4, .int x_50_4)] [] := by
    intro k_50
    induction k_50 with
    | zero =>
      intro i x_50_3 x_50_4 w_50 hi50  ex_50_3 ex_50_4 ew_50
      subst ex_50_3
      subst ex_50_4
      subst ew_50
      have hN50 : i = h := by omega
      refine tv_iload C dX6_makeAnew_50 4 rfl ?_
      refine tv_aload_n C dX6_makeAnew_52 rfl 0 rfl ?_
      refine tv_get (ci := 6) (Cn := RX6) (T := TX6) (Nf := 11) (v := .int (nI h)) C 2 (by decide) rfl rfl in_X6_makeAnew_X6 3 (by decide) lk_X6_makeAnew_34 rfl dX6_makeAnew_53 ?_
      refine tv_icmp_ge C 116 dX6_makeAnew_56 (by decide) (fun c_1 => ?_) (fun c_1 => absurd (tn_le (rfl : nI h = nI h) (rfl : nI i = nI i) (by omega) (by omega)) c_1)
      refine tv_aload_n C dX6_makeAnew_116 rfl 0 rfl ?_
      refine tv_iconst (v := 0) C dX6_makeAnew_117 (by decide) ?_
      refine tv_put (ci := 6) (Cn := RX6) (T := TX6) (Nf := 11) (ty := .int) (E' := (eX c (ts_s (ts_a (ts_a (ts_a (ts_a (ts_a (ts_s (ts_s (ts_s s 2 (nI h)) 3 (nI w)) 9 (nI (h * w))) 10 (ts_f (fw_sun (fun q => s 21 (40 * k + a + q)) w) (s 10) (i * w))) 14 (ts_f (fun _ => 0) (s 14) (i * w))) 11 (ts_f (fun _ => 0) (s 11) (i * w))) 12 (ts_f (fun _ => 0) (s 12) (i * w))) 13 (ts_f (fun _ => 0) (s 13) (i * w))) 4 0) r)) C 2 (by decide) rfl rfl in_X6_makeAnew_X6 tyX6 tyX6_ok nmX6 8 (by decide) lk_X6_makeAnew_48 rfl (by decide +kernel) rfl rfl (Nat.le_of_ble_eq_true rfl) (eX_u_year c (ts_a (ts_a (ts_a (ts_a (ts_a (ts_s (ts_s (ts_s s 2 (nI h)) 3 (nI w)) 9 (nI (h * w))) 10 (ts_f (fw_sun (fun q => s 21 (40 * k + a + q)) w) (s 10) (i * w))) 14 (ts_f (fun _ => 0) (s 14) (i * w))) 11 (ts_f (fun _ => 0) (s 11) (i * w))) 12 (ts_f (fun _ => 0) (s 12) (i * w))) 13 (ts_f (fun _ => 0) (s 13) (i * w))) r 0) dX6_makeAnew_118 ?_
      refine tv_aload_n C dX6_makeAnew_121 rfl 0 rfl ?_
      refine tv_iconst (v := 0) C dX6_makeAnew_122 (by decide) ?_
      refine tv_put (ci := 6) (Cn := RX6) (T := TX6) (Nf := 11) (ty := .int) (E' := (eX c (ts_s (ts_s (ts_a (ts_a (ts_a (ts_a (ts_a (ts_s (ts_s (ts_s s 2 (nI h)) 3 (nI w)) 9 (nI (h * w))) 10 (ts_f (fw_sun (fun q => s 21 (40 * k + a + q)) w) (s 10) (i * w))) 14 (ts_f (fun _ => 0) (s 14) (i * w))) 11 (ts_f (fun _ => 0) (s 11) (i * w))) 12 (ts_f (fun _ => 0) (s 12) (i * w))) 13 (ts_f (fun _ => 0) (s 13) (i * w))) 4 0) 5 0) r)) C 2 (by decide) rfl rfl in_X6_makeAnew_X6 tyX6 tyX6_ok nmX6 9 (by decide) lk_X6_makeAnew_51 rfl (by decide +kernel) rfl rfl (Nat.le_of_ble_eq_true rfl) (eX_u_smoke c (ts_s (ts_a (ts_a (ts_a (ts_a (ts_a (ts_s (ts_s (ts_s s 2 (nI h)) 3 (nI w)) 9 (nI (h * w))) 10 (ts_f (fw_sun (fun q => s 21 (40 * k + a + q)) w) (s 10) (i * w))) 14 (ts_f (fun _ => 0) (s 14) (i * w))) 11 (ts_f (fun _ => 0) (s 11) (i * w))) 12 (ts_f (fun _ => 0) (s 12) (i * w))) 13 (ts_f (fun _ => 0) (s 13) (i * w))) 4 0) r 0) dX6_makeAnew_123 ?_
      refine tv_aload_n C dX6_makeAnew_126 rfl 0 rfl ?_
      refine tv_bipush (v := 10) C dX6_makeAnew_127 (by decide) ?_
      refine tv_put (ci := 6) (Cn := RX6) (T := TX6) (Nf := 11) (ty := .int) (E' := (eX c (ts_s (ts_s (ts_s (ts_a (ts_a (ts_a (ts_a (ts_a (ts_s (ts_s (ts_s s 2 (nI h)) 3 (nI w)) 9 (nI (h * w))) 10 (ts_f (fw_sun (fun q => s 21 (40 * k + a + q)) w) (s 10) (i * w))) 14 (ts_f (fun _ => 0) (s 14) (i * w))) 11 (ts_f (fun _ => 0) (s 11) (i * w))) 12 (ts_f (fun _ => 0) (s 12) (i * w))) 13 (ts_f (fun _ => 0) (s 13) (i * w))) 4 0) 5 0) 6 10) r)) C 2 (by decide) rfl rfl in_X6_makeAnew_X6 tyX6 tyX6_ok nmX6 10 (by decide) lk_X6_makeAnew_54 rfl (by decide +kernel) rfl rfl (Nat.le_of_ble_eq_true rfl) (eX_u_line c (ts_s (ts_s (ts_a (ts_a (ts_a (ts_a (ts_a (ts_s (ts_s (ts_s s 2 (nI h)) 3 (nI w)) 9 (nI (h * w))) 10 (ts_f (fw_sun (fun q => s 21 (40 * k + a + q)) w) (s 10) (i * w))) 14 (ts_f (fun _ => 0) (s 14) (i * w))) 11 (ts_f (fun _ => 0) (s 11) (i * w))) 12 (ts_f (fun _ => 0) (s 12) (i * w))) 13 (ts_f (fun _ => 0) (s 13) (i * w))) 4 0) 5 0) r 10) dX6_makeAnew_129 ?_
      refine tv_aload_n C dX6_makeAnew_132 rfl 0 rfl ?_
      refine tv_iconst (v := 0) C dX6_makeAnew_133 (by decide) ?_
      refine tv_put (ci := 6) (Cn := RX6) (T := TX6) (Nf := 11) (ty := .int) (E' := (eX c (ts_s (ts_s (ts_s (ts_s (ts_a (ts_a (ts_a (ts_a (ts_a (ts_s (ts_s (ts_s s 2 (nI h)) 3 (nI w)) 9 (nI (h * w))) 10 (ts_f (fw_sun (fun q => s 21 (40 * k + a + q)) w) (s 10) (i * w))) 14 (ts_f (fun _ => 0) (s 14) (i * w))) 11 (ts_f (fun _ => 0) (s 11) (i * w))) 12 (ts_f (fun _ => 0) (s 12) (i * w))) 13 (ts_f (fun _ => 0) (s 13) (i * w))) 4 0) 5 0) 6 10) 8 0) r)) C 2 (by decide) rfl rfl in_X6_makeAnew_X6 tyX6 tyX6_ok nmX6 7 (by decide) lk_X6_makeAnew_57 rfl (by decide +kernel) rfl rfl (Nat.le_of_ble_eq_true rfl) (eX_u_lightCount c (ts_s (ts_s (ts_s (ts_a (ts_a (ts_a (ts_a (ts_a (ts_s (ts_s (ts_s s 2 (nI h)) 3 (nI w)) 9 (nI (h * w))) 10 (ts_f (fw_sun (fun q => s 21 (40 * k + a + q)) w) (s 10) (i * w))) 14 (ts_f (fun _ => 0) (s 14) (i * w))) 11 (ts_f (fun _ => 0) (s 11) (i * w))) 12 (ts_f (fun _ => 0) (s 12) (i * w))) 13 (ts_f (fun _ => 0) (s 13) (i * w))) 4 0) 5 0) 6 10) r 0) dX6_makeAnew_134 ?_
      refine tv_aload_n C dX6_makeAnew_137 rfl 0 rfl ?_
      refine tv_iconst (v := 0) C dX6_makeAnew_138 (by decide) ?_
      refine tv_put (ci := 6) (Cn := RX6) (T := TX6) (Nf := 11) (ty := .int) (E' := (eX c (ts_s (ts_s (ts_s (ts_s (ts_s (ts_a (ts_a (ts_a (ts_a (ts_a (ts_s (ts_s (ts_s s 2 (nI h)) 3 (nI w)) 9 (nI (h * w))) 10 (ts_f (fw_sun (fun q => s 21 (40 * k + a + q)) w) (s 10) (i * w))) 14 (ts_f (fun _ => 0) (s 14) (i * w))) 11 (ts_f (fun _ => 0) (s 11) (i * w))) 12 (ts_f (fun _ => 0) (s 12) (i * w))) 13 (ts_f (fun _ => 0) (s 13) (i * w))) 4 0) 5 0) 6 10) 8 0) 7 0) r)) C 2 (by decide) rfl rfl in_X6_makeAnew_X6 tyX6 tyX6_ok nmX6 6 (by decide) lk_X6_makeAnew_60 rfl (by decide +kernel) rfl rfl (Nat.le_of_ble_eq_true rfl) (eX_u_coatCount c (ts_s (ts_s (ts_s (ts_s (ts_a (ts_a (ts_a (ts_a (ts_a (ts_s (ts_s (ts_s s 2 (nI h)) 3 (nI w)) 9 (nI (h * w))) 10 (ts_f (fw_sun (fun q => s 21 (40 * k + a + q)) w) (s 10) (i * w))) 14 (ts_f (fun _ => 0) (s 14) (i * w))) 11 (ts_f (fun _ => 0) (s 11) (i * w))) 12 (ts_f (fun _ => 0) (s 12) (i * w))) 13 (ts_f (fun _ => 0) (s 13) (i * w))) 4 0) 5 0) 6 10) 8 0) r 0) dX6_makeAnew_139 ?_
      refine tv_aload_n C dX6_makeAnew_142 rfl 0 rfl ?_
      refine tv_iconst (v := 0) C dX6_makeAnew_143 (by decide) ?_
      refine tv_bipush (v := 90) C dX6_makeAnew_144 (by decide) ?_
      refine tv_bipush (v := 90) C dX6_makeAnew_146 (by decide) ?_
      refine tv_bipush (v := 90) C dX6_makeAnew_148 (by decide) ?_
      refine tv_calli (As := [.int 0, .int 90, .int 90, .int 90]) (rest := []) (ci := 6) (cn := RX6) (T := TX6) (Nf := 11) C 2 (kX6_addCoat c (ts_s (ts_s (ts_s (ts_s (ts_s (ts_a (ts_a (ts_a (ts_a (ts_a (ts_s (ts_s (ts_s s 2 (nI h)) 3 (nI w)) 9 (nI (h * w))) 10 (ts_f (fw_sun (fun q => s 21 (40 * k + a + q)) w) (s 10) (i * w))) 14 (ts_f (fun _ => 0) (s 14) (i * w))) 11 (ts_f (fun _ => 0) (s 11) (i * w))) 12 (ts_f (fun _ => 0) (s 12) (i * w))) 13 (ts_f (fun _ => 0) (s 13) (i * w))) 4 0) 5 0) 6 10) 8 0) 7 0) r 0 0 90 90 90 (by decide) rfl) gX6_makeAnew_X6_addCoat rfl yd_X6_addCoat ⟨rfl, rfl⟩ (by decide) (by decide) rfl rfl rfl rfl (Nat.le_of_ble_eq_true rfl) dX6_makeAnew_150 (fun q_2 u_2 z_2 => ?_)
      obtain ⟨rfl, rfl⟩ := z_2
      show tv_V c 60 X (eX c (sp_add (ts_s (ts_s (ts_s (ts_s (ts_s (ts_a (ts_a (ts_a (ts_a (ts_a (ts_s (ts_s (ts_s s 2 (nI h)) 3 (nI w)) 9 (nI (h * w))) 10 (ts_f (fw_sun (fun q => s 21 (40 * k + a + q)) w) (s 10) (i * w))) 14 (ts_f (fun _ => 0) (s 14) (i * w))) 11 (ts_f (fun _ => 0) (s 11) (i * w))) 12 (ts_f (fun _ => 0) (s 12) (i * w))) 13 (ts_f (fun _ => 0) (s 13) (i * w))) 4 0) 5 0) 6 10) 8 0) 7 0) 0 0 90 90 90) r) 153 [(0, .ref (tv_ad c 2)), (1, .ref (tv_ad c (16 + k))), (2, .int p1), (3, .int (nI (a + (3 + i * (w + 1))))), (4, .int (nI i))] [.int (id 0 + 1 - 1)]
      refine tv_pop C dX6_makeAnew_153 rfl ?_
      exact hR _ _ _ dX6_makeAnew_154 (by rw [hN50]; rfl)
    | succ k_50 ih50 =>
      intro i x_50_3 x_50_4 w_50 hi50  ex_50_3 ex_50_4 ew_50
      subst ex_50_3
      subst ex_50_4
      subst ew_50
      have hN50 : i < h := by omega
      have hB : i * (w + 1) = i * w + i := Nat.mul_succ i w
      have hS : (i + 1) * (w + 1) ≤ h * (w + 1) := Nat.mul_le_mul_right _ hN50
      have hS2 : (i + 1) * w ≤ h * w := Nat.mul_le_mul_right _ hN50
      rw [Nat.succ_mul] at hS hS2
      refine tv_iload C dX6_makeAnew_50 4 rfl ?_
      refine tv_aload_n C dX6_makeAnew_52 rfl 0 rfl ?_
      refine tv_get (ci := 6) (Cn := RX6) (T := TX6) (Nf := 11) (v := .int (nI h)) C 2 (by decide) rfl rfl in_X6_makeAnew_X6 3 (by decide) lk_X6_makeAnew_34 rfl dX6_makeAnew_53 ?_
      refine tv_icmp_ge C 116 dX6_makeAnew_56 (by decide) (fun c_3 => absurd c_3 (tn_nle (rfl : nI h = nI h) (rfl : nI i = nI i) (by omega) (by omega))) (fun c_3 => ?_)
      refine tv_iinc (v := ((nI (a + (3 + i * (w + 1)))) + 1)) (lv' := [(3, .int ((nI (a + (3 + i * (w + 1)))) + 1)), (0, .ref (tv_ad c 2)), (1, .ref (tv_ad c (16 + k))), (2, .int p1), (4, .int (nI i))]) C dX6_makeAnew_59 3 rfl rfl (by decide) rfl ?_
      refine tv_iconst (v := 0) C dX6_makeAnew_62 (by decide) ?_
      refine tv_istore (lv' := [(5, .int 0), (3, .int ((nI (a + (3 + i * (w + 1)))) + 1)), (0, .ref (tv_ad c 2)), (1, .ref (tv_ad c (16 + k))), (2, .int p1), (4, .int (nI i))]) C dX6_makeAnew_63 (by decide) rfl ?_
      have hL65 : ∀ (k_65 m : Nat) (x_65_3 : Int32) (x_65_5 : Int32) (w_65 : Nat → va_E), m + k_65 = w → x_65_3 = (nI (a + (3 + (i * (w + 1) + 1 + m)))) → x_65_5 = (nI m) → w_65 = (eX c (ts_a (ts_a (ts_a (ts_a (ts_a (ts_s (ts_s (ts_s s 2 (nI h)) 3 (nI w)) 9 (nI (h * w))) 10 (ts_f (fw_sun (fun q => s 21 (40 * k + a + q)) w) (s 10) (i * w + m))) 14 (ts_f (fun _ => 0) (s 14) (i * w + m))) 11 (ts_f (fun _ => 0) (s 11) (i * w + m))) 12 (ts_f (fun _ => 0) (s 12) (i * w + m))) 13 (ts_f (fun _ => 0) (s 13) (i * w + m))) r) → tv_V c 60 X w_65 65 [(0, .ref (tv_ad c 2)), (1, .ref (tv_ad c (16 + k))), (2, .int p1), (3, .int x_65_3), (4, .int (nI i)), (5, .int x_65_5)] [] := by
        intro k_65
        induction k_65 with
        | zero =>
          intro m x_65_3 x_65_5 w_65 hi65  ex_65_3 ex_65_5 ew_65
          subst ex_65_3
          subst ex_65_5
          subst ew_65
          have hN65 : m = w := by omega
          refine tv_iload C dX6_makeAnew_65 5 rfl ?_
          refine tv_aload_n C dX6_makeAnew_67 rfl 0 rfl ?_
          refine tv_get (ci := 6) (Cn := RX6) (T := TX6) (Nf := 11) (v := .int (nI w)) C 2 (by decide) rfl rfl in_X6_makeAnew_X6 4 (by decide) lk_X6_makeAnew_38 rfl dX6_makeAnew_68 ?_
          refine tv_icmp_ge C 110 dX6_makeAnew_71 (by decide) (fun c_4 => ?_) (fun c_4 => absurd (tn_le (rfl : nI w = nI w) (rfl : nI m = nI m) (by omega) (by omega)) c_4)
          refine tv_iinc (v := ((nI i) + 1)) (lv' := [(4, .int ((nI i) + 1)), (0, .ref (tv_ad c 2)), (1, .ref (tv_ad c (16 + k))), (2, .int p1), (3, .int (nI (a + (3 + (i * (w + 1) + 1 + m))))), (5, .int (nI m))]) C dX6_makeAnew_110 4 rfl rfl (by decide) rfl ?_
          refine tv_goto C 50 dX6_makeAnew_113 (by decide) ?_
          refine tv_lsub [1, 2, 3, 4, 0] rfl ?_
          exact ih50 (i + 1) _ _ _ (by omega)  (by rw [Nat.succ_mul, hN65, show a + (3 + (i * (w + 1) + 1 + w)) = a + (3 + (i * (w + 1) + (w + 1))) by omega]) (by first | rfl | exact nI_1 _ | (simp only [c_3, c_4, if_true, ↓reduceIte]; done) | (simp [c_3, c_4, if_true]; done) | (exfalso; clear hR C; simp_all; done)) (by rw [show (i + 1) * w = i * w + w from Nat.succ_mul i w, hN65])
        | succ k_65 ih65 =>
          intro m x_65_3 x_65_5 w_65 hi65  ex_65_3 ex_65_5 ew_65
          subst ex_65_3
          subst ex_65_5
          subst ew_65
          have hN65 : m < w := by omega
          refine tv_iload C dX6_makeAnew_65 5 rfl ?_
          refine tv_aload_n C dX6_makeAnew_67 rfl 0 rfl ?_
          refine tv_get (ci := 6) (Cn := RX6) (T := TX6) (Nf := 11) (v := .int (nI w)) C 2 (by decide) rfl rfl in_X6_makeAnew_X6 4 (by decide) lk_X6_makeAnew_38 rfl dX6_makeAnew_68 ?_
          refine tv_icmp_ge C 110 dX6_makeAnew_71 (by decide) (fun c_5 => absurd c_5 (tn_nle (rfl : nI w = nI w) (rfl : nI m = nI m) (by omega) (by omega))) (fun c_5 => ?_)
          refine tv_aload_n C dX6_makeAnew_74 rfl 0 rfl ?_
          refine tv_get (ci := 6) (Cn := RX6) (T := TX6) (Nf := 11) (v := .ref (tv_ad c 3)) C 2 (by decide) rfl rfl in_X6_makeAnew_X6 0 (by decide) lk_X6_makeAnew_11 rfl dX6_makeAnew_75 ?_
          refine tv_iload C dX6_makeAnew_78 4 rfl ?_
          refine tv_aload_n C dX6_makeAnew_80 rfl 0 rfl ?_
          refine tv_get (ci := 6) (Cn := RX6) (T := TX6) (Nf := 11) (v := .int (nI w)) C 2 (by decide) rfl rfl in_X6_makeAnew_X6 4 (by decide) lk_X6_makeAnew_38 rfl dX6_makeAnew_81 ?_
          refine tv_imul C dX6_makeAnew_84 ?_
          refine tv_iload C dX6_makeAnew_85 5 rfl ?_
          refine tv_iadd C dX6_makeAnew_87 ?_
          refine tv_aald (Cn := RX0) (a := tv_ad c (24 + ((i * w) + m))) C 3 (by decide) rfl 3 rfl ((i * w) + m) (tn_add (tn_mul (rfl : nI i = nI i) (rfl : nI w = nI w)) (rfl : nI m = nI m)) (show ((i * w) + m) < 24 by omega) (by decide) rfl dX6_makeAnew_88 ?_
          refine tv_aload_n C dX6_makeAnew_89 rfl 1 rfl ?_
          refine tv_get (ci := 5) (Cn := RX5) (T := TX5) (Nf := 4) (v := .ref (tv_ad c (20 + k))) C (16 + k) (by omega) (eX_at_s c (ts_a (ts_a (ts_a (ts_a (ts_a (ts_s (ts_s (ts_s s 2 (nI h)) 3 (nI w)) 9 (nI (h * w))) 10 (ts_f (fw_sun (fun q => s 21 (40 * k + a + q)) w) (s 10) (i * w + m))) 14 (ts_f (fun _ => 0) (s 14) (i * w + m))) 11 (ts_f (fun _ => 0) (s 11) (i * w + m))) 12 (ts_f (fun _ => 0) (s 12) (i * w + m))) 13 (ts_f (fun _ => 0) (s 13) (i * w + m))) r (by omega)) rfl in_X6_makeAnew_X5 0 (by decide) lk_X6_makeAnew_29 rfl dX6_makeAnew_90 ?_
          refine tv_iload_n C dX6_makeAnew_93 rfl 3 rfl ?_
          refine tv_iald (v := (s 21 (40 * k + (a + (3 + (i * (w + 1) + 1 + m)))))) C (20 + k) (by omega) (eX_at_r c (ts_a (ts_a (ts_a (ts_a (ts_a (ts_s (ts_s (ts_s s 2 (nI h)) 3 (nI w)) 9 (nI (h * w))) 10 (ts_f (fw_sun (fun q => s 21 (40 * k + a + q)) w) (s 10) (i * w + m))) 14 (ts_f (fun _ => 0) (s 14) (i * w + m))) 11 (ts_f (fun _ => 0) (s 11) (i * w + m))) 12 (ts_f (fun _ => 0) (s 12) (i * w + m))) 13 (ts_f (fun _ => 0) (s 13) (i * w + m))) r (by omega)) (a + (3 + (i * (w + 1) + 1 + m))) (rfl : nI (a + (3 + (i * (w + 1) + 1 + m))) = nI (a + (3 + (i * (w + 1) + 1 + m)))) (show (a + (3 + (i * (w + 1) + 1 + m))) < 40 by omega) (by decide) (if_pos (show (a + (3 + (i * (w + 1) + 1 + m))) < 40 by omega)) dX6_makeAnew_94 ?_
          refine tv_bipush (v := 48) C dX6_makeAnew_95 (by decide) ?_
          refine tv_isub C dX6_makeAnew_97 ?_
          refine tv_callv (As := [.int ((s 21 (40 * k + (a + (3 + (i * (w + 1) + 1 + m))))) - 48)]) (rest := []) (ci := 0) (cn := RX0) (T := TX0) (Nf := 5) C (24 + ((i * w) + m)) (kX0_begin c (ts_a (ts_a (ts_a (ts_a (ts_a (ts_s (ts_s (ts_s s 2 (nI h)) 3 (nI w)) 9 (nI (h * w))) 10 (ts_f (fw_sun (fun q => s 21 (40 * k + a + q)) w) (s 10) (i * w + m))) 14 (ts_f (fun _ => 0) (s 14) (i * w + m))) 11 (ts_f (fun _ => 0) (s 11) (i * w + m))) 12 (ts_f (fun _ => 0) (s 12) (i * w + m))) 13 (ts_f (fun _ => 0) (s 13) (i * w + m))) r ((i * w) + m) ((s 21 (40 * k + (a + (3 + (i * (w + 1) + 1 + m))))) - 48) (show ((i * w) + m) < 24 by omega)) gX6_makeAnew_X0_begin rfl yd_X0_begin ⟨rfl, rfl⟩ (by decide) (by omega) (eX_at_c c (ts_a (ts_a (ts_a (ts_a (ts_a (ts_s (ts_s (ts_s s 2 (nI h)) 3 (nI w)) 9 (nI (h * w))) 10 (ts_f (fw_sun (fun q => s 21 (40 * k + a + q)) w) (s 10) (i * w + m))) 14 (ts_f (fun _ => 0) (s 14) (i * w + m))) 11 (ts_f (fun _ => 0) (s 11) (i * w + m))) 12 (ts_f (fun _ => 0) (s 12) (i * w + m))) 13 (ts_f (fun _ => 0) (s 13) (i * w + m))) r (by omega)) rfl rfl rfl (Nat.le_of_ble_eq_true rfl) dX6_makeAnew_98 (fun u_6 z_6 => ?_)
          subst z_6
          show tv_V c 60 X (eX c (ts_a (ts_a (ts_a (ts_a (ts_a (ts_a (ts_a (ts_a (ts_a (ts_a (ts_s (ts_s (ts_s s 2 (nI h)) 3 (nI w)) 9 (nI (h * w))) 10 (ts_f (fw_sun (fun q => s 21 (40 * k + a + q)) w) (s 10) (i * w + m))) 14 (ts_f (fun _ => 0) (s 14) (i * w + m))) 11 (ts_f (fun _ => 0) (s 11) (i * w + m))) 12 (ts_f (fun _ => 0) (s 12) (i * w + m))) 13 (ts_f (fun _ => 0) (s 13) (i * w + m))) 10 (upd ((ts_f (fw_sun (fun q => s 21 (40 * k + a + q)) w) (s 10) (i * w + m))) ((i * w) + m) ((s 21 (40 * k + (a + (3 + (i * (w + 1) + 1 + m))))) - 48))) 14 (upd ((ts_f (fun _ => 0) (s 14) (i * w + m))) ((i * w) + m) 0)) 11 (upd ((ts_f (fun _ => 0) (s 11) (i * w + m))) ((i * w) + m) 0)) 12 (upd ((ts_f (fun _ => 0) (s 12) (i * w + m))) ((i * w) + m) 0)) 13 (upd ((ts_f (fun _ => 0) (s 13) (i * w + m))) ((i * w) + m) 0)) r) 101 [(0, .ref (tv_ad c 2)), (1, .ref (tv_ad c (16 + k))), (2, .int p1), (3, .int (nI (a + (3 + (i * (w + 1) + 1 + m))))), (4, .int (nI i)), (5, .int (nI m))] []
          refine tv_eqE (E' := (eX c (ts_a (ts_a (ts_a (ts_a (ts_a (ts_s (ts_s (ts_s s 2 (nI h)) 3 (nI w)) 9 (nI (h * w))) 10 (upd ((ts_f (fw_sun (fun q => s 21 (40 * k + a + q)) w) (s 10) (i * w + m))) ((i * w) + m) ((s 21 (40 * k + (a + (3 + (i * (w + 1) + 1 + m))))) - 48))) 14 (upd ((ts_f (fun _ => 0) (s 14) (i * w + m))) ((i * w) + m) 0)) 11 (upd ((ts_f (fun _ => 0) (s 11) (i * w + m))) ((i * w) + m) 0)) 12 (upd ((ts_f (fun _ => 0) (s 12) (i * w + m))) ((i * w) + m) 0)) 13 (upd ((ts_f (fun _ => 0) (s 13) (i * w + m))) ((i * w) + m) 0)) r)) (congrArg (fun z => eX c z r) (by funext zz; rcases Classical.em (zz = 2) with hzz | h_2; (subst hzz; rfl); rcases Classical.em (zz = 3) with hzz | h_3; (subst hzz; rfl); rcases Classical.em (zz = 9) with hzz | h_9; (subst hzz; rfl); rcases Classical.em (zz = 10) with hzz | h_10; (subst hzz; rfl); rcases Classical.em (zz = 14) with hzz | h_14; (subst hzz; rfl); rcases Classical.em (zz = 11) with hzz | h_11; (subst hzz; rfl); rcases Classical.em (zz = 12) with hzz | h_12; (subst hzz; rfl); rcases Classical.em (zz = 13) with hzz | h_13; (subst hzz; rfl); simp only [ts_s, ts_a, h_2, h_3, h_9, h_10, h_14, h_11, h_12, h_13, ↓reduceIte])) ?_
          show tv_V c 60 X (eX c (ts_a (ts_a (ts_a (ts_a (ts_a (ts_s (ts_s (ts_s s 2 (nI h)) 3 (nI w)) 9 (nI (h * w))) 10 (upd ((ts_f (fw_sun (fun q => s 21 (40 * k + a + q)) w) (s 10) (i * w + m))) ((i * w) + m) ((s 21 (40 * k + (a + (3 + (i * (w + 1) + 1 + m))))) - 48))) 14 (upd ((ts_f (fun _ => 0) (s 14) (i * w + m))) ((i * w) + m) 0)) 11 (upd ((ts_f (fun _ => 0) (s 11) (i * w + m))) ((i * w) + m) 0)) 12 (upd ((ts_f (fun _ => 0) (s 12) (i * w + m))) ((i * w) + m) 0)) 13 (upd ((ts_f (fun _ => 0) (s 13) (i * w + m))) ((i * w) + m) 0)) r) 101 [(0, .ref (tv_ad c 2)), (1, .ref (tv_ad c (16 + k))), (2, .int p1), (3, .int (nI (a + (3 + (i * (w + 1) + 1 + m))))), (4, .int (nI i)), (5, .int (nI m))] []
          refine tv_iinc (v := ((nI (a + (3 + (i * (w + 1) + 1 + m)))) + 1)) (lv' := [(3, .int ((nI (a + (3 + (i * (w + 1) + 1 + m)))) + 1)), (0, .ref (tv_ad c 2)), (1, .ref (tv_ad c (16 + k))), (2, .int p1), (4, .int (nI i)), (5, .int (nI m))]) C dX6_makeAnew_101 3 rfl rfl (by decide) rfl ?_
          refine tv_iinc (v := ((nI m) + 1)) (lv' := [(5, .int ((nI m) + 1)), (3, .int ((nI (a + (3 + (i * (w + 1) + 1 + m)))) + 1)), (0, .ref (tv_ad c 2)), (1, .ref (tv_ad c (16 + k))), (2, .int p1), (4, .int (nI i))]) C dX6_makeAnew_104 5 rfl rfl (by decide) rfl ?_
          refine tv_goto C 65 dX6_makeAnew_107 (by decide) ?_
          refine tv_lsub [2, 3, 4, 1, 5, 0] rfl ?_
          exact ih65 (m + 1) _ _ _ (by omega)  (by rw [nI_1]; congr 1) (by first | rfl | exact nI_1 _ | (simp only [c_3, c_5, if_true, ↓reduceIte]; done) | (simp [c_3, c_5, if_true]; done) | (exfalso; clear hR C; simp_all; done)) (by rw [ts_f_u (f := fw_sun (fun q => s 21 (40 * k + a + q)) w) (by rw [fs_at (by omega)]; show _ = s 21 (40 * k + a + (3 + (i * (w + 1) + 1 + m))) - 48; rw [Nat.add_assoc (40 * k) a]), ts_f_u (f := fun _ => 0) rfl, ts_f_u (f := fun _ => 0) rfl, ts_f_u (f := fun _ => 0) rfl, ts_f_u (f := fun _ => 0) rfl]; rfl)
      refine tv_lsub [2, 3, 4, 1, 5, 0] rfl ?_
      exact hL65 (w - 0) 0 _ _ _ (by omega)  (by rw [nI_1]; congr 1) (by rfl) (by rfl)
  refine tv_lsub [2, 3, 4, 1, 0] rfl ?_
  exact hL50 (h - 0) 0 _ _ _ (by omega)  (by rw [Nat.zero_mul]; exact tn_add e_p1 (tn_l 3)) (by first | (simp only [if_true, ↓reduceIte]; done) | rfl | (simp [if_true]; done) | (exfalso; clear hR C; simp_all; done)) (by rw [Nat.zero_mul, ts_f_0, ts_f_0, ts_f_0, ts_f_0, ts_f_0]; exact congrArg (fun z => eX c z r) (by funext a; simp only [ts_s, ts_a]; (repeat' split) <;> first | rfl | (subst_vars; rfl) | (exfalso; omega)))
set_option maxHeartbeats 1000000 in
set_option maxRecDepth 100000 in
theorem kX7_wall (c : tv_c) (s r : ts_T)  (p0 p1 p2 p3 : Int32) (hI : iv s) : tv_Fi c 60 yX7_wall wsX7_wall { frames := 4, cells := 0, slots := 0, locals := 92 } [.ref (tv_ad c 0), .int p0, .int p1, .int p2, .int p3] (eX c s r) ((sp_wall s p0 p1 p2 p3).1) (eX c (sp_wall s p0 p1 p2 p3).2 r) := by
  refine tv_metI (by decide +kernel) rfl rfl (Nat.le_of_ble_eq_true rfl) (fun X C hR => ?_)
  show tv_V c 60 X (eX c s r) 0 [(0, .ref (tv_ad c 0)), (1, .int p0), (2, .int p1), (3, .int p2), (4, .int p3)] []
  have hC := iv.hC hI
  obtain ⟨h, w, n, nk, nl, ny, nm, li, e2, e3, e9, hnw, hh, hw, hn, hz, hp, e7, hk, e8, hl, e4, hy, e5, hm, e6, hli, hcel, hkin, hban, hwei, hshe⟩ := id hI
  refine tv_aload_n C dX7_wall_0 rfl 0 rfl ?_
  refine tv_iconst (v := 0) C dX7_wall_1 (by decide) ?_
  refine tv_put (ci := 7) (Cn := RX7) (T := TX7) (Nf := 7) (ty := .int) (E' := (eX c (ts_s s 0 0) r)) C 0 (by decide) rfl rfl in_X7_wall_X7 tyX7 tyX7_ok nmX7 6 (by decide) lk_X7_wall_50 rfl (by decide +kernel) rfl rfl (Nat.le_of_ble_eq_true rfl) (eX_u_latestFault c s r 0) dX7_wall_2 ?_
  refine tv_iload_n C dX7_wall_5 rfl 1 rfl ?_
  refine tv_callis (As := [.int p0]) (rest := []) C (kX7_isSheet c (ts_s s 0 0) r  p0 ) gX7_wall_X7_isSheet rfl yd_X7_isSheet ⟨rfl, rfl⟩ (by decide) rfl rfl (Nat.le_of_ble_eq_true rfl) dX7_wall_6 (fun q_1 u_1 z_1 => ?_)
  obtain ⟨rfl, rfl⟩ := z_1
  show tv_V c 60 X (eX c (ts_s s 0 0) r) 9 [(0, .ref (tv_ad c 0)), (1, .int p0), (2, .int p1), (3, .int p2), (4, .int p3)] [.int (sp_in p0 0 3)]
  refine tv_if_ne C 14 dX7_wall_9 (by decide) (fun c_2 => ?_) (fun c_2 => ?_)
  · skip
    obtain ⟨j_p0, hj_p0, ej_p0, ek_p0⟩ := in_in (b := 3) (by decide) c_2
    refine tv_iload_n C dX7_wall_14 rfl 2 rfl ?_
    refine tv_callis (As := [.int p1]) (rest := []) C (kX7_isSort c (ts_s s 0 0) r  p1 ) gX7_wall_X7_isSort rfl yd_X7_isSort ⟨rfl, rfl⟩ (by decide) rfl rfl (Nat.le_of_ble_eq_true rfl) dX7_wall_15 (fun q_3 u_3 z_3 => ?_)
    obtain ⟨rfl, rfl⟩ := z_3
    show tv_V c 60 X (eX c (ts_s s 0 0) r) 18 [(0, .ref (tv_ad c 0)), (1, .int p0), (2, .int p1), (3, .int p2), (4, .int p3)] [.int (sp_in p1 0 2)]
    refine tv_if_ne C 24 dX7_wall_18 (by decide) (fun c_4 => ?_) (fun c_4 => ?_)
    · skip
      obtain ⟨j_p1, hj_p1, ej_p1, ek_p1⟩ := in_in (b := 2) (by decide) c_4
      refine tv_aload_n C dX7_wall_24 rfl 0 rfl ?_
      refine tv_get (ci := 7) (Cn := RX7) (T := TX7) (Nf := 7) (v := .ref (tv_ad c 1)) C 0 (by decide) rfl rfl in_X7_wall_X7 0 (by decide) lk_X7_wall_13 rfl dX7_wall_25 ?_
      refine tv_iload_n C dX7_wall_28 rfl 1 rfl ?_
      refine tv_aald (Cn := RX5) (a := tv_ad c (16 + j_p0)) C 1 (by decide) rfl 2 rfl j_p0 ej_p0 (show j_p0 < 4 by omega) (by decide) rfl dX7_wall_29 ?_
      refine tv_astore (lv' := [(5, .ref (tv_ad c (16 + j_p0))), (0, .ref (tv_ad c 0)), (1, .int p0), (2, .int p1), (3, .int p2), (4, .int p3)]) C dX7_wall_30 (by decide) rfl ?_
      refine tv_aload C dX7_wall_32 0 rfl ?_
      refine tv_iload_n C dX7_wall_34 rfl 3 rfl ?_
      refine tv_calli (As := [.int p1]) (rest := []) (ci := 5) (cn := RX5) (T := TX5) (Nf := 4) C (16 + j_p0) (kX5_faultAs c (ts_s s 0 0) r j_p0 p1 (show j_p0 < 4 by omega)) gX7_wall_X5_faultAs rfl yd_X5_faultAs ⟨rfl, rfl⟩ (by decide) (by omega) (eX_at_s c (ts_s s 0 0) r (by omega)) rfl rfl rfl (Nat.le_of_ble_eq_true rfl) dX7_wall_35 (fun q_5 u_5 z_5 => ?_)
      obtain ⟨rfl, rfl⟩ := z_5
      show tv_V c 60 X (eX c (ts_s s 0 0) r) 38 [(5, .ref (tv_ad c (16 + j_p0))), (0, .ref (tv_ad c 0)), (1, .int p0), (2, .int p1), (3, .int p2), (4, .int p3)] [.int (sp_fa s j_p0 p1)]
      refine tv_istore (lv' := [(6, .int (sp_fa s j_p0 p1)), (5, .ref (tv_ad c (16 + j_p0))), (0, .ref (tv_ad c 0)), (1, .int p0), (2, .int p1), (3, .int p2), (4, .int p3)]) C dX7_wall_38 (by decide) rfl ?_
      refine tv_iload C dX7_wall_40 0 rfl ?_
      refine tv_if_ne C 53 dX7_wall_42 (by decide) (fun c_6 => ?_) (fun c_6 => ?_)
      · skip
        refine tv_iload C dX7_wall_53 0 rfl ?_
        refine tv_if_ne C 72 dX7_wall_55 (by decide) (fun c_7 => ?_) (fun c_7 => absurd c_7 c_6)
        refine tv_iload C dX7_wall_72 0 rfl ?_
        refine tv_if_eq C 84 dX7_wall_74 (by decide) (fun c_8 => absurd c_8 c_6) (fun c_8 => ?_)
        refine tv_aload_n C dX7_wall_77 rfl 2 rfl ?_
        refine tv_iload C dX7_wall_78 0 rfl ?_
        refine tv_calli (As := [.int (sp_fa s j_p0 p1)]) (rest := []) (ci := 7) (cn := RX7) (T := TX7) (Nf := 7) C 0 (kX7_failed c (ts_s s 0 0) r  (sp_fa s j_p0 p1) ) gX7_wall_X7_failed rfl yd_X7_failed ⟨rfl, rfl⟩ (by decide) (by decide) rfl rfl rfl rfl (Nat.le_of_ble_eq_true rfl) dX7_wall_80 (fun q_9 u_9 z_9 => ?_)
        obtain ⟨rfl, rfl⟩ := z_9
        show tv_V c 60 X (eX c (ts_s (ts_s s 0 0) 0 (sp_fa s j_p0 p1)) r) 83 [(6, .int (sp_fa s j_p0 p1)), (5, .ref (tv_ad c (16 + j_p0))), (0, .ref (tv_ad c 0)), (1, .int p0), (2, .int p1), (3, .int p2), (4, .int p3)] [.int ((-10) - (sp_fa s j_p0 p1))]
        refine tv_eqE (E' := (eX c (ts_s s 0 (sp_fa s j_p0 p1)) r)) (congrArg (fun z => eX c z r) (by funext zz; rcases Classical.em (zz = 0) with hzz | h_0; (subst hzz; rfl); simp only [ts_s, ts_a, h_0, ↓reduceIte])) ?_
        show tv_V c 60 X (eX c (ts_s s 0 (sp_fa s j_p0 p1)) r) 83 [(6, .int (sp_fa s j_p0 p1)), (5, .ref (tv_ad c (16 + j_p0))), (0, .ref (tv_ad c 0)), (1, .int p0), (2, .int p1), (3, .int p2), (4, .int p3)] [.int ((-10) - (sp_fa s j_p0 p1))]
        exact hR _ _ _ _ dX7_wall_83 ⟨by simp only [sp_wall, sp_wf, tn_30, tn_40, c_2, ek_p0, c_4, ek_p1, c_6, c_7, c_8, ts_ss, ↓reduceIte], by simp only [sp_wall, sp_wf, tn_30, tn_40, c_2, ek_p0, c_4, ek_p1, c_6, c_7, c_8, ts_ss, ↓reduceIte]⟩
      · skip
        refine tv_iload C dX7_wall_45 6 rfl ?_
        refine tv_if_ge C 53 dX7_wall_47 (by decide) (fun c_10 => ?_) (fun c_10 => ?_)
        · skip
          refine tv_iload C dX7_wall_53 0 rfl ?_
          refine tv_if_ne C 72 dX7_wall_55 (by decide) (fun c_11 => absurd c_6 c_11) (fun c_11 => ?_)
          refine tv_aload C dX7_wall_58 1 rfl ?_
          refine tv_iload_n C dX7_wall_60 rfl 5 rfl ?_
          refine tv_iload C dX7_wall_61 6 rfl ?_
          refine tv_calli (As := [.int p2, .int p3]) (rest := []) (ci := 5) (cn := RX5) (T := TX5) (Nf := 4) C (16 + j_p0) (kX5_reaches c (ts_s s 0 0) r j_p0 p2 p3 (show j_p0 < 4 by omega)) gX7_wall_X5_reaches rfl yd_X5_reaches ⟨rfl, rfl⟩ (by decide) (by omega) (eX_at_s c (ts_s s 0 0) r (by omega)) rfl rfl rfl (Nat.le_of_ble_eq_true rfl) dX7_wall_63 (fun q_12 u_12 z_12 => ?_)
          obtain ⟨rfl, rfl⟩ := z_12
          show tv_V c 60 X (eX c (ts_s s 0 0) r) 66 [(6, .int (sp_fa s j_p0 p1)), (5, .ref (tv_ad c (16 + j_p0))), (0, .ref (tv_ad c 0)), (1, .int p0), (2, .int p1), (3, .int p2), (4, .int p3)] [.int (sp_rc (s 20 j_p0) p2 p3)]
          refine tv_if_ne C 72 dX7_wall_66 (by decide) (fun c_13 => ?_) (fun c_13 => ?_)
          · skip
            refine tv_iload C dX7_wall_72 0 rfl ?_
            refine tv_if_eq C 84 dX7_wall_74 (by decide) (fun c_14 => ?_) (fun c_14 => absurd c_6 c_14)
            obtain ⟨a, d, L1, ea, ed, eL1, hL1, hab0, eka, ekd⟩ := rc_n1 (hshe j_p0 (by omega)).2.2 (i := p2) (n := p3) (by assumption)
            have hab : a + d ≤ 40 := by omega
            have ewf : (fun q => s 21 (40 * j_p0 + a + q)) = wl_f s p0 p2 := by unfold wl_f; rw [ek_p0, eka]
            refine tv_aload C dX7_wall_84 1 rfl ?_
            refine tv_iload_n C dX7_wall_86 rfl 5 rfl ?_
            refine tv_iload C dX7_wall_87 6 rfl ?_
            refine tv_calli (As := [.int p2, .int p3]) (rest := []) (ci := 5) (cn := RX5) (T := TX5) (Nf := 4) C (16 + j_p0) (kX5_firstWrongCode c (ts_s s 0 0) r j_p0 a d p2 p3 (show j_p0 < 4 by omega) ea (by omega) ed (by omega) hab) gX7_wall_X5_firstWrongCode rfl yd_X5_firstWrongCode ⟨rfl, rfl⟩ (by decide) (by omega) (eX_at_s c (ts_s s 0 0) r (by omega)) rfl rfl rfl (Nat.le_of_ble_eq_true rfl) dX7_wall_89 (fun q_15 u_15 z_15 => ?_)
            obtain ⟨rfl, rfl⟩ := z_15
            rw [show (fun q => (ts_s s 0 0) 21 (40 * j_p0 + a + q)) = wl_f s p0 p2 from ewf]
            show tv_V c 60 X (eX c (ts_s s 0 0) r) 92 [(6, .int (sp_fa s j_p0 p1)), (5, .ref (tv_ad c (16 + j_p0))), (0, .ref (tv_ad c 0)), (1, .int p0), (2, .int p1), (3, .int p2), (4, .int p3)] [.int (fw_i (fw (wl_f s p0 p2) d))]
            refine tv_istore (lv' := [(7, .int (fw_i (fw (wl_f s p0 p2) d))), (6, .int (sp_fa s j_p0 p1)), (5, .ref (tv_ad c (16 + j_p0))), (0, .ref (tv_ad c 0)), (1, .int p0), (2, .int p1), (3, .int p2), (4, .int p3)]) C dX7_wall_92 (by decide) rfl ?_
            refine tv_iload C dX7_wall_94 0 rfl ?_
            refine tv_if_lt C 105 dX7_wall_96 (by decide) (fun c_16 => ?_) (fun c_16 => ?_)
            · skip
              have en := fi_none (f := wl_f s p0 p2) (n := d) (by omega) (by assumption)
              obtain ⟨th, tw, g1, g2, g3, g4, g5, g6, g7, g8, g9, g10⟩ := fw_none en
              refine tv_aload_n C dX7_wall_105 rfl 3 rfl ?_
              refine tv_get (ci := 7) (Cn := RX7) (T := TX7) (Nf := 7) (v := .ref (tv_ad c 2)) C 0 (by decide) rfl rfl in_X7_wall_X7 1 (by decide) lk_X7_wall_20 rfl dX7_wall_106 ?_
              refine tv_aload C dX7_wall_109 2 rfl ?_
              refine tv_iload_n C dX7_wall_111 rfl 6 rfl ?_
              refine tv_callv (As := [.ref (tv_ad c (16 + j_p0)), .int p2]) (rest := []) (ci := 6) (cn := RX6) (T := TX6) (Nf := 11) C 2 (kX6_makeAnew c (ts_s s 0 0) r j_p0 th tw a p2 (show j_p0 < 4 by omega) ea (by omega) g1 g2 g3 g4 (by rw [← g5]; show _ = s 21 (40 * tk p0 + tk p2 + 1) - 48; rw [ek_p0, eka, Nat.add_assoc]; rfl) (by rw [← g6]; show _ = s 21 (40 * tk p0 + tk p2 + 2) - 48; rw [ek_p0, eka, Nat.add_assoc]; rfl) (by omega)) gX7_wall_X6_makeAnew rfl yd_X6_makeAnew ⟨rfl, rfl⟩ (by decide) (by decide) rfl rfl rfl rfl (Nat.le_of_ble_eq_true rfl) dX7_wall_112 (fun u_17 z_17 => ?_)
              subst z_17
              show tv_V c 60 X (eX c (wl_s (ts_s s 0 0) (fun q => s 21 (40 * j_p0 + a + q)) th tw) r) 115 [(7, .int (fw_i (fw (wl_f s p0 p2) d))), (6, .int (sp_fa s j_p0 p1)), (5, .ref (tv_ad c (16 + j_p0))), (0, .ref (tv_ad c 0)), (1, .int p0), (2, .int p1), (3, .int p2), (4, .int p3)] []
              refine tv_aload_n C dX7_wall_115 rfl 3 rfl ?_
              refine tv_get (ci := 7) (Cn := RX7) (T := TX7) (Nf := 7) (v := .ref (tv_ad c 2)) C 0 (by decide) rfl rfl in_X7_wall_X7 1 (by decide) lk_X7_wall_20 rfl dX7_wall_116 ?_
              refine tv_get (ci := 6) (Cn := RX6) (T := TX6) (Nf := 11) (v := .int ((wl_s (ts_s s 0 0) (fun q => s 21 (40 * j_p0 + a + q)) th tw) 9 0)) C 2 (by decide) rfl rfl in_X7_wall_X6 5 (by decide) lk_X7_wall_80 rfl dX7_wall_119 ?_
              exact hR _ _ _ _ dX7_wall_122 ⟨by simp only [sp_wall, sp_wf, tn_30, tn_40, c_2, ek_p0, c_4, ek_p1, eq_true c_6, c_10, tn_d_le c_10, eq_true c_11, c_13, eq_true c_14, ekd, c_16, tn_d_lt c_16, en, g7, g8, ts_ss, ↓reduceIte]; rfl, by rw [ewf]; simp only [sp_wall, sp_wf, tn_30, tn_40, c_2, ek_p0, c_4, ek_p1, eq_true c_6, c_10, tn_d_le c_10, eq_true c_11, c_13, eq_true c_14, ekd, c_16, tn_d_lt c_16, en, g7, g8, ts_ss, ↓reduceIte]⟩
            · skip
              obtain ⟨p, ep⟩ := fi_some (o := fw (wl_f s p0 p2) d) (by assumption)
              refine tv_bipush (v := (-100)) C dX7_wall_99 (by decide) ?_
              refine tv_iload C dX7_wall_101 0 rfl ?_
              refine tv_isub C dX7_wall_103 ?_
              exact hR _ _ _ _ dX7_wall_104 ⟨by simp only [sp_wall, sp_wf, tn_30, tn_40, c_2, ek_p0, c_4, ek_p1, eq_true c_6, c_10, tn_d_le c_10, eq_true c_11, c_13, eq_true c_14, ekd, c_16, tn_d_nlt c_16, ep, ts_ss, ↓reduceIte, fw_i], by simp only [sp_wall, sp_wf, tn_30, tn_40, c_2, ek_p0, c_4, ek_p1, eq_true c_6, c_10, tn_d_le c_10, eq_true c_11, c_13, eq_true c_14, ekd, c_16, tn_d_nlt c_16, ep, ts_ss, ↓reduceIte]⟩
          · skip
            refine tv_iconst (v := 3) C dX7_wall_69 (by decide) ?_
            refine tv_istore (lv' := [(6, .int 3), (5, .ref (tv_ad c (16 + j_p0))), (0, .ref (tv_ad c 0)), (1, .int p0), (2, .int p1), (3, .int p2), (4, .int p3)]) C dX7_wall_70 (by decide) rfl ?_
            refine tv_iload C dX7_wall_72 0 rfl ?_
            refine tv_if_eq C 84 dX7_wall_74 (by decide) (fun c_18 => absurd c_18 (by decide)) (fun c_18 => ?_)
            refine tv_aload_n C dX7_wall_77 rfl 2 rfl ?_
            refine tv_iload C dX7_wall_78 0 rfl ?_
            refine tv_calli (As := [.int 3]) (rest := []) (ci := 7) (cn := RX7) (T := TX7) (Nf := 7) C 0 (kX7_failed c (ts_s s 0 0) r  3 ) gX7_wall_X7_failed rfl yd_X7_failed ⟨rfl, rfl⟩ (by decide) (by decide) rfl rfl rfl rfl (Nat.le_of_ble_eq_true rfl) dX7_wall_80 (fun q_19 u_19 z_19 => ?_)
            obtain ⟨rfl, rfl⟩ := z_19
            show tv_V c 60 X (eX c (ts_s (ts_s s 0 0) 0 3) r) 83 [(6, .int 3), (5, .ref (tv_ad c (16 + j_p0))), (0, .ref (tv_ad c 0)), (1, .int p0), (2, .int p1), (3, .int p2), (4, .int p3)] [.int ((-10) - 3)]
            refine tv_eqE (E' := (eX c (ts_s s 0 3) r)) (congrArg (fun z => eX c z r) (by funext zz; rcases Classical.em (zz = 0) with hzz | h_0; (subst hzz; rfl); simp only [ts_s, ts_a, h_0, ↓reduceIte])) ?_
            show tv_V c 60 X (eX c (ts_s s 0 3) r) 83 [(6, .int 3), (5, .ref (tv_ad c (16 + j_p0))), (0, .ref (tv_ad c 0)), (1, .int p0), (2, .int p1), (3, .int p2), (4, .int p3)] [.int ((-10) - 3)]
            exact hR _ _ _ _ dX7_wall_83 ⟨by simp only [sp_wall, sp_wf, tn_30, tn_40, c_2, ek_p0, c_4, ek_p1, eq_true c_6, c_10, tn_d_le c_10, eq_true c_11, eq_true c_13, ts_ss, ↓reduceIte], by simp only [sp_wall, sp_wf, tn_30, tn_40, c_2, ek_p0, c_4, ek_p1, eq_true c_6, c_10, tn_d_le c_10, eq_true c_11, eq_true c_13, ts_ss, ↓reduceIte]⟩
        · skip
          refine tv_iconst (v := 4) C dX7_wall_50 (by decide) ?_
          refine tv_istore (lv' := [(6, .int 4), (5, .ref (tv_ad c (16 + j_p0))), (0, .ref (tv_ad c 0)), (1, .int p0), (2, .int p1), (3, .int p2), (4, .int p3)]) C dX7_wall_51 (by decide) rfl ?_
          refine tv_iload C dX7_wall_53 0 rfl ?_
          refine tv_if_ne C 72 dX7_wall_55 (by decide) (fun c_20 => ?_) (fun c_20 => absurd c_20 (by decide))
          refine tv_iload C dX7_wall_72 0 rfl ?_
          refine tv_if_eq C 84 dX7_wall_74 (by decide) (fun c_21 => absurd c_21 (by decide)) (fun c_21 => ?_)
          refine tv_aload_n C dX7_wall_77 rfl 2 rfl ?_
          refine tv_iload C dX7_wall_78 0 rfl ?_
          refine tv_calli (As := [.int 4]) (rest := []) (ci := 7) (cn := RX7) (T := TX7) (Nf := 7) C 0 (kX7_failed c (ts_s s 0 0) r  4 ) gX7_wall_X7_failed rfl yd_X7_failed ⟨rfl, rfl⟩ (by decide) (by decide) rfl rfl rfl rfl (Nat.le_of_ble_eq_true rfl) dX7_wall_80 (fun q_22 u_22 z_22 => ?_)
          obtain ⟨rfl, rfl⟩ := z_22
          show tv_V c 60 X (eX c (ts_s (ts_s s 0 0) 0 4) r) 83 [(6, .int 4), (5, .ref (tv_ad c (16 + j_p0))), (0, .ref (tv_ad c 0)), (1, .int p0), (2, .int p1), (3, .int p2), (4, .int p3)] [.int ((-10) - 4)]
          refine tv_eqE (E' := (eX c (ts_s s 0 4) r)) (congrArg (fun z => eX c z r) (by funext zz; rcases Classical.em (zz = 0) with hzz | h_0; (subst hzz; rfl); simp only [ts_s, ts_a, h_0, ↓reduceIte])) ?_
          show tv_V c 60 X (eX c (ts_s s 0 4) r) 83 [(6, .int 4), (5, .ref (tv_ad c (16 + j_p0))), (0, .ref (tv_ad c 0)), (1, .int p0), (2, .int p1), (3, .int p2), (4, .int p3)] [.int ((-10) - 4)]
          exact hR _ _ _ _ dX7_wall_83 ⟨by simp only [sp_wall, sp_wf, tn_30, tn_40, c_2, ek_p0, c_4, ek_p1, eq_true c_6, c_10, tn_d_nle c_10, ts_ss, ↓reduceIte], by simp only [sp_wall, sp_wf, tn_30, tn_40, c_2, ek_p0, c_4, ek_p1, eq_true c_6, c_10, tn_d_nle c_10, ts_ss, ↓reduceIte]⟩
    · skip
      refine tv_bipush (v := (-2)) C dX7_wall_21 (by decide) ?_
      exact hR _ _ _ _ dX7_wall_23 ⟨by simp only [sp_wall, sp_wf, tn_30, tn_40, c_2, ek_p0, eq_true c_4, ts_ss, ↓reduceIte], by simp only [sp_wall, sp_wf, tn_30, tn_40, c_2, ek_p0, eq_true c_4, ts_ss, ↓reduceIte]⟩
  · skip
    refine tv_iconst (v := (-1)) C dX7_wall_12 (by decide) ?_
    exact hR _ _ _ _ dX7_wall_13 ⟨by simp only [sp_wall, sp_wf, tn_30, tn_40, eq_true c_2, ts_ss, ↓reduceIte], by simp only [sp_wall, sp_wf, tn_30, tn_40, eq_true c_2, ts_ss, ↓reduceIte]⟩
