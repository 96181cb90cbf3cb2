set_option maxRecDepth 20000 in
theorem in_X2_isSeenToRight_X2 : ∀ w ∈ u_ws RX2 TX2 3, w ∈ wsX2_isSeenToRight := by decide +kernel
set_option maxRecDepth 20000 in
theorem lk_X2_isSeenToRight_18 : Cond.fieldLink RX2 18 (TX2 0).1 (TX2 0).2.1 (TX2 0).2.2.1 ∈ wsX2_isSeenToRight := by decide +kernel
theorem yd_X6_columnOf : yX6_columnOf.cls = RX6 ∧ yX6_columnOf.cls ≠ "java/lang/invoke/MethodHandle" ∧ yX6_columnOf.cls ≠ "java/lang/invoke/VarHandle" ∧ (parseMethodDescriptor yX6_columnOf.desc).map (fun d => d.parameters.length) = some 1 := by decide +kernel
set_option maxRecDepth 20000 in
theorem in_X2_isSeenToRight_X6 : ∀ w ∈ u_ws RX6 TX6 11, w ∈ wsX2_isSeenToRight := by decide +kernel
set_option maxRecDepth 20000 in
theorem lk_X2_isSeenToRight_58 : Cond.fieldLink RX2 58 (TX6 4).1 (TX6 4).2.1 (TX6 4).2.2.1 ∈ wsX2_isSeenToRight := by decide +kernel
theorem yd_X2_isSeenBetween : yX2_isSeenBetween.cls = RX2 ∧ yX2_isSeenBetween.cls ≠ "java/lang/invoke/MethodHandle" ∧ yX2_isSeenBetween.cls ≠ "java/lang/invoke/VarHandle" ∧ (parseMethodDescriptor yX2_isSeenBetween.desc).map (fun d => d.parameters.length) = some 2 := by decide +kernel
set_option maxRecDepth 20000 in
theorem in_X2_isSeenBelow_X2 : ∀ w ∈ u_ws RX2 TX2 3, w ∈ wsX2_isSeenBelow := by decide +kernel
set_option maxRecDepth 20000 in
theorem lk_X2_isSeenBelow_18 : Cond.fieldLink RX2 18 (TX2 0).1 (TX2 0).2.1 (TX2 0).2.2.1 ∈ wsX2_isSeenBelow := by decide +kernel
set_option maxRecDepth 20000 in
theorem in_X2_isSeenBelow_X6 : ∀ w ∈ u_ws RX6 TX6 11, w ∈ wsX2_isSeenBelow := by decide +kernel
set_option maxRecDepth 20000 in
theorem lk_X2_isSeenBelow_58 : Cond.fieldLink RX2 58 (TX6 4).1 (TX6 4).2.1 (TX6 4).2.2.1 ∈ wsX2_isSeenBelow := by decide +kernel
set_option maxRecDepth 20000 in
theorem lk_X2_isSeenBelow_22 : Cond.fieldLink RX2 22 (TX6 5).1 (TX6 5).2.1 (TX6 5).2.2.1 ∈ wsX2_isSeenBelow := by decide +kernel
set_option maxRecDepth 20000 in
theorem in_X2_countSeen_X2 : ∀ w ∈ u_ws RX2 TX2 3, w ∈ wsX2_countSeen := by decide +kernel
set_option maxRecDepth 20000 in
theorem lk_X2_countSeen_18 : Cond.fieldLink RX2 18 (TX2 0).1 (TX2 0).2.1 (TX2 0).2.2.1 ∈ wsX2_countSeen := by decide +kernel
set_option maxRecDepth 20000 in
theorem in_X2_countSeen_X6 : ∀ w ∈ u_ws RX6 TX6 11, w ∈ wsX2_countSeen := by decide +kernel
set_option maxRecDepth 20000 in
theorem lk_X2_countSeen_22 : Cond.fieldLink RX2 22 (TX6 5).1 (TX6 5).2.1 (TX6 5).2.2.1 ∈ wsX2_countSeen := by decide +kernel
theorem yd_X2_isSeenToRight : yX2_isSeenToRight.cls = RX2 ∧ yX2_isSeenToRight.cls ≠ "java/lang/invoke/MethodHandle" ∧ yX2_isSeenToRight.cls ≠ "java/lang/invoke/VarHandle" ∧ (parseMethodDescriptor yX2_isSeenToRight.desc).map (fun d => d.parameters.length) = some 1 := by decide +kernel
theorem yd_X2_isSeenBelow : yX2_isSeenBelow.cls = RX2 ∧ yX2_isSeenBelow.cls ≠ "java/lang/invoke/MethodHandle" ∧ yX2_isSeenBelow.cls ≠ "java/lang/invoke/VarHandle" ∧ (parseMethodDescriptor yX2_isSeenBelow.desc).map (fun d => d.parameters.length) = some 1 := by decide +kernel
set_option maxRecDepth 20000 in
theorem in_X2_isAnySeen_X2 : ∀ w ∈ u_ws RX2 TX2 3, w ∈ wsX2_isAnySeen := by decide +kernel
set_option maxRecDepth 20000 in
theorem lk_X2_isAnySeen_18 : Cond.fieldLink RX2 18 (TX2 0).1 (TX2 0).2.1 (TX2 0).2.2.1 ∈ wsX2_isAnySeen := by decide +kernel
set_option maxRecDepth 20000 in
theorem in_X2_isAnySeen_X6 : ∀ w ∈ u_ws RX6 TX6 11, w ∈ wsX2_isAnySeen := by decide +kernel
set_option maxRecDepth 20000 in
theorem lk_X2_isAnySeen_22 : Cond.fieldLink RX2 22 (TX6 5).1 (TX6 5).2.1 (TX6 5).2.2.1 ∈ wsX2_isAnySeen := by decide +kernel
set_option maxRecDepth 20000 in
theorem in_X2_countSeenOf_X2 : ∀ w ∈ u_ws RX2 TX2 3, w ∈ wsX2_countSeenOf := by decide +kernel
set_option maxRecDepth 20000 in
theorem lk_X2_countSeenOf_18 : Cond.fieldLink RX2 18 (TX2 0).1 (TX2 0).2.1 (TX2 0).2.2.1 ∈ wsX2_countSeenOf := by decide +kernel
set_option maxRecDepth 20000 in
theorem in_X2_countSeenOf_X6 : ∀ w ∈ u_ws RX6 TX6 11, w ∈ wsX2_countSeenOf := by decide +kernel
set_option maxRecDepth 20000 in
theorem lk_X2_countSeenOf_58 : Cond.fieldLink RX2 58 (TX6 4).1 (TX6 4).2.1 (TX6 4).2.2.1 ∈ wsX2_countSeenOf := by decide +kernel
set_option maxHeartbeats 4000000 in
set_option maxRecDepth 100000 in
theorem kX2_isSeenToRight (c : tv_c) (s r : ts_T)  (a : Nat) (p0 : Int32) (e_p0 : p0 = nI a) (h_p0 : a < 24) (hI : iv s) (hsh : sh_ok s r) (ha : a < tk (s 9 0)) : tv_Fi c 60 yX2_isSeenToRight wsX2_isSeenToRight { frames := 2, cells := 0, slots := 0, locals := 49 } [.ref (tv_ad c 6), .int p0] (eX c s r) (sp_rg s r a) (eX c s r) := by
  refine tv_metZ (by decide +kernel) rfl rfl (Nat.le_of_ble_eq_true rfl) (fun X C hR => ?_)
  show tv_V c 60 X (eX c s r) 0 [(0, .ref (tv_ad c 6)), (1, .int p0)] []
  have hC := iv.hC hI
  obtain ⟨h, w, n, nk, nl, ny, nm, li, e2, e3, e9, hnw, hh, hw, hn, hz, hp, e7, hk, e8, hl, e4, hy, e5, hm, e6, hli, hcel, hkin, hban, hwei, hshe⟩ := id hI
  have ek3 := tk_e e3 (by omega)
  have ek9 := tk_e e9 (by omega)
  have ek8 := tk_e e8 (by omega)
  rw [ek9] at ha
  have hmd := Nat.mod_le a w
  refine tv_aload_n C dX2_isSeenToRight_0 rfl 0 rfl ?_
  refine tv_get (ci := 2) (Cn := RX2) (T := TX2) (Nf := 3) (v := .ref (tv_ad c 2)) C 6 (by decide) rfl rfl in_X2_isSeenToRight_X2 0 (by decide) lk_X2_isSeenToRight_18 rfl dX2_isSeenToRight_1 ?_
  refine tv_iload_n C dX2_isSeenToRight_4 rfl 1 rfl ?_
  refine tv_calli (As := [.int p0]) (rest := []) (ci := 6) (cn := RX6) (T := TX6) (Nf := 11) C 2 (kX6_columnOf c s r w a p0 e_p0 (by omega) e3 (by omega) hw) gX2_isSeenToRight_X6_columnOf rfl yd_X6_columnOf ⟨rfl, rfl⟩ (by decide) (by decide) rfl rfl rfl rfl (Nat.le_of_ble_eq_true rfl) dX2_isSeenToRight_5 (fun q_1 u_1 z_1 => ?_)
  obtain ⟨rfl, rfl⟩ := z_1
  refine tv_iconst (v := 1) C dX2_isSeenToRight_8 (by decide) ?_
  refine tv_iadd C dX2_isSeenToRight_9 ?_
  refine tv_aload_n C dX2_isSeenToRight_10 rfl 0 rfl ?_
  refine tv_get (ci := 2) (Cn := RX2) (T := TX2) (Nf := 3) (v := .ref (tv_ad c 2)) C 6 (by decide) rfl rfl in_X2_isSeenToRight_X2 0 (by decide) lk_X2_isSeenToRight_18 rfl dX2_isSeenToRight_11 ?_
  refine tv_get (ci := 6) (Cn := RX6) (T := TX6) (Nf := 11) (v := .int (s 3 0)) C 2 (by decide) rfl rfl in_X2_isSeenToRight_X6 4 (by decide) lk_X2_isSeenToRight_58 rfl dX2_isSeenToRight_14 ?_
  refine tv_icmp_ge C 35 dX2_isSeenToRight_17 (by decide) (fun c_2 => ?_) (fun c_2 => ?_)
  · skip
    have nc_2 : w ≤ ((a % w) + 1) := (tn_geI (tn_add (rfl : nI (a % w) = nI (a % w)) (tn_l 1)) e3 (by omega) (by omega)).mp c_2
    refine tv_iconst (v := 0) C dX2_isSeenToRight_35 (by decide) ?_
    exact hR _ _ _ _ dX2_isSeenToRight_36 (by first | rfl | exact tn_nz (sp_in_z _ _ _) | exact tn_nz (sp_ix_z _ _)) ⟨by first | (simp only [sp_rg, ek3, c_2, nc_2, tn_d_le c_2, if_true, ↓reduceIte]; done) | rfl | (simp [sp_rg, ek3, c_2, nc_2, tn_d_le c_2, if_true]; done) | (exfalso; clear hR C; simp_all; done), by first | (simp only [sp_rg, ek3, c_2, nc_2, tn_d_le c_2, if_true, ts_ss, ts_aa, ↓reduceIte]; done) | rfl | (simp [sp_rg, ek3, c_2, nc_2, tn_d_le c_2, if_true, ts_ss, ts_aa]; done) | (exfalso; clear hR C; simp_all; done)⟩
  · skip
    have nc_2 : ¬ w ≤ ((a % w) + 1) := tn_nf (tn_geI (tn_add (rfl : nI (a % w) = nI (a % w)) (tn_l 1)) e3 (by omega) (by omega)) c_2
    have hr1 := rt_lt hnw ha (by assumption)
    obtain ⟨A, hA, eA⟩ := hsh a (by rw [ek9]; omega)
    obtain ⟨B, hB2, eB⟩ := hsh (a + 1) (by rw [ek9]; omega)
    refine tv_aload_n C dX2_isSeenToRight_20 rfl 0 rfl ?_
    refine tv_iload_n C dX2_isSeenToRight_21 rfl 1 rfl ?_
    refine tv_iload_n C dX2_isSeenToRight_22 rfl 1 rfl ?_
    refine tv_iconst (v := 1) C dX2_isSeenToRight_23 (by decide) ?_
    refine tv_iadd C dX2_isSeenToRight_24 ?_
    refine tv_calli (As := [.int p0, .int (p0 + 1)]) (rest := []) (ci := 2) (cn := RX2) (T := TX2) (Nf := 3) C 6 (kX2_isSeenBetween c s r A B nl a (a + 1) p0 (p0 + 1) e_p0 (by omega) (tn_add e_p0 (tn_l 1)) (by omega) hA hB2 eA eB e8 hl) gX2_isSeenToRight_X2_isSeenBetween rfl yd_X2_isSeenBetween ⟨rfl, rfl⟩ (by decide) (by decide) rfl rfl rfl rfl (Nat.le_of_ble_eq_true rfl) dX2_isSeenToRight_25 (fun q_3 u_3 z_3 => ?_)
    obtain ⟨rfl, rfl⟩ := z_3
    refine tv_if_eq C 35 dX2_isSeenToRight_28 (by decide) (fun c_4 => ?_) (fun c_4 => ?_)
    · skip
      refine tv_iconst (v := 0) C dX2_isSeenToRight_35 (by decide) ?_
      exact hR _ _ _ _ dX2_isSeenToRight_36 (by first | rfl | exact tn_nz (sp_in_z _ _ _) | exact tn_nz (sp_ix_z _ _)) ⟨by first | (simp only [sp_rg, ek3, c_2, nc_2, tn_d_nle c_2, eq_true c_4, if_true, ↓reduceIte]; done) | rfl | (simp [sp_rg, ek3, c_2, nc_2, tn_d_nle c_2, eq_true c_4, if_true]; done) | (exfalso; clear hR C; simp_all; done), by first | (simp only [sp_rg, ek3, c_2, nc_2, tn_d_nle c_2, eq_true c_4, if_true, ts_ss, ts_aa, ↓reduceIte]; done) | rfl | (simp [sp_rg, ek3, c_2, nc_2, tn_d_nle c_2, eq_true c_4, if_true, ts_ss, ts_aa]; done) | (exfalso; clear hR C; simp_all; done)⟩
    · skip
      refine tv_iconst (v := 1) C dX2_isSeenToRight_31 (by decide) ?_
      refine tv_goto C 36 dX2_isSeenToRight_32 (by decide) ?_
      exact hR _ _ _ _ dX2_isSeenToRight_36 (by first | rfl | exact tn_nz (sp_in_z _ _ _) | exact tn_nz (sp_ix_z _ _)) ⟨by first | (simp only [sp_rg, ek3, c_2, nc_2, tn_d_nle c_2, c_4, if_true, ↓reduceIte]; done) | rfl | (simp [sp_rg, ek3, c_2, nc_2, tn_d_nle c_2, c_4, if_true]; done) | (exfalso; clear hR C; simp_all; done), by first | (simp only [sp_rg, ek3, c_2, nc_2, tn_d_nle c_2, c_4, if_true, ts_ss, ts_aa, ↓reduceIte]; done) | rfl | (simp [sp_rg, ek3, c_2, nc_2, tn_d_nle c_2, c_4, if_true, ts_ss, ts_aa]; done) | (exfalso; clear hR C; simp_all; done)⟩
set_option maxHeartbeats 4000000 in
set_option maxRecDepth 100000 in
theorem kX2_isSeenBelow (c : tv_c) (s r : ts_T)  (a : Nat) (p0 : Int32) (e_p0 : p0 = nI a) (h_p0 : a < 24) (hI : iv s) (hsh : sh_ok s r) (ha : a < tk (s 9 0)) : tv_Fi c 60 yX2_isSeenBelow wsX2_isSeenBelow { frames := 2, cells := 0, slots := 0, locals := 49 } [.ref (tv_ad c 6), .int p0] (eX c s r) (sp_bl s r a) (eX c s r) := by
  refine tv_metZ (by decide +kernel) rfl rfl (Nat.le_of_ble_eq_true rfl) (fun X C hR => ?_)
  show tv_V c 60 X (eX c s r) 0 [(0, .ref (tv_ad c 6)), (1, .int p0)] []
  have hC := iv.hC hI
  obtain ⟨h, w, n, nk, nl, ny, nm, li, e2, e3, e9, hnw, hh, hw, hn, hz, hp, e7, hk, e8, hl, e4, hy, e5, hm, e6, hli, hcel, hkin, hban, hwei, hshe⟩ := id hI
  have ek3 := tk_e e3 (by omega)
  have ek9 := tk_e e9 (by omega)
  have ek8 := tk_e e8 (by omega)
  rw [ek9] at ha
  refine tv_iload_n C dX2_isSeenBelow_0 rfl 1 rfl ?_
  refine tv_aload_n C dX2_isSeenBelow_1 rfl 0 rfl ?_
  refine tv_get (ci := 2) (Cn := RX2) (T := TX2) (Nf := 3) (v := .ref (tv_ad c 2)) C 6 (by decide) rfl rfl in_X2_isSeenBelow_X2 0 (by decide) lk_X2_isSeenBelow_18 rfl dX2_isSeenBelow_2 ?_
  refine tv_get (ci := 6) (Cn := RX6) (T := TX6) (Nf := 11) (v := .int (s 3 0)) C 2 (by decide) rfl rfl in_X2_isSeenBelow_X6 4 (by decide) lk_X2_isSeenBelow_58 rfl dX2_isSeenBelow_5 ?_
  refine tv_iadd C dX2_isSeenBelow_8 ?_
  refine tv_aload_n C dX2_isSeenBelow_9 rfl 0 rfl ?_
  refine tv_get (ci := 2) (Cn := RX2) (T := TX2) (Nf := 3) (v := .ref (tv_ad c 2)) C 6 (by decide) rfl rfl in_X2_isSeenBelow_X2 0 (by decide) lk_X2_isSeenBelow_18 rfl dX2_isSeenBelow_10 ?_
  refine tv_get (ci := 6) (Cn := RX6) (T := TX6) (Nf := 11) (v := .int (s 9 0)) C 2 (by decide) rfl rfl in_X2_isSeenBelow_X6 5 (by decide) lk_X2_isSeenBelow_22 rfl dX2_isSeenBelow_13 ?_
  refine tv_icmp_ge C 40 dX2_isSeenBelow_16 (by decide) (fun c_1 => ?_) (fun c_1 => ?_)
  · skip
    have nc_1 : n ≤ (a + w) := (tn_geI (tn_add e_p0 e3) e9 (by omega) (by omega)).mp c_1
    refine tv_iconst (v := 0) C dX2_isSeenBelow_40 (by decide) ?_
    exact hR _ _ _ _ dX2_isSeenBelow_41 (by first | rfl | exact tn_nz (sp_in_z _ _ _) | exact tn_nz (sp_ix_z _ _)) ⟨by first | (simp only [sp_bl, ek3, ek9, c_1, nc_1, tn_d_le c_1, if_true, ↓reduceIte]; done) | rfl | (simp [sp_bl, ek3, ek9, c_1, nc_1, tn_d_le c_1, if_true]; done) | (exfalso; clear hR C; simp_all; done), by first | (simp only [sp_bl, ek3, ek9, c_1, nc_1, tn_d_le c_1, if_true, ts_ss, ts_aa, ↓reduceIte]; done) | rfl | (simp [sp_bl, ek3, ek9, c_1, nc_1, tn_d_le c_1, if_true, ts_ss, ts_aa]; done) | (exfalso; clear hR C; simp_all; done)⟩
  · skip
    have nc_1 : ¬ n ≤ (a + w) := tn_nf (tn_geI (tn_add e_p0 e3) e9 (by omega) (by omega)) c_1
    obtain ⟨A, hA, eA⟩ := hsh a (by rw [ek9]; omega)
    obtain ⟨B, hB2, eB⟩ := hsh (a + w) (by rw [ek9]; omega)
    refine tv_aload_n C dX2_isSeenBelow_19 rfl 0 rfl ?_
    refine tv_iload_n C dX2_isSeenBelow_20 rfl 1 rfl ?_
    refine tv_iload_n C dX2_isSeenBelow_21 rfl 1 rfl ?_
    refine tv_aload_n C dX2_isSeenBelow_22 rfl 0 rfl ?_
    refine tv_get (ci := 2) (Cn := RX2) (T := TX2) (Nf := 3) (v := .ref (tv_ad c 2)) C 6 (by decide) rfl rfl in_X2_isSeenBelow_X2 0 (by decide) lk_X2_isSeenBelow_18 rfl dX2_isSeenBelow_23 ?_
    refine tv_get (ci := 6) (Cn := RX6) (T := TX6) (Nf := 11) (v := .int (s 3 0)) C 2 (by decide) rfl rfl in_X2_isSeenBelow_X6 4 (by decide) lk_X2_isSeenBelow_58 rfl dX2_isSeenBelow_26 ?_
    refine tv_iadd C dX2_isSeenBelow_29 ?_
    refine tv_calli (As := [.int p0, .int (p0 + (s 3 0))]) (rest := []) (ci := 2) (cn := RX2) (T := TX2) (Nf := 3) C 6 (kX2_isSeenBetween c s r A B nl a (a + w) p0 (p0 + (s 3 0)) e_p0 (by omega) (tn_add e_p0 e3) (by omega) hA hB2 eA eB e8 hl) gX2_isSeenBelow_X2_isSeenBetween rfl yd_X2_isSeenBetween ⟨rfl, rfl⟩ (by decide) (by decide) rfl rfl rfl rfl (Nat.le_of_ble_eq_true rfl) dX2_isSeenBelow_30 (fun q_2 u_2 z_2 => ?_)
    obtain ⟨rfl, rfl⟩ := z_2
    refine tv_if_eq C 40 dX2_isSeenBelow_33 (by decide) (fun c_3 => ?_) (fun c_3 => ?_)
    · skip
      refine tv_iconst (v := 0) C dX2_isSeenBelow_40 (by decide) ?_
      exact hR _ _ _ _ dX2_isSeenBelow_41 (by first | rfl | exact tn_nz (sp_in_z _ _ _) | exact tn_nz (sp_ix_z _ _)) ⟨by first | (simp only [sp_bl, ek3, ek9, c_1, nc_1, tn_d_nle c_1, eq_true c_3, if_true, ↓reduceIte]; done) | rfl | (simp [sp_bl, ek3, ek9, c_1, nc_1, tn_d_nle c_1, eq_true c_3, if_true]; done) | (exfalso; clear hR C; simp_all; done), by first | (simp only [sp_bl, ek3, ek9, c_1, nc_1, tn_d_nle c_1, eq_true c_3, if_true, ts_ss, ts_aa, ↓reduceIte]; done) | rfl | (simp [sp_bl, ek3, ek9, c_1, nc_1, tn_d_nle c_1, eq_true c_3, if_true, ts_ss, ts_aa]; done) | (exfalso; clear hR C; simp_all; done)⟩
    · skip
      refine tv_iconst (v := 1) C dX2_isSeenBelow_36 (by decide) ?_
      refine tv_goto C 41 dX2_isSeenBelow_37 (by decide) ?_
      exact hR _ _ _ _ dX2_isSeenBelow_41 (by first | rfl | exact tn_nz (sp_in_z _ _ _) | exact tn_nz (sp_ix_z _ _)) ⟨by first | (simp only [sp_bl, ek3, ek9, c_1, nc_1, tn_d_nle c_1, c_3, if_true, ↓reduceIte]; done) | rfl | (simp [sp_bl, ek3, ek9, c_1, nc_1, tn_d_nle c_1, c_3, if_true]; done) | (exfalso; clear hR C; simp_all; done), by first | (simp only [sp_bl, ek3, ek9, c_1, nc_1, tn_d_nle c_1, c_3, if_true, ts_ss, ts_aa, ↓reduceIte]; done) | rfl | (simp [sp_bl, ek3, ek9, c_1, nc_1, tn_d_nle c_1, c_3, if_true, ts_ss, ts_aa]; done) | (exfalso; clear hR C; simp_all; done)⟩
set_option maxHeartbeats 4000000 in
set_option maxRecDepth 100000 in
theorem kX2_countSeen (c : tv_c) (s r : ts_T)  (hI : iv s) (hsh : sh_ok s r) : tv_Fi c 60 yX2_countSeen wsX2_countSeen { frames := 3, cells := 0, slots := 0, locals := 70 } [.ref (tv_ad c 6)] (eX c s r) (sp_cs s r (tk (s 9 0))) (eX c s r) := by
  refine tv_metI (by decide +kernel) rfl rfl (Nat.le_of_ble_eq_true rfl) (fun X C hR => ?_)
  show tv_V c 60 X (eX c s r) 0 [(0, .ref (tv_ad c 6))] []
  have hC := iv.hC hI
  obtain ⟨h, w, n, nk, nl, ny, nm, li, e2, e3, e9, hnw, hh, hw, hn, hz, hp, e7, hk, e8, hl, e4, hy, e5, hm, e6, hli, hcel, hkin, hban, hwei, hshe⟩ := id hI
  have ek3 := tk_e e3 (by omega)
  have ek9 := tk_e e9 (by omega)
  have ek8 := tk_e e8 (by omega)
  refine tv_iconst (v := 0) C dX2_countSeen_0 (by decide) ?_
  refine tv_istore_n (lv' := [(1, .int 0), (0, .ref (tv_ad c 6))]) C dX2_countSeen_1 rfl (by decide) rfl ?_
  refine tv_iconst (v := 0) C dX2_countSeen_2 (by decide) ?_
  refine tv_istore_n (lv' := [(2, .int 0), (1, .int 0), (0, .ref (tv_ad c 6))]) C dX2_countSeen_3 rfl (by decide) rfl ?_
  have hL4 : ∀ (k_4 i : Nat) (x_4_1 : Int32) (x_4_2 : Int32), i + k_4 = n → x_4_1 = (sp_cs s r i) → x_4_2 = (nI i) → tv_V c 60 X (eX c s r) 4 [(0, .ref (tv_ad c 6)), (1, .int x_4_1), (2, .int x_4_2)] [] := by
    intro k_4
    induction k_4 with
    | zero =>
      intro i x_4_1 x_4_2 hi4  ex_4_1 ex_4_2
      subst ex_4_1
      subst ex_4_2
      have hN4 : i = n := by omega
      refine tv_iload_n C dX2_countSeen_4 rfl 2 rfl ?_
      refine tv_aload_n C dX2_countSeen_5 rfl 0 rfl ?_
      refine tv_get (ci := 2) (Cn := RX2) (T := TX2) (Nf := 3) (v := .ref (tv_ad c 2)) C 6 (by decide) rfl rfl in_X2_countSeen_X2 0 (by decide) lk_X2_countSeen_18 rfl dX2_countSeen_6 ?_
      refine tv_get (ci := 6) (Cn := RX6) (T := TX6) (Nf := 11) (v := .int (s 9 0)) C 2 (by decide) rfl rfl in_X2_countSeen_X6 5 (by decide) lk_X2_countSeen_22 rfl dX2_countSeen_9 ?_
      refine tv_icmp_ge C 53 dX2_countSeen_12 (by decide) (fun c_1 => ?_) (fun c_1 => absurd (tn_le e9 (rfl : nI i = nI i) (by omega) (by omega)) c_1)
      refine tv_iload_n C dX2_countSeen_53 rfl 1 rfl ?_
      exact hR _ _ _ _ dX2_countSeen_54 ⟨by rw [ek9, hN4], by first | (simp only [c_1, if_true, ts_ss, ts_aa, ↓reduceIte]; done) | rfl | (simp [c_1, if_true, ts_ss, ts_aa]; done) | (exfalso; clear hR C; simp_all; done)⟩
    | succ k_4 ih4 =>
      intro i x_4_1 x_4_2 hi4  ex_4_1 ex_4_2
      subst ex_4_1
      subst ex_4_2
      have hN4 : i < n := by omega
      refine tv_iload_n C dX2_countSeen_4 rfl 2 rfl ?_
      refine tv_aload_n C dX2_countSeen_5 rfl 0 rfl ?_
      refine tv_get (ci := 2) (Cn := RX2) (T := TX2) (Nf := 3) (v := .ref (tv_ad c 2)) C 6 (by decide) rfl rfl in_X2_countSeen_X2 0 (by decide) lk_X2_countSeen_18 rfl dX2_countSeen_6 ?_
      refine tv_get (ci := 6) (Cn := RX6) (T := TX6) (Nf := 11) (v := .int (s 9 0)) C 2 (by decide) rfl rfl in_X2_countSeen_X6 5 (by decide) lk_X2_countSeen_22 rfl dX2_countSeen_9 ?_
      refine tv_icmp_ge C 53 dX2_countSeen_12 (by decide) (fun c_2 => absurd c_2 (tn_nle e9 (rfl : nI i = nI i) (by omega) (by omega))) (fun c_2 => ?_)
      refine tv_iload_n C dX2_countSeen_15 rfl 1 rfl ?_
      refine tv_aload_n C dX2_countSeen_16 rfl 0 rfl ?_
      refine tv_iload_n C dX2_countSeen_17 rfl 2 rfl ?_
      refine tv_calli (As := [.int (nI i)]) (rest := [.int (sp_cs s r i)]) (ci := 2) (cn := RX2) (T := TX2) (Nf := 3) C 6 (kX2_isSeenToRight c s r i (nI i) (rfl : nI i = nI i) (by omega) hI hsh (by rw [ek9]; exact hN4)) gX2_countSeen_X2_isSeenToRight rfl yd_X2_isSeenToRight ⟨rfl, rfl⟩ (by decide) (by decide) rfl rfl rfl rfl (Nat.le_of_ble_eq_true rfl) dX2_countSeen_18 (fun q_3 u_3 z_3 => ?_)
      obtain ⟨rfl, rfl⟩ := z_3
      refine tv_if_eq C 28 dX2_countSeen_21 (by decide) (fun c_4 => ?_) (fun c_4 => ?_)
      · skip
        refine tv_iconst (v := 0) C dX2_countSeen_28 (by decide) ?_
        refine tv_iadd C dX2_countSeen_29 ?_
        refine tv_istore_n (lv' := [(1, .int ((sp_cs s r i) + 0)), (0, .ref (tv_ad c 6)), (2, .int (nI i))]) C dX2_countSeen_30 rfl (by decide) rfl ?_
        refine tv_iload_n C dX2_countSeen_31 rfl 0 rfl ?_
        refine tv_aload_n C dX2_countSeen_32 rfl 1 rfl ?_
        refine tv_iload_n C dX2_countSeen_33 rfl 2 rfl ?_
        refine tv_calli (As := [.int (nI i)]) (rest := [.int ((sp_cs s r i) + 0)]) (ci := 2) (cn := RX2) (T := TX2) (Nf := 3) C 6 (kX2_isSeenBelow c s r i (nI i) (rfl : nI i = nI i) (by omega) hI hsh (by rw [ek9]; exact hN4)) gX2_countSeen_X2_isSeenBelow rfl yd_X2_isSeenBelow ⟨rfl, rfl⟩ (by decide) (by decide) rfl rfl rfl rfl (Nat.le_of_ble_eq_true rfl) dX2_countSeen_34 (fun q_5 u_5 z_5 => ?_)
        obtain ⟨rfl, rfl⟩ := z_5
        refine tv_if_eq C 44 dX2_countSeen_37 (by decide) (fun c_6 => ?_) (fun c_6 => ?_)
        · skip
          refine tv_iconst (v := 0) C dX2_countSeen_44 (by decide) ?_
          refine tv_iadd C dX2_countSeen_45 ?_
          refine tv_istore_n (lv' := [(1, .int (((sp_cs s r i) + 0) + 0)), (0, .ref (tv_ad c 6)), (2, .int (nI i))]) C dX2_countSeen_46 rfl (by decide) rfl ?_
          refine tv_iinc (v := ((nI i) + 1)) (lv' := [(2, .int ((nI i) + 1)), (1, .int (((sp_cs s r i) + 0) + 0)), (0, .ref (tv_ad c 6))]) C dX2_countSeen_47 2 rfl rfl (by decide) rfl ?_
          refine tv_goto C 4 dX2_countSeen_50 (by decide) ?_
          refine tv_lsub [2, 1, 0] rfl ?_
          exact ih4 (i + 1) _ _ (by omega)  (by exact cs_st (by first | exact rg_e1 (by assumption) | exact bl_e1 (by assumption) | exact Eq.symm (by assumption)) (by first | exact rg_e1 (by assumption) | exact bl_e1 (by assumption) | exact Eq.symm (by assumption))) (by first | rfl | exact nI_1 _ | (simp only [c_2, eq_true c_4, eq_true c_6, if_true, ↓reduceIte]; done) | (simp [c_2, eq_true c_4, eq_true c_6, if_true]; done) | (exfalso; clear hR C; simp_all; done))
        · skip
          refine tv_iconst (v := 1) C dX2_countSeen_40 (by decide) ?_
          refine tv_goto C 45 dX2_countSeen_41 (by decide) ?_
          refine tv_iadd C dX2_countSeen_45 ?_
          refine tv_istore_n (lv' := [(1, .int (((sp_cs s r i) + 0) + 1)), (0, .ref (tv_ad c 6)), (2, .int (nI i))]) C dX2_countSeen_46 rfl (by decide) rfl ?_
          refine tv_iinc (v := ((nI i) + 1)) (lv' := [(2, .int ((nI i) + 1)), (1, .int (((sp_cs s r i) + 0) + 1)), (0, .ref (tv_ad c 6))]) C dX2_countSeen_47 2 rfl rfl (by decide) rfl ?_
          refine tv_goto C 4 dX2_countSeen_50 (by decide) ?_
          refine tv_lsub [2, 1, 0] rfl ?_
          exact ih4 (i + 1) _ _ (by omega)  (by exact cs_st (by first | exact rg_e1 (by assumption) | exact bl_e1 (by assumption) | exact Eq.symm (by assumption)) (by first | exact rg_e1 (by assumption) | exact bl_e1 (by assumption) | exact Eq.symm (by assumption))) (by first | rfl | exact nI_1 _ | (simp only [c_2, eq_true c_4, c_6, if_true, ↓reduceIte]; done) | (simp [c_2, eq_true c_4, c_6, if_true]; done) | (exfalso; clear hR C; simp_all; done))
      · skip
        refine tv_iconst (v := 1) C dX2_countSeen_24 (by decide) ?_
        refine tv_goto C 29 dX2_countSeen_25 (by decide) ?_
        refine tv_iadd C dX2_countSeen_29 ?_
        refine tv_istore_n (lv' := [(1, .int ((sp_cs s r i) + 1)), (0, .ref (tv_ad c 6)), (2, .int (nI i))]) C dX2_countSeen_30 rfl (by decide) rfl ?_
        refine tv_iload_n C dX2_countSeen_31 rfl 0 rfl ?_
        refine tv_aload_n C dX2_countSeen_32 rfl 1 rfl ?_
        refine tv_iload_n C dX2_countSeen_33 rfl 2 rfl ?_
        refine tv_calli (As := [.int (nI i)]) (rest := [.int ((sp_cs s r i) + 1)]) (ci := 2) (cn := RX2) (T := TX2) (Nf := 3) C 6 (kX2_isSeenBelow c s r i (nI i) (rfl : nI i = nI i) (by omega) hI hsh (by rw [ek9]; exact hN4)) gX2_countSeen_X2_isSeenBelow rfl yd_X2_isSeenBelow ⟨rfl, rfl⟩ (by decide) (by decide) rfl rfl rfl rfl (Nat.le_of_ble_eq_true rfl) dX2_countSeen_34 (fun q_7 u_7 z_7 => ?_)
        obtain ⟨rfl, rfl⟩ := z_7
        refine tv_if_eq C 44 dX2_countSeen_37 (by decide) (fun c_8 => ?_) (fun c_8 => ?_)
        · skip
          refine tv_iconst (v := 0) C dX2_countSeen_44 (by decide) ?_
          refine tv_iadd C dX2_countSeen_45 ?_
          refine tv_istore_n (lv' := [(1, .int (((sp_cs s r i) + 1) + 0)), (0, .ref (tv_ad c 6)), (2, .int (nI i))]) C dX2_countSeen_46 rfl (by decide) rfl ?_
          refine tv_iinc (v := ((nI i) + 1)) (lv' := [(2, .int ((nI i) + 1)), (1, .int (((sp_cs s r i) + 1) + 0)), (0, .ref (tv_ad c 6))]) C dX2_countSeen_47 2 rfl rfl (by decide) rfl ?_
          refine tv_goto C 4 dX2_countSeen_50 (by decide) ?_
          refine tv_lsub [2, 1, 0] rfl ?_
          exact ih4 (i + 1) _ _ (by omega)  (by exact cs_st (by first | exact rg_e1 (by assumption) | exact bl_e1 (by assumption) | exact Eq.symm (by assumption)) (by first | exact rg_e1 (by assumption) | exact bl_e1 (by assumption) | exact Eq.symm (by assumption))) (by first | rfl | exact nI_1 _ | (simp only [c_2, c_4, eq_true c_8, if_true, ↓reduceIte]; done) | (simp [c_2, c_4, eq_true c_8, if_true]; done) | (exfalso; clear hR C; simp_all; done))
        · skip
          refine tv_iconst (v := 1) C dX2_countSeen_40 (by decide) ?_
          refine tv_goto C 45 dX2_countSeen_41 (by decide) ?_
          refine tv_iadd C dX2_countSeen_45 ?_
          refine tv_istore_n (lv' := [(1, .int (((sp_cs s r i) + 1) + 1)), (0, .ref (tv_ad c 6)), (2, .int (nI i))]) C dX2_countSeen_46 rfl (by decide) rfl ?_
          refine tv_iinc (v := ((nI i) + 1)) (lv' := [(2, .int ((nI i) + 1)), (1, .int (((sp_cs s r i) + 1) + 1)), (0, .ref (tv_ad c 6))]) C dX2_countSeen_47 2 rfl rfl (by decide) rfl ?_
          refine tv_goto C 4 dX2_countSeen_50 (by decide) ?_
          refine tv_lsub [2, 1, 0] rfl ?_
          exact ih4 (i + 1) _ _ (by omega)  (by exact cs_st (by first | exact rg_e1 (by assumption) | exact bl_e1 (by assumption) | exact Eq.symm (by assumption)) (by first | exact rg_e1 (by assumption) | exact bl_e1 (by assumption) | exact Eq.symm (by assumption))) (by first | rfl | exact nI_1 _ | (simp only [c_2, c_4, c_8, if_true, ↓reduceIte]; done) | (simp [c_2, c_4, c_8, if_true]; done) | (exfalso; clear hR C; simp_all; done))
  refine tv_lsub [2, 1, 0] rfl ?_
  exact hL4 (n - 0) 0 _ _ (by omega)  (by first | (simp only [if_true, ↓reduceIte]; done) | rfl | (simp [if_true]; done) | (exfalso; clear hR C; simp_all; done)) (by first | (simp only [if_true, ↓reduceIte]; done) | rfl | (simp [if_true]; done) | (exfalso; clear hR C; simp_all; done))
set_option maxHeartbeats 4000000 in
set_option maxRecDepth 100000 in
theorem kX2_isAnySeen (c : tv_c) (s r : ts_T)  (hI : iv s) (hsh : sh_ok s r) : tv_Fi c 60 yX2_isAnySeen wsX2_isAnySeen { frames := 3, cells := 0, slots := 0, locals := 70 } [.ref (tv_ad c 6)] (eX c s r) (sp_an s r) (eX c s r) := by
  refine tv_metZ (by decide +kernel) rfl rfl (Nat.le_of_ble_eq_true rfl) (fun X C hR => ?_)
  show tv_V c 60 X (eX c s r) 0 [(0, .ref (tv_ad c 6))] []
  have hC := iv.hC hI
  obtain ⟨h, w, n, nk, nl, ny, nm, li, e2, e3, e9, hnw, hh, hw, hn, hz, hp, e7, hk, e8, hl, e4, hy, e5, hm, e6, hli, hcel, hkin, hban, hwei, hshe⟩ := id hI
  have ek3 := tk_e e3 (by omega)
  have ek9 := tk_e e9 (by omega)
  have ek8 := tk_e e8 (by omega)
  refine tv_iconst (v := 0) C dX2_isAnySeen_0 (by decide) ?_
  refine tv_istore_n (lv' := [(1, .int 0), (0, .ref (tv_ad c 6))]) C dX2_isAnySeen_1 rfl (by decide) rfl ?_
  have hL2 : ∀ (k_2 i : Nat) (x_2_1 : Int32), i + k_2 = n → (sp_any (sp_as1 s r) i = false) → x_2_1 = (nI i) → tv_V c 60 X (eX c s r) 2 [(0, .ref (tv_ad c 6)), (1, .int x_2_1)] [] := by
    intro k_2
    induction k_2 with
    | zero =>
      intro i x_2_1 hi2 q0 ex_2_1
      subst ex_2_1
      have hN2 : i = n := by omega
      refine tv_iload_n C dX2_isAnySeen_2 rfl 1 rfl ?_
      refine tv_aload_n C dX2_isAnySeen_3 rfl 0 rfl ?_
      refine tv_get (ci := 2) (Cn := RX2) (T := TX2) (Nf := 3) (v := .ref (tv_ad c 2)) C 6 (by decide) rfl rfl in_X2_isAnySeen_X2 0 (by decide) lk_X2_isAnySeen_18 rfl dX2_isAnySeen_4 ?_
      refine tv_get (ci := 6) (Cn := RX6) (T := TX6) (Nf := 11) (v := .int (s 9 0)) C 2 (by decide) rfl rfl in_X2_isAnySeen_X6 5 (by decide) lk_X2_isAnySeen_22 rfl dX2_isAnySeen_7 ?_
      refine tv_icmp_ge C 37 dX2_isAnySeen_10 (by decide) (fun c_1 => ?_) (fun c_1 => absurd (tn_le e9 (rfl : nI i = nI i) (by omega) (by omega)) c_1)
      refine tv_iconst (v := 0) C dX2_isAnySeen_37 (by decide) ?_
      exact hR _ _ _ _ dX2_isAnySeen_38 (by first | rfl | exact tn_nz (sp_in_z _ _ _) | exact tn_nz (sp_ix_z _ _)) ⟨by rw [sp_an, ek9, ← hN2, q0]; rfl, by first | (simp only [q0, c_1, if_true, ts_ss, ts_aa, ↓reduceIte]; done) | rfl | (simp [q0, c_1, if_true, ts_ss, ts_aa]; done) | (exfalso; clear hR C; simp_all; done)⟩
    | succ k_2 ih2 =>
      intro i x_2_1 hi2 q0 ex_2_1
      subst ex_2_1
      have hN2 : i < n := by omega
      refine tv_iload_n C dX2_isAnySeen_2 rfl 1 rfl ?_
      refine tv_aload_n C dX2_isAnySeen_3 rfl 0 rfl ?_
      refine tv_get (ci := 2) (Cn := RX2) (T := TX2) (Nf := 3) (v := .ref (tv_ad c 2)) C 6 (by decide) rfl rfl in_X2_isAnySeen_X2 0 (by decide) lk_X2_isAnySeen_18 rfl dX2_isAnySeen_4 ?_
      refine tv_get (ci := 6) (Cn := RX6) (T := TX6) (Nf := 11) (v := .int (s 9 0)) C 2 (by decide) rfl rfl in_X2_isAnySeen_X6 5 (by decide) lk_X2_isAnySeen_22 rfl dX2_isAnySeen_7 ?_
      refine tv_icmp_ge C 37 dX2_isAnySeen_10 (by decide) (fun c_2 => absurd c_2 (tn_nle e9 (rfl : nI i = nI i) (by omega) (by omega))) (fun c_2 => ?_)
      refine tv_aload_n C dX2_isAnySeen_13 rfl 0 rfl ?_
      refine tv_iload_n C dX2_isAnySeen_14 rfl 1 rfl ?_
      refine tv_calli (As := [.int (nI i)]) (rest := []) (ci := 2) (cn := RX2) (T := TX2) (Nf := 3) C 6 (kX2_isSeenToRight c s r i (nI i) (rfl : nI i = nI i) (by omega) hI hsh (by rw [ek9]; exact hN2)) gX2_isAnySeen_X2_isSeenToRight rfl yd_X2_isSeenToRight ⟨rfl, rfl⟩ (by decide) (by decide) rfl rfl rfl rfl (Nat.le_of_ble_eq_true rfl) dX2_isAnySeen_15 (fun q_3 u_3 z_3 => ?_)
      obtain ⟨rfl, rfl⟩ := z_3
      refine tv_if_ne C 29 dX2_isAnySeen_18 (by decide) (fun c_4 => ?_) (fun c_4 => ?_)
      · skip
        refine tv_iconst (v := 1) C dX2_isAnySeen_29 (by decide) ?_
        exact hR _ _ _ _ dX2_isAnySeen_30 (by first | rfl | exact tn_nz (sp_in_z _ _ _) | exact tn_nz (sp_ix_z _ _)) ⟨by rw [sp_an, ek9, sp_any_t hN2 (by simp [sp_as1, q0, c_2, c_4])]; rfl, by first | (simp only [q0, c_2, c_4, if_true, ts_ss, ts_aa, ↓reduceIte]; done) | rfl | (simp [q0, c_2, c_4, if_true, ts_ss, ts_aa]; done) | (exfalso; clear hR C; simp_all; done)⟩
      · skip
        refine tv_aload_n C dX2_isAnySeen_21 rfl 0 rfl ?_
        refine tv_iload_n C dX2_isAnySeen_22 rfl 1 rfl ?_
        refine tv_calli (As := [.int (nI i)]) (rest := []) (ci := 2) (cn := RX2) (T := TX2) (Nf := 3) C 6 (kX2_isSeenBelow c s r i (nI i) (rfl : nI i = nI i) (by omega) hI hsh (by rw [ek9]; exact hN2)) gX2_isAnySeen_X2_isSeenBelow rfl yd_X2_isSeenBelow ⟨rfl, rfl⟩ (by decide) (by decide) rfl rfl rfl rfl (Nat.le_of_ble_eq_true rfl) dX2_isAnySeen_23 (fun q_5 u_5 z_5 => ?_)
        obtain ⟨rfl, rfl⟩ := z_5
        refine tv_if_eq C 31 dX2_isAnySeen_26 (by decide) (fun c_6 => ?_) (fun c_6 => ?_)
        · skip
          refine tv_iinc (v := ((nI i) + 1)) (lv' := [(1, .int ((nI i) + 1)), (0, .ref (tv_ad c 6))]) C dX2_isAnySeen_31 1 rfl rfl (by decide) rfl ?_
          refine tv_goto C 2 dX2_isAnySeen_34 (by decide) ?_
          refine tv_lsub [1, 0] rfl ?_
          exact ih2 (i + 1) _ (by omega) (by exact sp_any_s q0 (by simp [sp_as1, q0, c_2, eq_true c_4, eq_true c_6])) (by first | rfl | exact nI_1 _ | (simp only [q0, c_2, eq_true c_4, eq_true c_6, if_true, ↓reduceIte]; done) | (simp [q0, c_2, eq_true c_4, eq_true c_6, if_true]; done) | (exfalso; clear hR C; simp_all; done))
        · skip
          refine tv_iconst (v := 1) C dX2_isAnySeen_29 (by decide) ?_
          exact hR _ _ _ _ dX2_isAnySeen_30 (by first | rfl | exact tn_nz (sp_in_z _ _ _) | exact tn_nz (sp_ix_z _ _)) ⟨by rw [sp_an, ek9, sp_any_t hN2 (by simp [sp_as1, q0, c_2, eq_true c_4, c_6])]; rfl, by first | (simp only [q0, c_2, eq_true c_4, c_6, if_true, ts_ss, ts_aa, ↓reduceIte]; done) | rfl | (simp [q0, c_2, eq_true c_4, c_6, if_true, ts_ss, ts_aa]; done) | (exfalso; clear hR C; simp_all; done)⟩
  refine tv_lsub [1, 0] rfl ?_
  exact hL2 (n - 0) 0 _ (by omega) (by rfl) (by first | (simp only [if_true, ↓reduceIte]; done) | rfl | (simp [if_true]; done) | (exfalso; clear hR C; simp_all; done))
set_option maxHeartbeats 4000000 in
set_option maxRecDepth 100000 in
theorem kX2_countSeenOf (c : tv_c) (s r : ts_T)  (a : Nat) (p0 : Int32) (e_p0 : p0 = nI a) (h_p0 : a < 24) (hI : iv s) (hsh : sh_ok s r) (ha : a < tk (s 9 0)) : tv_Fi c 60 yX2_countSeenOf wsX2_countSeenOf { frames := 3, cells := 0, slots := 0, locals := 70 } [.ref (tv_ad c 6), .int p0] (eX c s r) (sp_co s r a) (eX c s r) := by
  refine tv_metI (by decide +kernel) rfl rfl (Nat.le_of_ble_eq_true rfl) (fun X C hR => ?_)
  show tv_V c 60 X (eX c s r) 0 [(0, .ref (tv_ad c 6)), (1, .int p0)] []
  have hC := iv.hC hI
  obtain ⟨h, w, n, nk, nl, ny, nm, li, e2, e3, e9, hnw, hh, hw, hn, hz, hp, e7, hk, e8, hl, e4, hy, e5, hm, e6, hli, hcel, hkin, hban, hwei, hshe⟩ := id hI
  have ek3 := tk_e e3 (by omega)
  have ek9 := tk_e e9 (by omega)
  have ek8 := tk_e e8 (by omega)
  have ha2 := ha
  rw [ek9] at ha
  have hmd := Nat.mod_le a w
  refine tv_aload_n C dX2_countSeenOf_0 rfl 0 rfl ?_
  have hJ13 : ∀ j_1_0 : Int32, j_1_0 = (sp_rg s r a) → tv_V c 60 X (eX c s r) 13 [(0, .ref (tv_ad c 6)), (1, .int p0)] [.int j_1_0] := by
    intro j_1_0 ej_1_0
    subst ej_1_0
    refine tv_istore_n (lv' := [(2, .int (sp_rg s r a)), (0, .ref (tv_ad c 6)), (1, .int p0)]) C dX2_countSeenOf_13 rfl (by decide) rfl ?_
    refine tv_iload_n C dX2_countSeenOf_14 rfl 0 rfl ?_
    have hJ28 : ∀ j_15_0 : Int32, j_15_0 = (sp_bl s r a) → tv_V c 60 X (eX c s r) 28 [(0, .ref (tv_ad c 6)), (1, .int p0), (2, .int (sp_rg s r a))] [.int j_15_0, .int (sp_rg s r a)] := by
      intro j_15_0 ej_15_0
      subst ej_15_0
      refine tv_iadd C dX2_countSeenOf_28 ?_
      refine tv_istore_n (lv' := [(2, .int ((sp_rg s r a) + (sp_bl s r a))), (0, .ref (tv_ad c 6)), (1, .int p0)]) C dX2_countSeenOf_29 rfl (by decide) rfl ?_
      refine tv_iload_n C dX2_countSeenOf_30 rfl 0 rfl ?_
      have hJ57 : ∀ j_31_0 : Int32, j_31_0 = (sp_l1 s r a) → tv_V c 60 X (eX c s r) 57 [(0, .ref (tv_ad c 6)), (1, .int p0), (2, .int ((sp_rg s r a) + (sp_bl s r a)))] [.int j_31_0, .int ((sp_rg s r a) + (sp_bl s r a))] := by
        intro j_31_0 ej_31_0
        subst ej_31_0
        refine tv_iadd C dX2_countSeenOf_57 ?_
        refine tv_istore_n (lv' := [(2, .int (((sp_rg s r a) + (sp_bl s r a)) + (sp_l1 s r a))), (0, .ref (tv_ad c 6)), (1, .int p0)]) C dX2_countSeenOf_58 rfl (by decide) rfl ?_
        refine tv_iload_n C dX2_countSeenOf_59 rfl 0 rfl ?_
        have hJ92 : ∀ j_60_0 : Int32, j_60_0 = (sp_u1 s r a) → tv_V c 60 X (eX c s r) 92 [(0, .ref (tv_ad c 6)), (1, .int p0), (2, .int (((sp_rg s r a) + (sp_bl s r a)) + (sp_l1 s r a)))] [.int j_60_0, .int (((sp_rg s r a) + (sp_bl s r a)) + (sp_l1 s r a))] := by
          intro j_60_0 ej_60_0
          subst ej_60_0
          refine tv_iadd C dX2_countSeenOf_92 ?_
          refine tv_istore_n (lv' := [(2, .int ((((sp_rg s r a) + (sp_bl s r a)) + (sp_l1 s r a)) + (sp_u1 s r a))), (0, .ref (tv_ad c 6)), (1, .int p0)]) C dX2_countSeenOf_93 rfl (by decide) rfl ?_
          refine tv_iload_n C dX2_countSeenOf_94 rfl 0 rfl ?_
          exact hR _ _ _ _ dX2_countSeenOf_95 ⟨by rfl, by first | (simp only [ek3, if_true, ts_ss, ts_aa, ↓reduceIte]; done) | rfl | (simp [ek3, if_true, ts_ss, ts_aa]; done) | (exfalso; clear hR C; simp_all; done)⟩
        refine tv_iload_n C dX2_countSeenOf_60 rfl 2 rfl ?_
        refine tv_aload_n C dX2_countSeenOf_61 rfl 1 rfl ?_
        refine tv_get (ci := 2) (Cn := RX2) (T := TX2) (Nf := 3) (v := .ref (tv_ad c 2)) C 6 (by decide) rfl rfl in_X2_countSeenOf_X2 0 (by decide) lk_X2_countSeenOf_18 rfl dX2_countSeenOf_62 ?_
        refine tv_get (ci := 6) (Cn := RX6) (T := TX6) (Nf := 11) (v := .int (s 3 0)) C 2 (by decide) rfl rfl in_X2_countSeenOf_X6 4 (by decide) lk_X2_countSeenOf_58 rfl dX2_countSeenOf_65 ?_
        refine tv_icmp_lt C 91 dX2_countSeenOf_68 (by decide) (fun c_1 => ?_) (fun c_1 => ?_)
        · skip
          have nc_1 : a < w := (tn_ltI e_p0 e3 (by omega) (by omega)).mp c_1
          refine tv_iconst (v := 0) C dX2_countSeenOf_91 (by decide) ?_
          refine tv_lsub [1, 2, 0] rfl ?_
          exact hJ92 0 (by simp only [sp_u1, ek3, c_1, nc_1, tn_d_lt c_1, ↓reduceIte]; first | done | exact bl_e1 (by assumption) | exact Eq.symm (by assumption))
        · skip
          have nc_1 : ¬ a < w := tn_nf (tn_ltI e_p0 e3 (by omega) (by omega)) c_1
          refine tv_aload_n C dX2_countSeenOf_71 rfl 1 rfl ?_
          refine tv_iload_n C dX2_countSeenOf_72 rfl 2 rfl ?_
          refine tv_aload_n C dX2_countSeenOf_73 rfl 1 rfl ?_
          refine tv_get (ci := 2) (Cn := RX2) (T := TX2) (Nf := 3) (v := .ref (tv_ad c 2)) C 6 (by decide) rfl rfl in_X2_countSeenOf_X2 0 (by decide) lk_X2_countSeenOf_18 rfl dX2_countSeenOf_74 ?_
          refine tv_get (ci := 6) (Cn := RX6) (T := TX6) (Nf := 11) (v := .int (s 3 0)) C 2 (by decide) rfl rfl in_X2_countSeenOf_X6 4 (by decide) lk_X2_countSeenOf_58 rfl dX2_countSeenOf_77 ?_
          refine tv_isub C dX2_countSeenOf_80 ?_
          refine tv_calli (As := [.int (p0 - (s 3 0))]) (rest := [.int (((sp_rg s r a) + (sp_bl s r a)) + (sp_l1 s r a))]) (ci := 2) (cn := RX2) (T := TX2) (Nf := 3) C 6 (kX2_isSeenBelow c s r (a - w) (p0 - (s 3 0)) (tn_sub e_p0 e3 (by omega)) (by omega) hI hsh (by rw [ek9]; omega)) gX2_countSeenOf_X2_isSeenBelow rfl yd_X2_isSeenBelow ⟨rfl, rfl⟩ (by decide) (by decide) rfl rfl rfl rfl (Nat.le_of_ble_eq_true rfl) dX2_countSeenOf_81 (fun q_2 u_2 z_2 => ?_)
          obtain ⟨rfl, rfl⟩ := z_2
          refine tv_if_eq C 91 dX2_countSeenOf_84 (by decide) (fun c_3 => ?_) (fun c_3 => ?_)
          · skip
            refine tv_iconst (v := 0) C dX2_countSeenOf_91 (by decide) ?_
            refine tv_lsub [1, 2, 0] rfl ?_
            exact hJ92 0 (by simp only [sp_u1, ek3, c_1, nc_1, tn_d_nlt c_1, eq_true c_3, ↓reduceIte]; first | done | exact bl_e1 (by assumption) | exact Eq.symm (by assumption))
          · skip
            refine tv_iconst (v := 1) C dX2_countSeenOf_87 (by decide) ?_
            refine tv_goto C 92 dX2_countSeenOf_88 (by decide) ?_
            refine tv_lsub [1, 2, 0] rfl ?_
            exact hJ92 1 (by simp only [sp_u1, ek3, c_1, nc_1, tn_d_nlt c_1, c_3, ↓reduceIte]; first | done | exact bl_e1 (by assumption) | exact Eq.symm (by assumption))
      refine tv_aload_n C dX2_countSeenOf_31 rfl 1 rfl ?_
      refine tv_get (ci := 2) (Cn := RX2) (T := TX2) (Nf := 3) (v := .ref (tv_ad c 2)) C 6 (by decide) rfl rfl in_X2_countSeenOf_X2 0 (by decide) lk_X2_countSeenOf_18 rfl dX2_countSeenOf_32 ?_
      refine tv_iload_n C dX2_countSeenOf_35 rfl 2 rfl ?_
      refine tv_calli (As := [.int p0]) (rest := [.int ((sp_rg s r a) + (sp_bl s r a))]) (ci := 6) (cn := RX6) (T := TX6) (Nf := 11) C 2 (kX6_columnOf c s r w a p0 e_p0 (by omega) e3 (by omega) hw) gX2_countSeenOf_X6_columnOf rfl yd_X6_columnOf ⟨rfl, rfl⟩ (by decide) (by decide) rfl rfl rfl rfl (Nat.le_of_ble_eq_true rfl) dX2_countSeenOf_36 (fun q_4 u_4 z_4 => ?_)
      obtain ⟨rfl, rfl⟩ := z_4
      refine tv_if_le C 56 dX2_countSeenOf_39 (by decide) (fun c_5 => ?_) (fun c_5 => ?_)
      · skip
        have nc_5 : (a % w) ≤ 0 := (tn_leIx (rfl : nI (a % w) = nI (a % w)) (tn_l 0) (by omega) (by omega)).mp c_5
        refine tv_iconst (v := 0) C dX2_countSeenOf_56 (by decide) ?_
        refine tv_lsub [1, 2, 0] rfl ?_
        exact hJ57 0 (by simp only [sp_l1, ek3, c_5, nc_5, tn_d_le c_5, ↓reduceIte]; first | done | exact rg_e1 (by assumption) | exact Eq.symm (by assumption))
      · skip
        have nc_5 : ¬ (a % w) ≤ 0 := tn_nf (tn_leIx (rfl : nI (a % w) = nI (a % w)) (tn_l 0) (by omega) (by omega)) c_5
        refine tv_aload_n C dX2_countSeenOf_42 rfl 1 rfl ?_
        refine tv_iload_n C dX2_countSeenOf_43 rfl 2 rfl ?_
        refine tv_iconst (v := 1) C dX2_countSeenOf_44 (by decide) ?_
        refine tv_isub C dX2_countSeenOf_45 ?_
        refine tv_calli (As := [.int (p0 - 1)]) (rest := [.int ((sp_rg s r a) + (sp_bl s r a))]) (ci := 2) (cn := RX2) (T := TX2) (Nf := 3) C 6 (kX2_isSeenToRight c s r (a - 1) (p0 - 1) (tn_sub e_p0 (tn_l 1) (by omega)) (by omega) hI hsh (by rw [ek9]; omega)) gX2_countSeenOf_X2_isSeenToRight rfl yd_X2_isSeenToRight ⟨rfl, rfl⟩ (by decide) (by decide) rfl rfl rfl rfl (Nat.le_of_ble_eq_true rfl) dX2_countSeenOf_46 (fun q_6 u_6 z_6 => ?_)
        obtain ⟨rfl, rfl⟩ := z_6
        refine tv_if_eq C 56 dX2_countSeenOf_49 (by decide) (fun c_7 => ?_) (fun c_7 => ?_)
        · skip
          refine tv_iconst (v := 0) C dX2_countSeenOf_56 (by decide) ?_
          refine tv_lsub [1, 2, 0] rfl ?_
          exact hJ57 0 (by simp only [sp_l1, ek3, c_5, nc_5, tn_d_nle c_5, eq_true c_7, ↓reduceIte]; first | done | exact rg_e1 (by assumption) | exact Eq.symm (by assumption))
        · skip
          refine tv_iconst (v := 1) C dX2_countSeenOf_52 (by decide) ?_
          refine tv_goto C 57 dX2_countSeenOf_53 (by decide) ?_
          refine tv_lsub [1, 2, 0] rfl ?_
          exact hJ57 1 (by simp only [sp_l1, ek3, c_5, nc_5, tn_d_nle c_5, c_7, ↓reduceIte]; first | done | exact rg_e1 (by assumption) | exact Eq.symm (by assumption))
    refine tv_aload_n C dX2_countSeenOf_15 rfl 1 rfl ?_
    refine tv_iload_n C dX2_countSeenOf_16 rfl 2 rfl ?_
    refine tv_calli (As := [.int p0]) (rest := [.int (sp_rg s r a)]) (ci := 2) (cn := RX2) (T := TX2) (Nf := 3) C 6 (kX2_isSeenBelow c s r a p0 e_p0 (by omega) hI hsh ha2) gX2_countSeenOf_X2_isSeenBelow rfl yd_X2_isSeenBelow ⟨rfl, rfl⟩ (by decide) (by decide) rfl rfl rfl rfl (Nat.le_of_ble_eq_true rfl) dX2_countSeenOf_17 (fun q_8 u_8 z_8 => ?_)
    obtain ⟨rfl, rfl⟩ := z_8
    refine tv_if_eq C 27 dX2_countSeenOf_20 (by decide) (fun c_9 => ?_) (fun c_9 => ?_)
    · skip
      refine tv_iconst (v := 0) C dX2_countSeenOf_27 (by decide) ?_
      refine tv_lsub [1, 2, 0] rfl ?_
      exact hJ28 0 (by first | exact rg_e1 (by assumption) | exact bl_e1 (by assumption) | exact Eq.symm (by assumption))
    · skip
      refine tv_iconst (v := 1) C dX2_countSeenOf_23 (by decide) ?_
      refine tv_goto C 28 dX2_countSeenOf_24 (by decide) ?_
      refine tv_lsub [1, 2, 0] rfl ?_
      exact hJ28 1 (by first | exact rg_e1 (by assumption) | exact bl_e1 (by assumption) | exact Eq.symm (by assumption))
  refine tv_iload_n C dX2_countSeenOf_1 rfl 1 rfl ?_
  refine tv_calli (As := [.int p0]) (rest := []) (ci := 2) (cn := RX2) (T := TX2) (Nf := 3) C 6 (kX2_isSeenToRight c s r a p0 e_p0 (by omega) hI hsh ha2) gX2_countSeenOf_X2_isSeenToRight rfl yd_X2_isSeenToRight ⟨rfl, rfl⟩ (by decide) (by decide) rfl rfl rfl rfl (Nat.le_of_ble_eq_true rfl) dX2_countSeenOf_2 (fun q_10 u_10 z_10 => ?_)
  obtain ⟨rfl, rfl⟩ := z_10
  refine tv_if_eq C 12 dX2_countSeenOf_5 (by decide) (fun c_11 => ?_) (fun c_11 => ?_)
  · skip
    refine tv_iconst (v := 0) C dX2_countSeenOf_12 (by decide) ?_
    refine tv_lsub [0, 1] rfl ?_
    exact hJ13 0 (by first | exact rg_e1 (by assumption) | exact bl_e1 (by assumption) | exact Eq.symm (by assumption))
  · skip
    refine tv_iconst (v := 1) C dX2_countSeenOf_8 (by decide) ?_
    refine tv_goto C 13 dX2_countSeenOf_9 (by decide) ?_
    refine tv_lsub [0, 1] rfl ?_
    exact hJ13 1 (by first | exact rg_e1 (by assumption) | exact bl_e1 (by assumption) | exact Eq.symm (by assumption))
