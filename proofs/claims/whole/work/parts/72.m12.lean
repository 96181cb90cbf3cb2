set_option maxRecDepth 20000 in
theorem in_X8_offer_X8 : ∀ w ∈ u_ws RX8 TX8 35, w ∈ wsX8_offer := by decide +kernel
set_option maxRecDepth 20000 in
theorem lk_X8_offer_78 : Cond.fieldLink RX8 78 (TX8 6).1 (TX8 6).2.1 (TX8 6).2.2.1 ∈ wsX8_offer := by decide +kernel
set_option maxRecDepth 20000 in
theorem lk_X8_offer_201 : Cond.fieldLink RX8 201 (TX8 32).1 (TX8 32).2.1 (TX8 32).2.2.1 ∈ wsX8_offer := by decide +kernel
set_option maxRecDepth 20000 in
theorem lk_X8_offer_207 : Cond.fieldLink RX8 207 (TX8 33).1 (TX8 33).2.1 (TX8 33).2.2.1 ∈ wsX8_offer := by decide +kernel
set_option maxRecDepth 20000 in
theorem lk_X8_offer_210 : Cond.fieldLink RX8 210 (TX8 34).1 (TX8 34).2.1 (TX8 34).2.2.1 ∈ wsX8_offer := by decide +kernel
set_option maxRecDepth 20000 in
theorem in_X8_findPatch_X8 : ∀ w ∈ u_ws RX8 TX8 35, w ∈ wsX8_findPatch := by decide +kernel
set_option maxRecDepth 20000 in
theorem lk_X8_findPatch_201 : Cond.fieldLink RX8 201 (TX8 32).1 (TX8 32).2.1 (TX8 32).2.2.1 ∈ wsX8_findPatch := by decide +kernel
set_option maxRecDepth 20000 in
theorem lk_X8_findPatch_78 : Cond.fieldLink RX8 78 (TX8 6).1 (TX8 6).2.1 (TX8 6).2.2.1 ∈ wsX8_findPatch := by decide +kernel
theorem yd_X8_offer : yX8_offer.cls = RX8 ∧ yX8_offer.cls ≠ "java/lang/invoke/MethodHandle" ∧ yX8_offer.cls ≠ "java/lang/invoke/VarHandle" ∧ (parseMethodDescriptor yX8_offer.desc).map (fun d => d.parameters.length) = some 3 := by decide +kernel
theorem yd_X8_findPatch : yX8_findPatch.cls = RX8 ∧ yX8_findPatch.cls ≠ "java/lang/invoke/MethodHandle" ∧ yX8_findPatch.cls ≠ "java/lang/invoke/VarHandle" ∧ (parseMethodDescriptor yX8_findPatch.desc).map (fun d => d.parameters.length) = some 2 := by decide +kernel
set_option maxRecDepth 20000 in
theorem in_X8_patch_X8 : ∀ w ∈ u_ws RX8 TX8 35, w ∈ wsX8_patch := by decide +kernel
set_option maxRecDepth 20000 in
theorem lk_X8_patch_201 : Cond.fieldLink RX8 201 (TX8 32).1 (TX8 32).2.1 (TX8 32).2.2.1 ∈ wsX8_patch := by decide +kernel
set_option maxRecDepth 20000 in
theorem lk_X8_patch_210 : Cond.fieldLink RX8 210 (TX8 34).1 (TX8 34).2.1 (TX8 34).2.2.1 ∈ wsX8_patch := by decide +kernel
set_option maxRecDepth 20000 in
theorem lk_X8_patch_207 : Cond.fieldLink RX8 207 (TX8 33).1 (TX8 33).2.1 (TX8 33).2.2.1 ∈ wsX8_patch := by decide +kernel
set_option maxHeartbeats 1000000 in
set_option maxRecDepth 100000 in
theorem kX8_offer (c : tv_c) (s r : ts_T) (n0 w0 nk0 cc : Nat) (a : Nat) (b : Nat) (k : Nat) (p0 p1 p2 : Int32) (e_p0 : p0 = nI a) (h_p0 : a < 24) (e_p1 : p1 = nI b) (h_p1 : b < 24) (e_p2 : p2 = nI k) (h_p2 : k < 6) (hI : iv s) (han : a < n0) (hbn0 : b < n0) (en0 : s 9 0 = nI n0) (ew0 : s 3 0 = nI w0) (hkn0 : k < nk0) (ek0 : s 7 0 = nI nk0) (hn0 : n0 ≤ 24) (hw0 : w0 ≤ 6) (hnk0 : nk0 ≤ 6) (hv1 : a / w0 ≤ cc / w0) (hv2 : a % w0 ≤ cc % w0) (hv3 : cc / w0 ≤ b / w0) (hv4 : cc % w0 ≤ b % w0) (hM : pM s w0 n0 cc k (-9) (r 12 0) (r 13 0) (r 14 0) (24 * a + b)) : tv_Mv c 19 yX8_offer wsX8_offer { frames := 7, cells := 0, slots := 0, locals := 178 } [.ref (tv_ad c 0), .int p0, .int p1, .int p2] (eM c s r) (fun u_0 => ∃ r_0, u_0 = eM c s r_0 ∧ pM s w0 n0 cc k (-9) (r_0 12 0) (r_0 13 0) (r_0 14 0) (24 * a + (b + 1))) := by
  refine tv_metV (by decide +kernel) rfl rfl (Nat.le_of_ble_eq_true rfl) (fun X C hR => ?_)
  show tv_V c 19 X (eM c s r) 0 [(0, .ref (tv_ad c 0)), (1, .int p0), (2, .int p1), (3, .int p2)] []
  have hC := iv.hC hI
  obtain ⟨h, w, n, nk, nl, ny, nm, li, e2, e3, e9, hnw, hh, hw, hn, hz, hp, e7, hk, e8, hl, e4, hy, e5, hm, e6, hli, hcel, hkin, hban, hwei, hshe⟩ := id hI
  have ek9 := tk_e e9 (by omega)
  have ek3 := tk_e e3 (by omega)
  have enn : n0 = n := by rw [← tk_e en0 (by omega), ek9]
  have eww : w0 = w := by rw [← ek3]; exact (tk_e ew0 (by omega)).symm
  have ekk : nk0 = nk := by rw [← tk_e e7 (by omega)]; exact (tk_e ek0 (by omega)).symm
  subst enn eww ekk
  have hw2 := hp (by omega)
  refine tv_iload_n C dX8_offer_0 rfl 2 rfl ?_
  refine tv_aload_n C dX8_offer_1 rfl 0 rfl ?_
  refine tv_get (ci := 8) (Cn := RX8) (T := TX8) (Nf := 35) (v := .int (s 3 0)) C 0 (by decide) rfl rfl in_X8_offer_X8 6 (by decide) lk_X8_offer_78 rfl dX8_offer_2 ?_
  refine tv_idiv C (tn_ne e3 (by omega) (by omega)) dX8_offer_5 ?_
  refine tv_iload_n C dX8_offer_6 rfl 1 rfl ?_
  refine tv_aload_n C dX8_offer_7 rfl 0 rfl ?_
  refine tv_get (ci := 8) (Cn := RX8) (T := TX8) (Nf := 35) (v := .int (s 3 0)) C 0 (by decide) rfl rfl in_X8_offer_X8 6 (by decide) lk_X8_offer_78 rfl dX8_offer_8 ?_
  refine tv_idiv C (tn_ne e3 (by omega) (by omega)) dX8_offer_11 ?_
  refine tv_isub C dX8_offer_12 ?_
  refine tv_iconst (v := 1) C dX8_offer_13 (by decide) ?_
  refine tv_iadd C dX8_offer_14 ?_
  refine tv_iload_n C dX8_offer_15 rfl 2 rfl ?_
  refine tv_aload_n C dX8_offer_16 rfl 0 rfl ?_
  refine tv_get (ci := 8) (Cn := RX8) (T := TX8) (Nf := 35) (v := .int (s 3 0)) C 0 (by decide) rfl rfl in_X8_offer_X8 6 (by decide) lk_X8_offer_78 rfl dX8_offer_17 ?_
  refine tv_irem C (tn_ne e3 (by omega) (by omega)) dX8_offer_20 ?_
  refine tv_iload_n C dX8_offer_21 rfl 1 rfl ?_
  refine tv_aload_n C dX8_offer_22 rfl 0 rfl ?_
  refine tv_get (ci := 8) (Cn := RX8) (T := TX8) (Nf := 35) (v := .int (s 3 0)) C 0 (by decide) rfl rfl in_X8_offer_X8 6 (by decide) lk_X8_offer_78 rfl dX8_offer_23 ?_
  refine tv_irem C (tn_ne e3 (by omega) (by omega)) dX8_offer_26 ?_
  refine tv_isub C dX8_offer_27 ?_
  refine tv_iconst (v := 1) C dX8_offer_28 (by decide) ?_
  refine tv_iadd C dX8_offer_29 ?_
  refine tv_imul C dX8_offer_30 ?_
  rw [pm_i e_p0 e_p1 e3 (by omega) hw h_p0 h_p1 (Nat.le_trans hv1 hv3) (Nat.le_trans hv2 hv4)]
  refine tv_istore (lv' := [(4, .int (nI (pm w0 (24 * a + b)))), (0, .ref (tv_ad c 0)), (1, .int p0), (2, .int p1), (3, .int p2)]) C dX8_offer_31 (by decide) rfl ?_
  refine tv_aload_n C dX8_offer_33 rfl 1 rfl ?_
  refine tv_get (ci := 8) (Cn := RX8) (T := TX8) (Nf := 35) (v := .int (r 12 0)) C 0 (by decide) rfl rfl in_X8_offer_X8 32 (by decide) lk_X8_offer_201 rfl dX8_offer_34 ?_
  refine tv_bipush (v := (-9)) C dX8_offer_37 (by decide) ?_
  refine tv_icmp_eq C 51 dX8_offer_39 (by decide) (fun c_1 => ?_) (fun c_1 => ?_)
  · skip
    refine tv_iconst (v := 1) C dX8_offer_51 (by decide) ?_
    refine tv_goto C 56 dX8_offer_52 (by decide) ?_
    refine tv_istore (lv' := [(5, .int 1), (4, .int (nI (pm w0 (24 * a + b)))), (0, .ref (tv_ad c 0)), (1, .int p0), (2, .int p1), (3, .int p2)]) C dX8_offer_56 (by decide) rfl ?_
    refine tv_iload C dX8_offer_58 0 rfl ?_
    refine tv_if_eq C 89 dX8_offer_60 (by decide) (fun c_2 => absurd c_2 (by decide)) (fun c_2 => ?_)
    refine tv_aload_n C dX8_offer_63 rfl 2 rfl ?_
    refine tv_iload_n C dX8_offer_64 rfl 3 rfl ?_
    refine tv_iload_n C dX8_offer_65 rfl 4 rfl ?_
    refine tv_iload_n C dX8_offer_66 rfl 5 rfl ?_
    refine tv_calli (As := [.int p0, .int p1, .int p2]) (rest := []) (ci := 8) (cn := RX8) (T := TX8) (Nf := 35) C 0 (kX8_seenWith c s r n0 w0 nk0 a b k p0 p1 p2 e_p0 (by omega) e_p1 (by omega) e_p2 (by omega) hI han hbn0 e9 (Nat.le_trans hv1 hv3) (Nat.le_trans hv2 hv4) e3 hkn0 e7 hn hw hk) gX8_offer_X8_seenWith rfl yd_X8_seenWith ⟨rfl, rfl⟩ (by decide) (by decide) rfl rfl rfl rfl (Nat.le_of_ble_eq_true rfl) dX8_offer_67 (fun q_3 u_3 z_3 => ?_)
    obtain ⟨rfl, rfl⟩ := z_3
    refine tv_if_ne C 89 dX8_offer_70 (by decide) (fun c_4 => ?_) (fun c_4 => ?_)
    · skip
      exact hR _ _ _ dX8_offer_89 (by exact ⟨_, rfl, pM_nb hM h_p1 (by rw [← ek9]; assumption)⟩)
    · skip
      refine tv_aload_n C dX8_offer_73 rfl 2 rfl ?_
      refine tv_iload C dX8_offer_74 1 rfl ?_
      refine tv_put (ci := 8) (Cn := RX8) (T := TX8) (Nf := 35) (ty := .int) (E' := (eM c s (ts_s (ts_a (ts_a (ts_a r 9 (ts_f (s 11) (r 9) (tk (s 9 0)))) 10 (ts_f (s 12) (r 10) (tk (s 9 0)))) 11 (ts_f (s 13) (r 11) (tk (s 9 0)))) 12 (nI (pm w0 (24 * a + b)))))) C 0 (by decide) rfl rfl in_X8_offer_X8 tyX8 tyX8_ok nmX8 32 (by decide) lk_X8_offer_201 rfl (by decide +kernel) rfl rfl (Nat.le_of_ble_eq_true rfl) (eM_u_patchMany c s (ts_a (ts_a (ts_a r 9 (ts_f (s 11) (r 9) (tk (s 9 0)))) 10 (ts_f (s 12) (r 10) (tk (s 9 0)))) 11 (ts_f (s 13) (r 11) (tk (s 9 0)))) (nI (pm w0 (24 * a + b)))) dX8_offer_76 ?_
      refine tv_aload_n C dX8_offer_79 rfl 2 rfl ?_
      refine tv_iload_n C dX8_offer_80 rfl 3 rfl ?_
      refine tv_put (ci := 8) (Cn := RX8) (T := TX8) (Nf := 35) (ty := .int) (E' := (eM c s (ts_s (ts_s (ts_a (ts_a (ts_a r 9 (ts_f (s 11) (r 9) (tk (s 9 0)))) 10 (ts_f (s 12) (r 10) (tk (s 9 0)))) 11 (ts_f (s 13) (r 11) (tk (s 9 0)))) 12 (nI (pm w0 (24 * a + b)))) 13 p0))) C 0 (by decide) rfl rfl in_X8_offer_X8 tyX8 tyX8_ok nmX8 33 (by decide) lk_X8_offer_207 rfl (by decide +kernel) rfl rfl (Nat.le_of_ble_eq_true rfl) (eM_u_patchFirst c s (ts_s (ts_a (ts_a (ts_a r 9 (ts_f (s 11) (r 9) (tk (s 9 0)))) 10 (ts_f (s 12) (r 10) (tk (s 9 0)))) 11 (ts_f (s 13) (r 11) (tk (s 9 0)))) 12 (nI (pm w0 (24 * a + b)))) p0) dX8_offer_81 ?_
      refine tv_aload_n C dX8_offer_84 rfl 2 rfl ?_
      refine tv_iload_n C dX8_offer_85 rfl 4 rfl ?_
      refine tv_put (ci := 8) (Cn := RX8) (T := TX8) (Nf := 35) (ty := .int) (E' := (eM c s (ts_s (ts_s (ts_s (ts_a (ts_a (ts_a r 9 (ts_f (s 11) (r 9) (tk (s 9 0)))) 10 (ts_f (s 12) (r 10) (tk (s 9 0)))) 11 (ts_f (s 13) (r 11) (tk (s 9 0)))) 12 (nI (pm w0 (24 * a + b)))) 13 p0) 14 p1))) C 0 (by decide) rfl rfl in_X8_offer_X8 tyX8 tyX8_ok nmX8 34 (by decide) lk_X8_offer_210 rfl (by decide +kernel) rfl rfl (Nat.le_of_ble_eq_true rfl) (eM_u_patchLast c s (ts_s (ts_s (ts_a (ts_a (ts_a r 9 (ts_f (s 11) (r 9) (tk (s 9 0)))) 10 (ts_f (s 12) (r 10) (tk (s 9 0)))) 11 (ts_f (s 13) (r 11) (tk (s 9 0)))) 12 (nI (pm w0 (24 * a + b)))) 13 p0) p1) dX8_offer_86 ?_
      exact hR _ _ _ dX8_offer_89 (by exact ⟨_, rfl, pM_nn hM hnw hh (by omega) hw z_n9 h_p1 ⟨hv1, hv2, hv3, hv4, hbn0⟩ (by rw [← ek9]; assumption) (by first | exact Or.inl (by assumption) | exact Or.inr (by assumption)) e_p0 e_p1⟩)
  · skip
    refine tv_iload C dX8_offer_42 0 rfl ?_
    refine tv_aload_n C dX8_offer_44 rfl 1 rfl ?_
    refine tv_get (ci := 8) (Cn := RX8) (T := TX8) (Nf := 35) (v := .int (r 12 0)) C 0 (by decide) rfl rfl in_X8_offer_X8 32 (by decide) lk_X8_offer_201 rfl dX8_offer_45 ?_
    refine tv_icmp_ge C 55 dX8_offer_48 (by decide) (fun c_5 => ?_) (fun c_5 => ?_)
    · skip
      refine tv_iconst (v := 0) C dX8_offer_55 (by decide) ?_
      refine tv_istore (lv' := [(5, .int 0), (4, .int (nI (pm w0 (24 * a + b)))), (0, .ref (tv_ad c 0)), (1, .int p0), (2, .int p1), (3, .int p2)]) C dX8_offer_56 (by decide) rfl ?_
      refine tv_iload C dX8_offer_58 0 rfl ?_
      refine tv_if_eq C 89 dX8_offer_60 (by decide) (fun c_6 => ?_) (fun c_6 => absurd (by decide) c_6)
      exact hR _ _ _ dX8_offer_89 (by exact ⟨_, rfl, pM_nk hM hnw hh (by omega) hw h_p1 hbn0 (by assumption) (by assumption)⟩)
    · skip
      refine tv_iconst (v := 1) C dX8_offer_51 (by decide) ?_
      refine tv_goto C 56 dX8_offer_52 (by decide) ?_
      refine tv_istore (lv' := [(5, .int 1), (4, .int (nI (pm w0 (24 * a + b)))), (0, .ref (tv_ad c 0)), (1, .int p0), (2, .int p1), (3, .int p2)]) C dX8_offer_56 (by decide) rfl ?_
      refine tv_iload C dX8_offer_58 0 rfl ?_
      refine tv_if_eq C 89 dX8_offer_60 (by decide) (fun c_7 => absurd c_7 (by decide)) (fun c_7 => ?_)
      refine tv_aload_n C dX8_offer_63 rfl 2 rfl ?_
      refine tv_iload_n C dX8_offer_64 rfl 3 rfl ?_
      refine tv_iload_n C dX8_offer_65 rfl 4 rfl ?_
      refine tv_iload_n C dX8_offer_66 rfl 5 rfl ?_
      refine tv_calli (As := [.int p0, .int p1, .int p2]) (rest := []) (ci := 8) (cn := RX8) (T := TX8) (Nf := 35) C 0 (kX8_seenWith c s r n0 w0 nk0 a b k p0 p1 p2 e_p0 (by omega) e_p1 (by omega) e_p2 (by omega) hI han hbn0 e9 (Nat.le_trans hv1 hv3) (Nat.le_trans hv2 hv4) e3 hkn0 e7 hn hw hk) gX8_offer_X8_seenWith rfl yd_X8_seenWith ⟨rfl, rfl⟩ (by decide) (by decide) rfl rfl rfl rfl (Nat.le_of_ble_eq_true rfl) dX8_offer_67 (fun q_8 u_8 z_8 => ?_)
      obtain ⟨rfl, rfl⟩ := z_8
      refine tv_if_ne C 89 dX8_offer_70 (by decide) (fun c_9 => ?_) (fun c_9 => ?_)
      · skip
        exact hR _ _ _ dX8_offer_89 (by exact ⟨_, rfl, pM_nb hM h_p1 (by rw [← ek9]; assumption)⟩)
      · skip
        refine tv_aload_n C dX8_offer_73 rfl 2 rfl ?_
        refine tv_iload C dX8_offer_74 1 rfl ?_
        refine tv_put (ci := 8) (Cn := RX8) (T := TX8) (Nf := 35) (ty := .int) (E' := (eM c s (ts_s (ts_a (ts_a (ts_a r 9 (ts_f (s 11) (r 9) (tk (s 9 0)))) 10 (ts_f (s 12) (r 10) (tk (s 9 0)))) 11 (ts_f (s 13) (r 11) (tk (s 9 0)))) 12 (nI (pm w0 (24 * a + b)))))) C 0 (by decide) rfl rfl in_X8_offer_X8 tyX8 tyX8_ok nmX8 32 (by decide) lk_X8_offer_201 rfl (by decide +kernel) rfl rfl (Nat.le_of_ble_eq_true rfl) (eM_u_patchMany c s (ts_a (ts_a (ts_a r 9 (ts_f (s 11) (r 9) (tk (s 9 0)))) 10 (ts_f (s 12) (r 10) (tk (s 9 0)))) 11 (ts_f (s 13) (r 11) (tk (s 9 0)))) (nI (pm w0 (24 * a + b)))) dX8_offer_76 ?_
        refine tv_aload_n C dX8_offer_79 rfl 2 rfl ?_
        refine tv_iload_n C dX8_offer_80 rfl 3 rfl ?_
        refine tv_put (ci := 8) (Cn := RX8) (T := TX8) (Nf := 35) (ty := .int) (E' := (eM c s (ts_s (ts_s (ts_a (ts_a (ts_a r 9 (ts_f (s 11) (r 9) (tk (s 9 0)))) 10 (ts_f (s 12) (r 10) (tk (s 9 0)))) 11 (ts_f (s 13) (r 11) (tk (s 9 0)))) 12 (nI (pm w0 (24 * a + b)))) 13 p0))) C 0 (by decide) rfl rfl in_X8_offer_X8 tyX8 tyX8_ok nmX8 33 (by decide) lk_X8_offer_207 rfl (by decide +kernel) rfl rfl (Nat.le_of_ble_eq_true rfl) (eM_u_patchFirst c s (ts_s (ts_a (ts_a (ts_a r 9 (ts_f (s 11) (r 9) (tk (s 9 0)))) 10 (ts_f (s 12) (r 10) (tk (s 9 0)))) 11 (ts_f (s 13) (r 11) (tk (s 9 0)))) 12 (nI (pm w0 (24 * a + b)))) p0) dX8_offer_81 ?_
        refine tv_aload_n C dX8_offer_84 rfl 2 rfl ?_
        refine tv_iload_n C dX8_offer_85 rfl 4 rfl ?_
        refine tv_put (ci := 8) (Cn := RX8) (T := TX8) (Nf := 35) (ty := .int) (E' := (eM c s (ts_s (ts_s (ts_s (ts_a (ts_a (ts_a r 9 (ts_f (s 11) (r 9) (tk (s 9 0)))) 10 (ts_f (s 12) (r 10) (tk (s 9 0)))) 11 (ts_f (s 13) (r 11) (tk (s 9 0)))) 12 (nI (pm w0 (24 * a + b)))) 13 p0) 14 p1))) C 0 (by decide) rfl rfl in_X8_offer_X8 tyX8 tyX8_ok nmX8 34 (by decide) lk_X8_offer_210 rfl (by decide +kernel) rfl rfl (Nat.le_of_ble_eq_true rfl) (eM_u_patchLast c s (ts_s (ts_s (ts_a (ts_a (ts_a r 9 (ts_f (s 11) (r 9) (tk (s 9 0)))) 10 (ts_f (s 12) (r 10) (tk (s 9 0)))) 11 (ts_f (s 13) (r 11) (tk (s 9 0)))) 12 (nI (pm w0 (24 * a + b)))) 13 p0) p1) dX8_offer_86 ?_
        exact hR _ _ _ dX8_offer_89 (by exact ⟨_, rfl, pM_nn hM hnw hh (by omega) hw z_n9 h_p1 ⟨hv1, hv2, hv3, hv4, hbn0⟩ (by rw [← ek9]; assumption) (by first | exact Or.inl (by assumption) | exact Or.inr (by assumption)) e_p0 e_p1⟩)
set_option maxHeartbeats 1000000 in
set_option maxRecDepth 100000 in
theorem kX8_findPatch (c : tv_c) (s r : ts_T)  (cc : Nat) (k : Nat) (p0 p1 : Int32) (e_p0 : p0 = nI cc) (h_p0 : cc < 24) (e_p1 : p1 = nI k) (h_p1 : k < 6) (hI : iv s) (hcn0 : cc < tk (s 9 0)) (hkn0 : k < tk (s 7 0)) : tv_Mv c 19 yX8_findPatch wsX8_findPatch { frames := 8, cells := 0, slots := 0, locals := 203 } [.ref (tv_ad c 0), .int p0, .int p1] (eM c s r) (fun u_0 => ∃ r_0, u_0 = eM c s r_0 ∧ pM s (tk (s 3 0)) (tk (s 9 0)) cc k (-9) (r_0 12 0) (r_0 13 0) (r_0 14 0) (24 * (cc + 1))) := by
  refine tv_metV (by decide +kernel) rfl rfl (Nat.le_of_ble_eq_true rfl) (fun X C hR => ?_)
  show tv_V c 19 X (eM c s r) 0 [(0, .ref (tv_ad c 0)), (1, .int p0), (2, .int p1)] []
  have hC := iv.hC hI
  obtain ⟨h, w, n, nk, nl, ny, nm, li, e2, e3, e9, hnw, hh, hw, hn, hz, hp, e7, hk, e8, hl, e4, hy, e5, hm, e6, hli, hcel, hkin, hban, hwei, hshe⟩ := id hI
  have ek9 := tk_e e9 (by omega)
  have ek7 := tk_e e7 (by omega)
  have ek3 := tk_e e3 (by omega)
  have hcn := hcn0
  have hkn := hkn0
  rw [ek9] at hcn
  rw [ek7] at hkn
  have hw2 := hp (by omega)
  have hdc := Nat.div_le_self cc w
  have hmc := Nat.mod_lt cc (show 0 < w by omega)
  refine tv_aload_n C dX8_findPatch_0 rfl 0 rfl ?_
  refine tv_bipush (v := (-9)) C dX8_findPatch_1 (by decide) ?_
  refine tv_put (ci := 8) (Cn := RX8) (T := TX8) (Nf := 35) (ty := .int) (E' := (eM c s (ts_s r 12 (-9)))) C 0 (by decide) rfl rfl in_X8_findPatch_X8 tyX8 tyX8_ok nmX8 32 (by decide) lk_X8_findPatch_201 rfl (by decide +kernel) rfl rfl (Nat.le_of_ble_eq_true rfl) (eM_u_patchMany c s r (-9)) dX8_findPatch_3 ?_
  refine tv_iload_n C dX8_findPatch_6 rfl 1 rfl ?_
  refine tv_aload_n C dX8_findPatch_7 rfl 0 rfl ?_
  refine tv_get (ci := 8) (Cn := RX8) (T := TX8) (Nf := 35) (v := .int (s 3 0)) C 0 (by decide) rfl rfl in_X8_findPatch_X8 6 (by decide) lk_X8_findPatch_78 rfl dX8_findPatch_8 ?_
  refine tv_idiv C (tn_ne e3 (by omega) (by omega)) dX8_findPatch_11 ?_
  refine tv_istore_n (lv' := [(3, .int (p0 / (s 3 0))), (0, .ref (tv_ad c 0)), (1, .int p0), (2, .int p1)]) C dX8_findPatch_12 rfl (by decide) rfl ?_
  refine tv_iload_n C dX8_findPatch_13 rfl 2 rfl ?_
  refine tv_aload_n C dX8_findPatch_14 rfl 1 rfl ?_
  refine tv_get (ci := 8) (Cn := RX8) (T := TX8) (Nf := 35) (v := .int (s 3 0)) C 0 (by decide) rfl rfl in_X8_findPatch_X8 6 (by decide) lk_X8_findPatch_78 rfl dX8_findPatch_15 ?_
  refine tv_irem C (tn_ne e3 (by omega) (by omega)) dX8_findPatch_18 ?_
  refine tv_istore (lv' := [(4, .int (p0 - p0 / (s 3 0) * (s 3 0))), (3, .int (p0 / (s 3 0))), (0, .ref (tv_ad c 0)), (1, .int p0), (2, .int p1)]) C dX8_findPatch_19 (by decide) rfl ?_
  refine tv_iconst (v := 0) C dX8_findPatch_21 (by decide) ?_
  refine tv_istore (lv' := [(5, .int 0), (4, .int (p0 - p0 / (s 3 0) * (s 3 0))), (3, .int (p0 / (s 3 0))), (0, .ref (tv_ad c 0)), (1, .int p0), (2, .int p1)]) C dX8_findPatch_22 (by decide) rfl ?_
  have hL24 : ∀ (k_24 i : Nat) (x_24_5 : Int32) (rr : ts_T), i + k_24 = (cc + 1) → (pM s w n cc k (-9) (rr 12 0) (rr 13 0) (rr 14 0) (24 * i)) → x_24_5 = (nI i) → tv_V c 19 X (eM c s rr) 24 [(0, .ref (tv_ad c 0)), (1, .int p0), (2, .int p1), (3, .int (p0 / (s 3 0))), (4, .int (p0 - p0 / (s 3 0) * (s 3 0))), (5, .int x_24_5)] [] := by
    intro k_24
    induction k_24 with
    | zero =>
      intro i x_24_5 rr hi24 h0 ex_24_5
      subst ex_24_5
      have hN24 : i = (cc + 1) := by omega
      refine tv_iload C dX8_findPatch_24 5 rfl ?_
      refine tv_iload_n C dX8_findPatch_26 rfl 1 rfl ?_
      refine tv_icmp_gt C 109 dX8_findPatch_27 (by decide) (fun c_1 => ?_) (fun c_1 => absurd (tn_lt e_p0 (rfl : nI i = nI i) (by omega) (by omega)) c_1)
      exact hR _ _ _ dX8_findPatch_109 (by rw [hN24] at h0; rw [ek3, ek9]; exact ⟨rr, rfl, h0⟩)
    | succ k_24 ih24 =>
      intro i x_24_5 rr hi24 h0 ex_24_5
      subst ex_24_5
      have hN24 : i < (cc + 1) := by omega
      have hdi := Nat.div_le_self i w
      have hmi := Nat.mod_lt i (show 0 < w by omega)
      refine tv_iload C dX8_findPatch_24 5 rfl ?_
      refine tv_iload_n C dX8_findPatch_26 rfl 1 rfl ?_
      refine tv_icmp_gt C 109 dX8_findPatch_27 (by decide) (fun c_2 => absurd c_2 (tn_nlt e_p0 (rfl : nI i = nI i) (by omega) (by omega))) (fun c_2 => ?_)
      refine tv_iload_n C dX8_findPatch_30 rfl 1 rfl ?_
      refine tv_istore (lv' := [(6, .int p0), (0, .ref (tv_ad c 0)), (1, .int p0), (2, .int p1), (3, .int (p0 / (s 3 0))), (4, .int (p0 - p0 / (s 3 0) * (s 3 0))), (5, .int (nI i))]) C dX8_findPatch_31 (by decide) rfl ?_
      have hL33 : ∀ (k_33 m : Nat) (x_33_6 : Int32) (r2 : ts_T), m + k_33 = n → (pM s w n cc k (-9) (r2 12 0) (r2 13 0) (r2 14 0) (24 * i + m)) → x_33_6 = (nI m) → tv_V c 19 X (eM c s r2) 33 [(0, .ref (tv_ad c 0)), (1, .int p0), (2, .int p1), (3, .int (p0 / (s 3 0))), (4, .int (p0 - p0 / (s 3 0) * (s 3 0))), (5, .int (nI i)), (6, .int x_33_6)] [] := by
        intro k_33
        induction k_33 with
        | zero =>
          intro m x_33_6 r2 hi33 h1 ex_33_6
          subst ex_33_6
          have hN33 : m = n := by omega
          refine tv_iload C dX8_findPatch_33 6 rfl ?_
          refine tv_aload_n C dX8_findPatch_35 rfl 0 rfl ?_
          refine tv_calli (As := []) (rest := [.int (nI m)]) (ci := 8) (cn := RX8) (T := TX8) (Nf := 35) C 0 (kX8_all c s r2   hC) gX8_findPatch_X8_all rfl yd_X8_all ⟨rfl, rfl⟩ (by decide) (by decide) rfl rfl rfl rfl (Nat.le_of_ble_eq_true rfl) dX8_findPatch_36 (fun q_3 u_3 z_3 => ?_)
          obtain ⟨rfl, rfl⟩ := z_3
          refine tv_icmp_ge C 103 dX8_findPatch_39 (by decide) (fun c_4 => ?_) (fun c_4 => absurd (tn_le e9 (rfl : nI m = nI m) (by omega) (by omega)) c_4)
          refine tv_iinc (v := ((nI i) + 1)) (lv' := [(5, .int ((nI i) + 1)), (0, .ref (tv_ad c 0)), (1, .int p0), (2, .int p1), (3, .int (p0 / (s 3 0))), (4, .int (p0 - p0 / (s 3 0) * (s 3 0))), (6, .int (nI m))]) C dX8_findPatch_103 5 rfl rfl (by decide) rfl ?_
          refine tv_goto C 24 dX8_findPatch_106 (by decide) ?_
          refine tv_lsub [1, 2, 3, 4, 5, 0] rfl ?_
          exact ih24 (i + 1) _ r2 (by omega) (by rw [hN33] at h1; exact pM_skip h1 (fun x hx => pS_3 hn hx)) (by first | rfl | exact nI_1 _ | (simp only [c_2, c_4, if_true, ↓reduceIte]; done) | (simp [c_2, c_4, if_true]; done) | (exfalso; clear hR C; simp_all; done))
        | succ k_33 ih33 =>
          intro m x_33_6 r2 hi33 h1 ex_33_6
          subst ex_33_6
          have hN33 : m < n := by omega
          have hdm := Nat.div_le_self m w
          have hmm := Nat.mod_lt m (show 0 < w by omega)
          refine tv_iload C dX8_findPatch_33 6 rfl ?_
          refine tv_aload_n C dX8_findPatch_35 rfl 0 rfl ?_
          refine tv_calli (As := []) (rest := [.int (nI m)]) (ci := 8) (cn := RX8) (T := TX8) (Nf := 35) C 0 (kX8_all c s r2   hC) gX8_findPatch_X8_all rfl yd_X8_all ⟨rfl, rfl⟩ (by decide) (by decide) rfl rfl rfl rfl (Nat.le_of_ble_eq_true rfl) dX8_findPatch_36 (fun q_5 u_5 z_5 => ?_)
          obtain ⟨rfl, rfl⟩ := z_5
          refine tv_icmp_ge C 103 dX8_findPatch_39 (by decide) (fun c_6 => absurd c_6 (tn_nle e9 (rfl : nI m = nI m) (by omega) (by omega))) (fun c_6 => ?_)
          refine tv_iload C dX8_findPatch_42 5 rfl ?_
          refine tv_aload_n C dX8_findPatch_44 rfl 0 rfl ?_
          refine tv_get (ci := 8) (Cn := RX8) (T := TX8) (Nf := 35) (v := .int (s 3 0)) C 0 (by decide) rfl rfl in_X8_findPatch_X8 6 (by decide) lk_X8_findPatch_78 rfl dX8_findPatch_45 ?_
          refine tv_idiv C (tn_ne e3 (by omega) (by omega)) dX8_findPatch_48 ?_
          refine tv_iload_n C dX8_findPatch_49 rfl 3 rfl ?_
          refine tv_icmp_gt C 97 dX8_findPatch_50 (by decide) (fun c_7 => ?_) (fun c_7 => ?_)
          · skip
            have nc_7 : (cc / w) < (i / w) := (tn_gtI (tn_div (rfl : nI i = nI i) e3 (by omega) (by omega) (by omega)) (tn_div e_p0 e3 (by omega) (by omega) (by omega)) (by omega) (by omega)).mp c_7
            refine tv_iinc (v := ((nI m) + 1)) (lv' := [(6, .int ((nI m) + 1)), (0, .ref (tv_ad c 0)), (1, .int p0), (2, .int p1), (3, .int (p0 / (s 3 0))), (4, .int (p0 - p0 / (s 3 0) * (s 3 0))), (5, .int (nI i))]) C dX8_findPatch_97 6 rfl rfl (by decide) rfl ?_
            refine tv_goto C 33 dX8_findPatch_100 (by decide) ?_
            refine tv_lsub [1, 2, 3, 4, 5, 6, 0] rfl ?_
            exact ih33 (m + 1) _ r2 (by omega) (by exact pM_nv h1 (by omega) (by omega)) (by first | rfl | exact nI_1 _ | (simp only [c_2, c_6, c_7, nc_7, tn_d_lt c_7, if_true, ↓reduceIte]; done) | (simp [c_2, c_6, c_7, nc_7, tn_d_lt c_7, if_true]; done) | (exfalso; clear hR C; simp_all; done))
          · skip
            have nc_7 : ¬ (cc / w) < (i / w) := tn_nf (tn_gtI (tn_div (rfl : nI i = nI i) e3 (by omega) (by omega) (by omega)) (tn_div e_p0 e3 (by omega) (by omega) (by omega)) (by omega) (by omega)) c_7
            refine tv_iload C dX8_findPatch_53 5 rfl ?_
            refine tv_aload_n C dX8_findPatch_55 rfl 0 rfl ?_
            refine tv_get (ci := 8) (Cn := RX8) (T := TX8) (Nf := 35) (v := .int (s 3 0)) C 0 (by decide) rfl rfl in_X8_findPatch_X8 6 (by decide) lk_X8_findPatch_78 rfl dX8_findPatch_56 ?_
            refine tv_irem C (tn_ne e3 (by omega) (by omega)) dX8_findPatch_59 ?_
            refine tv_iload C dX8_findPatch_60 4 rfl ?_
            refine tv_icmp_gt C 97 dX8_findPatch_62 (by decide) (fun c_8 => ?_) (fun c_8 => ?_)
            · skip
              have nc_8 : (cc % w) < (i % w) := (tn_gtI (tn_rem (rfl : nI i = nI i) e3 (by omega) (by omega) (by omega)) (tn_rem e_p0 e3 (by omega) (by omega) (by omega)) (by omega) (by omega)).mp c_8
              refine tv_iinc (v := ((nI m) + 1)) (lv' := [(6, .int ((nI m) + 1)), (0, .ref (tv_ad c 0)), (1, .int p0), (2, .int p1), (3, .int (p0 / (s 3 0))), (4, .int (p0 - p0 / (s 3 0) * (s 3 0))), (5, .int (nI i))]) C dX8_findPatch_97 6 rfl rfl (by decide) rfl ?_
              refine tv_goto C 33 dX8_findPatch_100 (by decide) ?_
              refine tv_lsub [1, 2, 3, 4, 5, 6, 0] rfl ?_
              exact ih33 (m + 1) _ r2 (by omega) (by exact pM_nv h1 (by omega) (by omega)) (by first | rfl | exact nI_1 _ | (simp only [c_2, c_6, c_7, nc_7, tn_d_nlt c_7, c_8, nc_8, tn_d_lt c_8, if_true, ↓reduceIte]; done) | (simp [c_2, c_6, c_7, nc_7, tn_d_nlt c_7, c_8, nc_8, tn_d_lt c_8, if_true]; done) | (exfalso; clear hR C; simp_all; done))
            · skip
              have nc_8 : ¬ (cc % w) < (i % w) := tn_nf (tn_gtI (tn_rem (rfl : nI i = nI i) e3 (by omega) (by omega) (by omega)) (tn_rem e_p0 e3 (by omega) (by omega) (by omega)) (by omega) (by omega)) c_8
              refine tv_iload C dX8_findPatch_65 6 rfl ?_
              refine tv_aload_n C dX8_findPatch_67 rfl 0 rfl ?_
              refine tv_get (ci := 8) (Cn := RX8) (T := TX8) (Nf := 35) (v := .int (s 3 0)) C 0 (by decide) rfl rfl in_X8_findPatch_X8 6 (by decide) lk_X8_findPatch_78 rfl dX8_findPatch_68 ?_
              refine tv_idiv C (tn_ne e3 (by omega) (by omega)) dX8_findPatch_71 ?_
              refine tv_iload_n C dX8_findPatch_72 rfl 3 rfl ?_
              refine tv_icmp_lt C 97 dX8_findPatch_73 (by decide) (fun c_9 => ?_) (fun c_9 => ?_)
              · skip
                have nc_9 : (m / w) < (cc / w) := (tn_ltI (tn_div (rfl : nI m = nI m) e3 (by omega) (by omega) (by omega)) (tn_div e_p0 e3 (by omega) (by omega) (by omega)) (by omega) (by omega)).mp c_9
                refine tv_iinc (v := ((nI m) + 1)) (lv' := [(6, .int ((nI m) + 1)), (0, .ref (tv_ad c 0)), (1, .int p0), (2, .int p1), (3, .int (p0 / (s 3 0))), (4, .int (p0 - p0 / (s 3 0) * (s 3 0))), (5, .int (nI i))]) C dX8_findPatch_97 6 rfl rfl (by decide) rfl ?_
                refine tv_goto C 33 dX8_findPatch_100 (by decide) ?_
                refine tv_lsub [1, 2, 3, 4, 5, 6, 0] rfl ?_
                exact ih33 (m + 1) _ r2 (by omega) (by exact pM_nv h1 (by omega) (by omega)) (by first | rfl | exact nI_1 _ | (simp only [c_2, c_6, c_7, nc_7, tn_d_nlt c_7, c_8, nc_8, tn_d_nlt c_8, c_9, nc_9, tn_d_lt c_9, if_true, ↓reduceIte]; done) | (simp [c_2, c_6, c_7, nc_7, tn_d_nlt c_7, c_8, nc_8, tn_d_nlt c_8, c_9, nc_9, tn_d_lt c_9, if_true]; done) | (exfalso; clear hR C; simp_all; done))
              · skip
                have nc_9 : ¬ (m / w) < (cc / w) := tn_nf (tn_ltI (tn_div (rfl : nI m = nI m) e3 (by omega) (by omega) (by omega)) (tn_div e_p0 e3 (by omega) (by omega) (by omega)) (by omega) (by omega)) c_9
                refine tv_iload C dX8_findPatch_76 6 rfl ?_
                refine tv_aload_n C dX8_findPatch_78 rfl 0 rfl ?_
                refine tv_get (ci := 8) (Cn := RX8) (T := TX8) (Nf := 35) (v := .int (s 3 0)) C 0 (by decide) rfl rfl in_X8_findPatch_X8 6 (by decide) lk_X8_findPatch_78 rfl dX8_findPatch_79 ?_
                refine tv_irem C (tn_ne e3 (by omega) (by omega)) dX8_findPatch_82 ?_
                refine tv_iload C dX8_findPatch_83 4 rfl ?_
                refine tv_icmp_lt C 97 dX8_findPatch_85 (by decide) (fun c_10 => ?_) (fun c_10 => ?_)
                · skip
                  have nc_10 : (m % w) < (cc % w) := (tn_ltI (tn_rem (rfl : nI m = nI m) e3 (by omega) (by omega) (by omega)) (tn_rem e_p0 e3 (by omega) (by omega) (by omega)) (by omega) (by omega)).mp c_10
                  refine tv_iinc (v := ((nI m) + 1)) (lv' := [(6, .int ((nI m) + 1)), (0, .ref (tv_ad c 0)), (1, .int p0), (2, .int p1), (3, .int (p0 / (s 3 0))), (4, .int (p0 - p0 / (s 3 0) * (s 3 0))), (5, .int (nI i))]) C dX8_findPatch_97 6 rfl rfl (by decide) rfl ?_
                  refine tv_goto C 33 dX8_findPatch_100 (by decide) ?_
                  refine tv_lsub [1, 2, 3, 4, 5, 6, 0] rfl ?_
                  exact ih33 (m + 1) _ r2 (by omega) (by exact pM_nv h1 (by omega) (by omega)) (by first | rfl | exact nI_1 _ | (simp only [c_2, c_6, c_7, nc_7, tn_d_nlt c_7, c_8, nc_8, tn_d_nlt c_8, c_9, nc_9, tn_d_nlt c_9, c_10, nc_10, tn_d_lt c_10, if_true, ↓reduceIte]; done) | (simp [c_2, c_6, c_7, nc_7, tn_d_nlt c_7, c_8, nc_8, tn_d_nlt c_8, c_9, nc_9, tn_d_nlt c_9, c_10, nc_10, tn_d_lt c_10, if_true]; done) | (exfalso; clear hR C; simp_all; done))
                · skip
                  have nc_10 : ¬ (m % w) < (cc % w) := tn_nf (tn_ltI (tn_rem (rfl : nI m = nI m) e3 (by omega) (by omega) (by omega)) (tn_rem e_p0 e3 (by omega) (by omega) (by omega)) (by omega) (by omega)) c_10
                  refine tv_aload_n C dX8_findPatch_88 rfl 0 rfl ?_
                  refine tv_iload C dX8_findPatch_89 5 rfl ?_
                  refine tv_iload C dX8_findPatch_91 6 rfl ?_
                  refine tv_iload_n C dX8_findPatch_93 rfl 2 rfl ?_
                  refine tv_callv (As := [.int (nI i), .int (nI m), .int p1]) (rest := []) (ci := 8) (cn := RX8) (T := TX8) (Nf := 35) C 0 (kX8_offer c s r2 n w nk cc i m k (nI i) (nI m) p1 (rfl : nI i = nI i) (by omega) (rfl : nI m = nI m) (by omega) e_p1 (by omega) hI (by omega) (by omega) e9 e3 hkn e7 hn hw hk (by omega) (by omega) (by omega) (by omega) h1) gX8_findPatch_X8_offer rfl yd_X8_offer ⟨rfl, rfl⟩ (by decide) (by decide) rfl rfl rfl rfl (Nat.le_of_ble_eq_true rfl) dX8_findPatch_94 (fun u_11 z_11 => ?_)
                  obtain ⟨r3, rfl, h3⟩ := z_11
                  show tv_V c 19 X (eM c s r3) 97 [(0, .ref (tv_ad c 0)), (1, .int p0), (2, .int p1), (3, .int (p0 / (s 3 0))), (4, .int (p0 - p0 / (s 3 0) * (s 3 0))), (5, .int (nI i)), (6, .int (nI m))] []
                  refine tv_iinc (v := ((nI m) + 1)) (lv' := [(6, .int ((nI m) + 1)), (0, .ref (tv_ad c 0)), (1, .int p0), (2, .int p1), (3, .int (p0 / (s 3 0))), (4, .int (p0 - p0 / (s 3 0) * (s 3 0))), (5, .int (nI i))]) C dX8_findPatch_97 6 rfl rfl (by decide) rfl ?_
                  refine tv_goto C 33 dX8_findPatch_100 (by decide) ?_
                  refine tv_lsub [1, 2, 3, 4, 5, 6, 0] rfl ?_
                  exact ih33 (m + 1) _ r3 (by omega) (by exact h3) (by first | rfl | exact nI_1 _ | (simp only [c_2, c_6, c_7, nc_7, tn_d_nlt c_7, c_8, nc_8, tn_d_nlt c_8, c_9, nc_9, tn_d_nlt c_9, c_10, nc_10, tn_d_nlt c_10, if_true, ↓reduceIte]; done) | (simp [c_2, c_6, c_7, nc_7, tn_d_nlt c_7, c_8, nc_8, tn_d_nlt c_8, c_9, nc_9, tn_d_nlt c_9, c_10, nc_10, tn_d_nlt c_10, if_true]; done) | (exfalso; clear hR C; simp_all; done))
      refine tv_lsub [1, 2, 3, 4, 5, 6, 0] rfl ?_
      exact hL33 (n - cc) cc _ rr (by omega) (by exact pM_skip h0 (fun x hx => pS_6 hw2.2.1 hw h_p0 hx)) (by exact e_p0)
  refine tv_lsub [3, 4, 5, 2, 1, 0] rfl ?_
  exact hL24 ((cc + 1) - 0) 0 _ (ts_s r 12 (-9)) (by omega) (by exact Or.inl ⟨rfl, fun x _ => Nat.not_lt_zero x⟩) (by first | (simp only [if_true, ↓reduceIte]; done) | rfl | (simp [if_true]; done) | (exfalso; clear hR C; simp_all; done))
set_option maxHeartbeats 1000000 in
set_option maxRecDepth 100000 in
theorem kX8_patch (c : tv_c) (s r : ts_T)  (p0 p1 p2 : Int32) (hI : iv s) : tv_Mi c 19 yX8_patch wsX8_patch { frames := 9, cells := 0, slots := 0, locals := 229 } [.ref (tv_ad c 0), .int p0, .int p1, .int p2] (eM c s r) (fun q_0 u_0 => q_0 = sp_patch s p0 p1 p2 ∧ ∃ r_0, u_0 = eM c s r_0) := by
  refine tv_metI (by decide +kernel) rfl rfl (Nat.le_of_ble_eq_true rfl) (fun X C hR => ?_)
  show tv_V c 19 X (eM c s r) 0 [(0, .ref (tv_ad c 0)), (1, .int p0), (2, .int p1), (3, .int p2)] []
  have hC := iv.hC hI
  obtain ⟨h, w, n, nk, nl, ny, nm, li, e2, e3, e9, hnw, hh, hw, hn, hz, hp, e7, hk, e8, hl, e4, hy, e5, hm, e6, hli, hcel, hkin, hban, hwei, hshe⟩ := id hI
  refine tv_aload_n C dX8_patch_0 rfl 0 rfl ?_
  refine tv_iload_n C dX8_patch_1 rfl 1 rfl ?_
  refine tv_calli (As := [.int p0]) (rest := []) (ci := 8) (cn := RX8) (T := TX8) (Nf := 35) C 0 (kX8_isCell c s r  p0 hC) gX8_patch_X8_isCell rfl yd_X8_isCell ⟨rfl, rfl⟩ (by decide) (by decide) rfl rfl rfl rfl (Nat.le_of_ble_eq_true rfl) dX8_patch_2 (fun q_1 u_1 z_1 => ?_)
  obtain ⟨rfl, rfl⟩ := z_1
  refine tv_if_eq C 16 dX8_patch_5 (by decide) (fun c_2 => ?_) (fun c_2 => ?_)
  · skip
    refine tv_iconst (v := (-1)) C dX8_patch_16 (by decide) ?_
    exact hR _ _ _ _ dX8_patch_17 ⟨by simp only [sp_patch, eq_true c_2, ↓reduceIte], r, by first | (simp only [eq_true c_2, if_true, ts_ss, ts_aa, ↓reduceIte]; done) | rfl | (simp [eq_true c_2, if_true, ts_ss, ts_aa]; done) | (exfalso; clear hR C; simp_all; done)⟩
  · skip
    obtain ⟨j_p0, hj_p0, ej_p0, ek_p0⟩ := in_ix e9 (by omega) c_2
    obtain ⟨fs_p0, ⟨b_p0, hb_p0, eb_p0⟩, fh_p0, fa_p0, fz_p0⟩ := hcel j_p0 hj_p0
    refine tv_aload_n C dX8_patch_8 rfl 0 rfl ?_
    refine tv_iload_n C dX8_patch_9 rfl 2 rfl ?_
    refine tv_calli (As := [.int p1]) (rest := []) (ci := 8) (cn := RX8) (T := TX8) (Nf := 35) C 0 (kX8_isCoat c s r  p1 ) gX8_patch_X8_isCoat rfl yd_X8_isCoat ⟨rfl, rfl⟩ (by decide) (by decide) rfl rfl rfl rfl (Nat.le_of_ble_eq_true rfl) dX8_patch_10 (fun q_3 u_3 z_3 => ?_)
    obtain ⟨rfl, rfl⟩ := z_3
    refine tv_if_ne C 18 dX8_patch_13 (by decide) (fun c_4 => ?_) (fun c_4 => ?_)
    · skip
      obtain ⟨j_p1, hj_p1, ej_p1, ek_p1⟩ := in_ix e7 (by omega) c_4
      refine tv_iload_n C dX8_patch_18 rfl 3 rfl ?_
      refine tv_iconst (v := 0) C dX8_patch_19 (by decide) ?_
      refine tv_iconst (v := 2) C dX8_patch_20 (by decide) ?_
      refine tv_callis (As := [.int p2, .int 0, .int 2]) (rest := []) C (kX8_within c s r  p2 0 2 ) gX8_patch_X8_within rfl yd_X8_within ⟨rfl, rfl⟩ (by decide) rfl rfl (Nat.le_of_ble_eq_true rfl) dX8_patch_21 (fun q_5 u_5 z_5 => ?_)
      obtain ⟨rfl, rfl⟩ := z_5
      refine tv_if_ne C 30 dX8_patch_24 (by decide) (fun c_6 => ?_) (fun c_6 => ?_)
      · skip
        obtain ⟨j_p2, hj_p2, ej_p2, ek_p2⟩ := in_in (b := 2) (by decide) c_6
        refine tv_aload_n C dX8_patch_30 rfl 0 rfl ?_
        refine tv_iload_n C dX8_patch_31 rfl 1 rfl ?_
        refine tv_iload_n C dX8_patch_32 rfl 2 rfl ?_
        refine tv_callv (As := [.int p0, .int p1]) (rest := []) (ci := 8) (cn := RX8) (T := TX8) (Nf := 35) C 0 (kX8_findPatch c s r j_p0 j_p1 p0 p1 ej_p0 (by omega) ej_p1 (by omega) hI (by rw [tk_e e9 (by omega)]; exact hj_p0) (by rw [tk_e e7 (by omega)]; exact hj_p1)) gX8_patch_X8_findPatch rfl yd_X8_findPatch ⟨rfl, rfl⟩ (by decide) (by decide) rfl rfl rfl rfl (Nat.le_of_ble_eq_true rfl) dX8_patch_33 (fun u_7 z_7 => ?_)
        obtain ⟨r2, rfl, hM⟩ := z_7
        show tv_V c 19 X (eM c s r2) 36 [(0, .ref (tv_ad c 0)), (1, .int p0), (2, .int p1), (3, .int p2)] []
        have ek9 := tk_e e9 (by omega)
        have ek3 := tk_e e3 (by omega)
        have hw2 := hp (by omega)
        have he := pM_end hM (by rw [ek9, ek3]; exact hnw) hh (by rw [ek3]; omega) (by rw [ek3]; exact hw) z_n9 (fun x hx => pS_7 (by rw [ek3]; exact hw2.2.1) (by rw [ek3]; exact hw) hx)
        refine tv_aload_n C dX8_patch_36 rfl 0 rfl ?_
        refine tv_get (ci := 8) (Cn := RX8) (T := TX8) (Nf := 35) (v := .int (r2 12 0)) C 0 (by decide) rfl rfl in_X8_patch_X8 32 (by decide) lk_X8_patch_201 rfl dX8_patch_37 ?_
        refine tv_bipush (v := (-9)) C dX8_patch_40 (by decide) ?_
        refine tv_icmp_ne C 50 dX8_patch_42 (by decide) (fun c_8 => ?_) (fun c_8 => ?_)
        · skip
          refine tv_iload_n C dX8_patch_50 rfl 3 rfl ?_
          refine tv_if_ne C 61 dX8_patch_51 (by decide) (fun c_9 => ?_) (fun c_9 => ?_)
          · skip
            refine tv_iload_n C dX8_patch_61 rfl 3 rfl ?_
            refine tv_iconst (v := 1) C dX8_patch_62 (by decide) ?_
            refine tv_icmp_ne C 73 dX8_patch_63 (by decide) (fun c_10 => ?_) (fun c_10 => ?_)
            · skip
              refine tv_aload_n C dX8_patch_73 rfl 0 rfl ?_
              refine tv_get (ci := 8) (Cn := RX8) (T := TX8) (Nf := 35) (v := .int (r2 14 0)) C 0 (by decide) rfl rfl in_X8_patch_X8 34 (by decide) lk_X8_patch_210 rfl dX8_patch_74 ?_
              exact hR _ _ _ _ dX8_patch_77 ⟨by rcases he with ⟨v1, q1⟩ | ⟨p, v1, q1, q2, q3, q4⟩ <;> first | exact absurd (by assumption) v1 | exact absurd v1 (by assumption) | (simp only [sp_patch, c_2, ek_p0, c_4, ek_p1, c_6, ek_p2, c_8, c_9, c_10, q1, ↓reduceIte]; done) | (rw [q2]; simp only [sp_patch, c_2, ek_p0, c_4, ek_p1, c_6, ek_p2, c_8, c_9, c_10, q1, ↓reduceIte]; done) | (rw [q3]; simp only [sp_patch, c_2, ek_p0, c_4, ek_p1, c_6, ek_p2, c_8, c_9, c_10, q1, ↓reduceIte]; done) | (rw [q4]; simp only [sp_patch, c_2, ek_p0, c_4, ek_p1, c_6, ek_p2, c_8, c_9, c_10, q1, ↓reduceIte]; done), r2, by first | (simp only [c_2, ek_p0, c_4, ek_p1, c_6, ek_p2, c_8, c_9, c_10, if_true, ts_ss, ts_aa, ↓reduceIte]; done) | rfl | (simp [c_2, ek_p0, c_4, ek_p1, c_6, ek_p2, c_8, c_9, c_10, if_true, ts_ss, ts_aa]; done) | (exfalso; clear hR C; simp_all; done)⟩
            · skip
              refine tv_aload_n C dX8_patch_66 rfl 0 rfl ?_
              refine tv_get (ci := 8) (Cn := RX8) (T := TX8) (Nf := 35) (v := .int (r2 13 0)) C 0 (by decide) rfl rfl in_X8_patch_X8 33 (by decide) lk_X8_patch_207 rfl dX8_patch_67 ?_
              refine tv_goto C 77 dX8_patch_70 (by decide) ?_
              exact hR _ _ _ _ dX8_patch_77 ⟨by rcases he with ⟨v1, q1⟩ | ⟨p, v1, q1, q2, q3, q4⟩ <;> first | exact absurd (by assumption) v1 | exact absurd v1 (by assumption) | (simp only [sp_patch, c_2, ek_p0, c_4, ek_p1, c_6, ek_p2, c_8, c_9, eq_true c_10, q1, ↓reduceIte]; done) | (rw [q2]; simp only [sp_patch, c_2, ek_p0, c_4, ek_p1, c_6, ek_p2, c_8, c_9, eq_true c_10, q1, ↓reduceIte]; done) | (rw [q3]; simp only [sp_patch, c_2, ek_p0, c_4, ek_p1, c_6, ek_p2, c_8, c_9, eq_true c_10, q1, ↓reduceIte]; done) | (rw [q4]; simp only [sp_patch, c_2, ek_p0, c_4, ek_p1, c_6, ek_p2, c_8, c_9, eq_true c_10, q1, ↓reduceIte]; done), r2, by first | (simp only [c_2, ek_p0, c_4, ek_p1, c_6, ek_p2, c_8, c_9, eq_true c_10, if_true, ts_ss, ts_aa, ↓reduceIte]; done) | rfl | (simp [c_2, ek_p0, c_4, ek_p1, c_6, ek_p2, c_8, c_9, eq_true c_10, if_true, ts_ss, ts_aa]; done) | (exfalso; clear hR C; simp_all; done)⟩
          · skip
            refine tv_aload_n C dX8_patch_54 rfl 0 rfl ?_
            refine tv_get (ci := 8) (Cn := RX8) (T := TX8) (Nf := 35) (v := .int (r2 12 0)) C 0 (by decide) rfl rfl in_X8_patch_X8 32 (by decide) lk_X8_patch_201 rfl dX8_patch_55 ?_
            refine tv_goto C 77 dX8_patch_58 (by decide) ?_
            exact hR _ _ _ _ dX8_patch_77 ⟨by rcases he with ⟨v1, q1⟩ | ⟨p, v1, q1, q2, q3, q4⟩ <;> first | exact absurd (by assumption) v1 | exact absurd v1 (by assumption) | (simp only [sp_patch, c_2, ek_p0, c_4, ek_p1, c_6, ek_p2, c_8, eq_true c_9, q1, ↓reduceIte]; done) | (rw [q2]; simp only [sp_patch, c_2, ek_p0, c_4, ek_p1, c_6, ek_p2, c_8, eq_true c_9, q1, ↓reduceIte]; done) | (rw [q3]; simp only [sp_patch, c_2, ek_p0, c_4, ek_p1, c_6, ek_p2, c_8, eq_true c_9, q1, ↓reduceIte]; done) | (rw [q4]; simp only [sp_patch, c_2, ek_p0, c_4, ek_p1, c_6, ek_p2, c_8, eq_true c_9, q1, ↓reduceIte]; done), r2, by first | (simp only [c_2, ek_p0, c_4, ek_p1, c_6, ek_p2, c_8, eq_true c_9, if_true, ts_ss, ts_aa, ↓reduceIte]; done) | rfl | (simp [c_2, ek_p0, c_4, ek_p1, c_6, ek_p2, c_8, eq_true c_9, if_true, ts_ss, ts_aa]; done) | (exfalso; clear hR C; simp_all; done)⟩
        · skip
          refine tv_bipush (v := (-9)) C dX8_patch_45 (by decide) ?_
          refine tv_goto C 77 dX8_patch_47 (by decide) ?_
          exact hR _ _ _ _ dX8_patch_77 ⟨by rcases he with ⟨v1, q1⟩ | ⟨p, v1, q1, q2, q3, q4⟩ <;> first | exact absurd (by assumption) v1 | exact absurd v1 (by assumption) | (simp only [sp_patch, c_2, ek_p0, c_4, ek_p1, c_6, ek_p2, eq_true c_8, q1, ↓reduceIte]; done) | (rw [q2]; simp only [sp_patch, c_2, ek_p0, c_4, ek_p1, c_6, ek_p2, eq_true c_8, q1, ↓reduceIte]; done) | (rw [q3]; simp only [sp_patch, c_2, ek_p0, c_4, ek_p1, c_6, ek_p2, eq_true c_8, q1, ↓reduceIte]; done) | (rw [q4]; simp only [sp_patch, c_2, ek_p0, c_4, ek_p1, c_6, ek_p2, eq_true c_8, q1, ↓reduceIte]; done), r2, by first | (simp only [c_2, ek_p0, c_4, ek_p1, c_6, ek_p2, eq_true c_8, if_true, ts_ss, ts_aa, ↓reduceIte]; done) | rfl | (simp [c_2, ek_p0, c_4, ek_p1, c_6, ek_p2, eq_true c_8, if_true, ts_ss, ts_aa]; done) | (exfalso; clear hR C; simp_all; done)⟩
      · skip
        refine tv_bipush (v := (-2)) C dX8_patch_27 (by decide) ?_
        exact hR _ _ _ _ dX8_patch_29 ⟨by simp only [sp_patch, c_2, ek_p0, c_4, ek_p1, eq_true c_6, ↓reduceIte], r, by first | (simp only [c_2, ek_p0, c_4, ek_p1, eq_true c_6, if_true, ts_ss, ts_aa, ↓reduceIte]; done) | rfl | (simp [c_2, ek_p0, c_4, ek_p1, eq_true c_6, if_true, ts_ss, ts_aa]; done) | (exfalso; clear hR C; simp_all; done)⟩
    · skip
      refine tv_iconst (v := (-1)) C dX8_patch_16 (by decide) ?_
      exact hR _ _ _ _ dX8_patch_17 ⟨by simp only [sp_patch, c_2, ek_p0, eq_true c_4, ↓reduceIte], r, by first | (simp only [c_2, ek_p0, eq_true c_4, if_true, ts_ss, ts_aa, ↓reduceIte]; done) | rfl | (simp [c_2, ek_p0, eq_true c_4, if_true, ts_ss, ts_aa]; done) | (exfalso; clear hR C; simp_all; done)⟩
